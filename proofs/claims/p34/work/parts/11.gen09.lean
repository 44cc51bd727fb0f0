section G09
variable {p : Program} {l : Launch} {e : Env} {R : Room} {s : State} {m : MethodId} {args : Array Value} {below : List Frame} {meth : Method} {c : Code} {E : gE}
/-! J5_length_8abf5 -/
def f_J5_length_8abf5 (N : Nat) (x0 : Int) (μ : Mm) : Rs :=
  ck (μ x0 (-2) = 1) <|
  some (μ x0 3, μ)
set_option maxHeartbeats 4000000 in
set_option maxRecDepth 100000 in
theorem c_J5_length_8abf5 (l : Launch) (E : gE) (N : Nat) (x0 : Int) (μ μ' : Mm) (r : Int) (h : f_J5_length_8abf5 N x0 μ = some (r, μ')) : gMet l E yJ5_length_8abf5 cJ5_length_8abf5 1 (some .int) 0 0 [vr E x0] (some (vi r)) (R32 r) μ μ' 0 0 := by
  refine g_ofW [1] (by first | (simp only [List.map_cons, List.map_nil, vr_cat]; done) | (simp only [List.map_cons, List.map_nil, vr_cat]; rfl)) (by decide) (by decide) (fun p e s m below meth c ls C hM hl => ?_)
  replace C : gCx p s m _ meth c cJ5_length_8abf5 1 (some .int) "length" RJ5 := C
  replace hl : lv_has ls 1 [(0, vr E x0)] := hl
  unfold f_J5_length_8abf5 at h
  refine m_aload_n (pc := 0) C dJ5_length_8abf5_0 rfl (lv_at hl 0 rfl) ?_
  obtain ⟨q1, h⟩ := ck_some h
  have gq1 := Gr_J4_count hM q1
  refine G_J4_count (pc := 1) C hM bw_2_52 q1 dJ5_length_8abf5_1 ?_
  cases h
  exact m_iret (pc := 4) C hM gq1 dJ5_length_8abf5_4
theorem hd_J5_length_8abf5 : yJ5_length_8abf5.cls ≠ "java/lang/invoke/MethodHandle" ∧ yJ5_length_8abf5.cls ≠ "java/lang/invoke/VarHandle" ∧ (parseMethodDescriptor yJ5_length_8abf5.desc).map (fun d => d.parameters.length) = some 0 := by decide +kernel

theorem VS_J5_length_8abf5 {p : Program} {l : Launch} {e : Env} {R : Room} {s : State} {m : MethodId} {args : Array Value} {below : List Frame} {meth : Method} {c : Code} {H : Heap} {locs : List Loc} {cells slots : Nat} {Q : State → Prop} {cc : ByteArray} {pc nL : Nat} {ls : Array Slot} {rest : List Value} {ret : Option FieldType} {nmm : String} {E : gE} {μ μ1 : Mm} {index : Nat} (C : gCx p s m args meth c cc nL ret nmm RJ4) (hM : MS E μ s H locs) {N : Nat} {x0 v : Int} (hc : f_J5_length_8abf5 N x0 μ = some (v, μ1)) (hck : μ x0 (-2) = 1) (h1 : Cond.methodLink RJ4 index yJ5_length_8abf5 ∈ bigL) (hR : 1 ≤ R.frames ∧ 20 ≤ R.locals) (hl : ls.size = nL) (hcat : RC rest 8) (hf : cells + 0 ≤ R.cells ∧ slots + 0 ≤ R.slots) (hdg : decode cc pc = .ok (.invokespecial index, 3)) (kk : (R32 v) → ∀ (H1 : Heap) (locs1 : List Loc), MS E μ1 s H1 locs1 → W p l e R s m args below meth c H1 locs1 (cells + 0) (slots + 0) Q (F0 m (pc + 3) ls (vi v :: rest))) : W p l e R s m args below meth c H locs cells slots Q (F0 m pc ls (vr E x0 :: rest)) := g_callSU C hM (c_J5_length_8abf5 l E N x0 μ μ1 v hc) hck h1 bw_5_36 bw_2_61 bw_4_36 bw_1_9 bw_4_37 ⟨by decide +kernel, hd_J5_length_8abf5.2.2⟩ hR rfl hl rfl hcat hf hdg kk
/-! J4_length_8abf5 -/
def f_J4_length_8abf5 (N : Nat) (x0 : Int) (μ : Mm) : Rs :=
  ck (μ x0 (-2) = 1) <|
  bd (f_J5_length_8abf5 N x0 μ) fun a2 μ3 =>
  some (a2, μ3)
set_option maxHeartbeats 4000000 in
set_option maxRecDepth 100000 in
theorem c_J4_length_8abf5 (l : Launch) (E : gE) (N : Nat) (x0 : Int) (μ μ' : Mm) (r : Int) (h : f_J4_length_8abf5 N x0 μ = some (r, μ')) : gMet l E yJ4_length_8abf5 cJ4_length_8abf5 1 (some .int) 1 20 [vr E x0] (some (vi r)) (R32 r) μ μ' 0 0 := by
  refine g_ofW [1] (by first | (simp only [List.map_cons, List.map_nil, vr_cat]; done) | (simp only [List.map_cons, List.map_nil, vr_cat]; rfl)) (by decide) (by decide) (fun p e s m below meth c ls C hM hl => ?_)
  replace C : gCx p s m _ meth c cJ4_length_8abf5 1 (some .int) "length" RJ4 := C
  replace hl : lv_has ls 1 [(0, vr E x0)] := hl
  unfold f_J4_length_8abf5 at h
  refine m_aload_n (pc := 0) C dJ4_length_8abf5_0 rfl (lv_at hl 0 rfl) ?_
  obtain ⟨q1, h⟩ := ck_some h
  obtain ⟨a2, μ3, ca2, h⟩ := bd_some h
  refine VS_J5_length_8abf5 (pc := 1) C hM ca2 q1 bw_4_35 ⟨Nat.le_of_ble_eq_true rfl, Nat.le_of_ble_eq_true rfl⟩ hl.1 rc0 ⟨Nat.le_refl _, Nat.le_refl _⟩ dJ4_length_8abf5_1 (fun ra2 H locs hM => ?_)
  cases h
  exact m_iret (pc := 4) C hM ra2 dJ4_length_8abf5_4
theorem hd_J4_length_8abf5 : yJ4_length_8abf5.cls ≠ "java/lang/invoke/MethodHandle" ∧ yJ4_length_8abf5.cls ≠ "java/lang/invoke/VarHandle" ∧ (parseMethodDescriptor yJ4_length_8abf5.desc).map (fun d => d.parameters.length) = some 0 := by decide +kernel

theorem V_J4_length_8abf5 {p : Program} {l : Launch} {e : Env} {R : Room} {s : State} {m : MethodId} {args : Array Value} {below : List Frame} {meth : Method} {c : Code} {H : Heap} {locs : List Loc} {cells slots : Nat} {Q : State → Prop} {cc : ByteArray} {pc nL : Nat} {ls : Array Slot} {rest : List Value} {ret : Option FieldType} {nmm own : String} {E : gE} {μ μ1 : Mm} {index : Nat} (C : gCx p s m args meth c cc nL ret nmm own) (hM : MS E μ s H locs) {N : Nat} {x0 v : Int} (hc : f_J4_length_8abf5 N x0 μ = some (v, μ1)) (hck : μ x0 (-2) = 1) (h1 : Cond.methodLink own index yJ4_length_8abf5 ∈ bigL) (hR : 2 ≤ R.frames ∧ 40 ≤ R.locals) (hl : ls.size = nL) (hcat : RC rest 8) (hf : cells + 0 ≤ R.cells ∧ slots + 0 ≤ R.slots) (hdg : decode cc pc = .ok (.invokevirtual index, 3)) (kk : (R32 v) → ∀ (H1 : Heap) (locs1 : List Loc), MS E μ1 s H1 locs1 → W p l e R s m args below meth c H1 locs1 (cells + 0) (slots + 0) Q (F0 m (pc + 3) ls (vi v :: rest))) : W p l e R s m args below meth c H locs cells slots Q (F0 m pc ls (vr E x0 :: rest)) := g_callV C KF_J4 hM (c_J4_length_8abf5 l E N x0 μ μ1 v hc) hck (gV h1 bw_4_32 bw_4_33 bw_1_10 bw_4_34) ⟨rfl, hd_J4_length_8abf5⟩ hR rfl hl rfl hcat hf hdg kk
/-! X7_documentLength -/
def f_X7_documentLength (N : Nat) (x0 x1 : Int) (μ : Mm) : Rs :=
  ck (μ x0 (-2) = 9) <|
  ck (μ (μ x0 0) (-2) = 8) <|
  bd (f_X6_findLot N (μ x0 0) x1 μ) fun a3 μ4 =>
  ck ((0 : Int) ≤ a3) <|
  if ¬ a3 = 0 then
    (ck (μ4 x0 (-2) = 9) <|
     ck ((10 : Int) ≤ 10 ∧ (2000 : Int) ≤ 2000) <|
     bd (f_X7_writeDocument N x0 x1 a3 μ4) fun a9 μ10 =>
     ck (μ10 x0 (-2) = 9) <|
     ck (μ10 (μ10 x0 5) (-2) = 1) <|
     bd (f_J4_length_8abf5 N (μ10 x0 5) μ10) fun a13 μ14 =>
     some (a13, μ14))
  else
  some ((-100000001), μ4)
set_option maxHeartbeats 4000000 in
set_option maxRecDepth 100000 in
theorem c_X7_documentLength (l : Launch) (E : gE) (N : Nat) (x0 x1 : Int) (μ μ' : Mm) (r : Int) (h : f_X7_documentLength N x0 x1 μ = some (r, μ')) (rx1 : R32 x1) : gMet l E yX7_documentLength cX7_documentLength 3 (some .int) 7 158 [vr E x0, vi x1] (some (vi r)) (R32 r) μ μ' 10 2000 := by
  refine g_ofW [1, 1] (by first | (simp only [List.map_cons, List.map_nil, vr_cat]; done) | (simp only [List.map_cons, List.map_nil, vr_cat]; rfl)) (by decide) (by decide) (fun p e s m below meth c ls C hM hl => ?_)
  replace C : gCx p s m _ meth c cX7_documentLength 3 (some .int) "documentLength" RX7 := C
  replace hl : lv_has ls 3 [(0, vr E x0), (1, vi x1)] := hl
  unfold f_X7_documentLength at h
  have hb : ((0 : Nat) : Int) + 10 ≤ 10 ∧ (0 : Int) ≤ 10 ∧ ((0 : Nat) : Int) + 2000 ≤ 2000 ∧ (0 : Int) ≤ 2000 := by decide
  refine m_aload_n (pc := 0) C dX7_documentLength_0 rfl (lv_at hl 0 rfl) ?_
  obtain ⟨q1, h⟩ := ck_some h
  refine G_X7_now (pc := 1) C hM bw_2_63 q1 dX7_documentLength_1 ?_
  refine m_iload_n (pc := 4) C dX7_documentLength_4 rfl (lv_at hl 1 rfl) ?_
  obtain ⟨q2, h⟩ := ck_some h
  obtain ⟨a3, μ4, ca3, h⟩ := bd_some h
  refine V_X6_findLot (pc := 5) C hM ca3 rx1 q2 bw_2_149 ⟨Nat.le_of_ble_eq_true rfl, Nat.le_of_ble_eq_true rfl⟩ hl.1 rc0 ⟨by show _ + 0 ≤ 10; omega, by show _ + 0 ≤ 2000; omega⟩ dX7_documentLength_5 (fun _ H locs hM => ?_)
  refine m_astore_n (pc := 8) C dX7_documentLength_8 rfl hl (by decide) (lvK1 0 rfl (Nat.ne_of_beq_eq_false rfl) (Nat.ne_of_beq_eq_false rfl) (lvK2 1 rfl (Nat.ne_of_beq_eq_false rfl) rfl lvK0)) (fun ls hl => ?_)
  refine m_aload_n (pc := 9) C dX7_documentLength_9 rfl (lv_at hl 0 rfl) ?_
  obtain ⟨q6, h⟩ := ck_some h
  refine m_ifnonnull (tgt := 16) (pc := 10) C q6 dX7_documentLength_10 (by decide) (fun c5 => ?_) (fun c5 => ?_)
  · have h := if_t h c5
    refine m_aload_n (pc := 16) C dX7_documentLength_16 rfl (lv_at hl 1 rfl) ?_
    refine m_iload_n (pc := 17) C dX7_documentLength_17 rfl (lv_at hl 2 rfl) ?_
    refine m_aload_n (pc := 18) C dX7_documentLength_18 rfl (lv_at hl 0 rfl) ?_
    obtain ⟨q7, h⟩ := ck_some h
    obtain ⟨q8, h⟩ := ck_some h
    obtain ⟨a9, μ10, ca9, h⟩ := bd_some h
    refine V_X7_writeDocument (pc := 19) C hM ca9 rx1 q7 bw_3_116 ⟨Nat.le_of_ble_eq_true rfl, Nat.le_of_ble_eq_true rfl⟩ hl.1 rc0 ⟨by show _ + 10 ≤ 10; omega, by show _ + 2000 ≤ 2000; omega⟩ dX7_documentLength_19 (fun _ H locs hM => ?_)
    replace hb : ((0 + 10 : Nat) : Int) + (10 - 10) ≤ 10 ∧ (0 : Int) ≤ 10 - 10 ∧ ((0 + 2000 : Nat) : Int) + (2000 - 2000) ≤ 2000 ∧ (0 : Int) ≤ 2000 - 2000 := by omega
    refine m_aload_n (pc := 22) C dX7_documentLength_22 rfl (lv_at hl 1 rfl) ?_
    obtain ⟨q11, h⟩ := ck_some h
    refine G_X7_document (pc := 23) C hM bw_2_68 q11 dX7_documentLength_23 ?_
    obtain ⟨q12, h⟩ := ck_some h
    obtain ⟨a13, μ14, ca13, h⟩ := bd_some h
    refine V_J4_length_8abf5 (pc := 26) C hM ca13 q12 bw_4_31 ⟨Nat.le_of_ble_eq_true rfl, Nat.le_of_ble_eq_true rfl⟩ hl.1 rc0 ⟨by show _ + 0 ≤ 10; omega, by show _ + 0 ≤ 2000; omega⟩ dX7_documentLength_26 (fun ra13 H locs hM => ?_)
    cases h
    refine W.widen (k := 10) (n := 2000) (by omega) (by omega) ?_
    exact m_iret (pc := 29) C hM ra13 dX7_documentLength_29
  · have h := if_f h c5
    refine m_ldc (n := -100000001) (pc := 13) C bw_2_92 rfl dX7_documentLength_13 ?_
    cases h
    refine W.widen (k := 10) (n := 2000) (by omega) (by omega) ?_
    exact m_iret (pc := 15) C hM rk_m100000001 dX7_documentLength_15
theorem hd_X7_documentLength : yX7_documentLength.cls ≠ "java/lang/invoke/MethodHandle" ∧ yX7_documentLength.cls ≠ "java/lang/invoke/VarHandle" ∧ (parseMethodDescriptor yX7_documentLength.desc).map (fun d => d.parameters.length) = some 1 := by decide +kernel

theorem V_X7_documentLength {p : Program} {l : Launch} {e : Env} {R : Room} {s : State} {m : MethodId} {args : Array Value} {below : List Frame} {meth : Method} {c : Code} {H : Heap} {locs : List Loc} {cells slots : Nat} {Q : State → Prop} {cc : ByteArray} {pc nL : Nat} {ls : Array Slot} {rest : List Value} {ret : Option FieldType} {nmm own : String} {E : gE} {μ μ1 : Mm} {index : Nat} (C : gCx p s m args meth c cc nL ret nmm own) (hM : MS E μ s H locs) {N : Nat} {x0 x1 v : Int} (hc : f_X7_documentLength N x0 x1 μ = some (v, μ1)) (rx1 : R32 x1) (hck : μ x0 (-2) = 9) (h1 : Cond.methodLink own index yX7_documentLength ∈ bigL) (hR : 8 ≤ R.frames ∧ 180 ≤ R.locals) (hl : ls.size = nL) (hcat : RC rest 8) (hf : cells + 10 ≤ R.cells ∧ slots + 2000 ≤ R.slots) (hdg : decode cc pc = .ok (.invokevirtual index, 3)) (kk : (R32 v) → ∀ (H1 : Heap) (locs1 : List Loc), MS E μ1 s H1 locs1 → W p l e R s m args below meth c H1 locs1 (cells + 10) (slots + 2000) Q (F0 m (pc + 3) ls (vi v :: rest))) : W p l e R s m args below meth c H locs cells slots Q (F0 m pc ls (vi x1 :: vr E x0 :: rest)) := g_callV C KF_X7 hM (c_X7_documentLength l E N x0 x1 μ μ1 v hc rx1) hck (gV h1 bw_3_113 bw_3_114 bw_1_1 bw_3_115) ⟨rfl, hd_X7_documentLength⟩ hR rfl hl rfl hcat hf hdg kk
/-! J5_charAt_5068e -/
def f_J5_charAt_5068e (N : Nat) (x0 x1 : Int) (μ : Mm) : Rs :=
  ck (μ x0 (-2) = 1) <|
  ck (μ x0 (-2) = 1) <|
  ck (μ x0 (-2) = 1) <|
  ck (μ (μ x0 0) (-2) = 21) <|
  nm (o_shr (μ (μ x0 0) (-1)) (μ x0 1)) fun a5 =>
  nm (min (μ x0 3) a5) fun a6 =>
  bd (f_J0_checkIndex_df160 N x1 a6 μ) fun a7 μ8 =>
  if ¬ (μ x0 1) = 0 then
    (none)
  else
  ck (μ8 (μ x0 0) (-2) = 21 ∧ (0 : Int) ≤ x1 ∧ x1 < μ8 (μ x0 0) (-1)) <|
  nm (o_and (μ8 (μ x0 0) x1) 255) fun a11 =>
  nm (o_i2c a11) fun a12 =>
  ck ((0 : Int) ≤ a12 ∧ a12 ≤ (65535 : Int)) <|
  some (a12, μ8)
set_option maxHeartbeats 4000000 in
set_option maxRecDepth 100000 in
theorem c_J5_charAt_5068e (l : Launch) (E : gE) (N : Nat) (x0 x1 : Int) (μ μ' : Mm) (r : Int) (h : f_J5_charAt_5068e N x0 x1 μ = some (r, μ')) (rx1 : R32 x1) : gMet l E yJ5_charAt_5068e cJ5_charAt_5068e 5 (some .char) 2 43 [vr E x0, vi x1] (some (vi r)) (R32 r) μ μ' 0 0 := by
  refine g_ofW [1, 1] (by first | (simp only [List.map_cons, List.map_nil, vr_cat]; done) | (simp only [List.map_cons, List.map_nil, vr_cat]; rfl)) (by decide) (by decide) (fun p e s m below meth c ls C hM hl => ?_)
  replace C : gCx p s m _ meth c cJ5_charAt_5068e 5 (some .char) "charAt" RJ5 := C
  replace hl : lv_has ls 5 [(0, vr E x0), (1, vi x1)] := hl
  unfold f_J5_charAt_5068e at h
  refine m_aload_n (pc := 0) C dJ5_charAt_5068e_0 rfl (lv_at hl 0 rfl) ?_
  obtain ⟨q1, h⟩ := ck_some h
  have gq1 := Gr_J4_coder hM q1
  refine G_J4_coder (pc := 1) C hM bw_2_50 q1 dJ5_charAt_5068e_1 ?_
  refine m_istore_n (pc := 4) C dJ5_charAt_5068e_4 rfl hl (by decide) (lvK1 0 rfl (Nat.ne_of_beq_eq_false rfl) (Nat.ne_of_beq_eq_false rfl) (lvK2 1 rfl (Nat.ne_of_beq_eq_false rfl) rfl lvK0)) (fun ls hl => ?_)
  refine m_aload_n (pc := 5) C dJ5_charAt_5068e_5 rfl (lv_at hl 1 rfl) ?_
  obtain ⟨q2, h⟩ := ck_some h
  refine G_J4_value (pc := 6) C hM bw_2_49 q2 dJ5_charAt_5068e_6 ?_
  refine m_astore_n (pc := 9) C dJ5_charAt_5068e_9 rfl hl (by decide) (lvK2 0 rfl (Nat.ne_of_beq_eq_false rfl) rfl (lvK1 1 rfl (Nat.ne_of_beq_eq_false rfl) (Nat.ne_of_beq_eq_false rfl) (lvK1 2 rfl (Nat.ne_of_beq_eq_false rfl) (Nat.ne_of_beq_eq_false rfl) lvK0))) (fun ls hl => ?_)
  refine m_aload_n (pc := 10) C dJ5_charAt_5068e_10 rfl (lv_at hl 2 rfl) ?_
  obtain ⟨q3, h⟩ := ck_some h
  have gq3 := Gr_J4_count hM q3
  refine G_J4_count (pc := 11) C hM bw_2_52 q3 dJ5_charAt_5068e_11 ?_
  refine m_aload_n (pc := 14) C dJ5_charAt_5068e_14 rfl (lv_at hl 0 rfl) ?_
  obtain ⟨q4, h⟩ := ck_some h
  have gq4 := Al_b hM q4
  refine m_alenB (pc := 15) C hM q4 dJ5_charAt_5068e_15 ?_
  refine m_iload_n (pc := 16) C dJ5_charAt_5068e_16 rfl (lv_at hl 1 rfl) ?_
  obtain ⟨a5, ea5, h⟩ := nm_some h
  have ra5 : R32 a5 := by rw [ea5]; exact R32_of _
  refine m_ishr (pc := 17) C dJ5_charAt_5068e_17 ea5 ?_
  obtain ⟨a6, ea6, h⟩ := nm_some h
  have ra6 : R32 a6 := by rw [ea6]; exact R32_min gq3 ra5
  refine m_mmin (pc := 18) C gq3 ra5 bw_4_49 hl.1 rc0 ⟨Nat.le_of_ble_eq_true rfl, Nat.le_of_ble_eq_true rfl⟩ ⟨Nat.le_refl _, Nat.le_refl _⟩ ea6 dJ5_charAt_5068e_18 ?_
  refine m_istore (pc := 21) C dJ5_charAt_5068e_21 hl (by decide) (lvK2 0 rfl (Nat.ne_of_beq_eq_false rfl) (vr_cat _ _) (lvK1 1 rfl (Nat.ne_of_beq_eq_false rfl) (Nat.ne_of_beq_eq_false rfl) (lvK1 3 rfl (Nat.ne_of_beq_eq_false rfl) (Nat.ne_of_beq_eq_false rfl) lvK0))) (fun ls hl => ?_)
  refine m_iload_n (pc := 23) C dJ5_charAt_5068e_23 rfl (lv_at hl 3 rfl) ?_
  refine m_iload (pc := 24) C dJ5_charAt_5068e_24 (lv_at hl 0 rfl) ?_
  obtain ⟨a7, μ8, ca7, h⟩ := bd_some h
  refine V_J0_checkIndex_df160 (pc := 26) C hM ca7 rx1 ra6 bw_4_50 ⟨Nat.le_of_ble_eq_true rfl, Nat.le_of_ble_eq_true rfl⟩ hl.1 rc0 ⟨Nat.le_refl _, Nat.le_refl _⟩ dJ5_charAt_5068e_26 (fun _ H locs hM => ?_)
  refine m_iload_n (pc := 29) C dJ5_charAt_5068e_29 rfl (lv_at hl 2 rfl) ?_
  refine m_if_ne (tgt := 42) (pc := 30) C gq1 dJ5_charAt_5068e_30 (by decide) (fun c9 => ?_) (fun c9 => ?_)
  · have h := if_t h c9
    refine m_aload_n (pc := 42) C dJ5_charAt_5068e_42 rfl (lv_at hl 1 rfl) ?_
    refine m_iload_n (pc := 43) C dJ5_charAt_5068e_43 rfl (lv_at hl 3 rfl) ?_
    cases h
  · have h := if_f h c9
    refine m_aload_n (pc := 33) C dJ5_charAt_5068e_33 rfl (lv_at hl 1 rfl) ?_
    refine m_iload_n (pc := 34) C dJ5_charAt_5068e_34 rfl (lv_at hl 3 rfl) ?_
    obtain ⟨q10, h⟩ := ck_some h
    have gq10 := Ar_bald hM q10.1 q10.2.1 q10.2.2
    refine m_bald (pc := 35) C hM q10.1 q10.2.1 q10.2.2 dJ5_charAt_5068e_35 ?_
    refine m_sipush (pc := 36) C dJ5_charAt_5068e_36 rfl ?_
    obtain ⟨a11, ea11, h⟩ := nm_some h
    have ra11 : R32 a11 := by rw [ea11]; exact R32_of _
    refine m_iand (pc := 39) C dJ5_charAt_5068e_39 ea11 ?_
    obtain ⟨a12, ea12, h⟩ := nm_some h
    have ra12 : R32 a12 := by rw [ea12]; exact R32_of _
    refine m_i2c (pc := 40) C dJ5_charAt_5068e_40 ea12 ?_
    obtain ⟨q13, h⟩ := ck_some h
    cases h
    exact m_zret (pc := 41) C (nar_c q13.1 q13.2) hM ra12 dJ5_charAt_5068e_41
theorem hd_J5_charAt_5068e : yJ5_charAt_5068e.cls ≠ "java/lang/invoke/MethodHandle" ∧ yJ5_charAt_5068e.cls ≠ "java/lang/invoke/VarHandle" ∧ (parseMethodDescriptor yJ5_charAt_5068e.desc).map (fun d => d.parameters.length) = some 1 := by decide +kernel

theorem VS_J5_charAt_5068e {p : Program} {l : Launch} {e : Env} {R : Room} {s : State} {m : MethodId} {args : Array Value} {below : List Frame} {meth : Method} {c : Code} {H : Heap} {locs : List Loc} {cells slots : Nat} {Q : State → Prop} {cc : ByteArray} {pc nL : Nat} {ls : Array Slot} {rest : List Value} {ret : Option FieldType} {nmm : String} {E : gE} {μ μ1 : Mm} {index : Nat} (C : gCx p s m args meth c cc nL ret nmm RJ4) (hM : MS E μ s H locs) {N : Nat} {x0 x1 v : Int} (hc : f_J5_charAt_5068e N x0 x1 μ = some (v, μ1)) (rx1 : R32 x1) (hck : μ x0 (-2) = 1) (h1 : Cond.methodLink RJ4 index yJ5_charAt_5068e ∈ bigL) (hR : 3 ≤ R.frames ∧ 67 ≤ R.locals) (hl : ls.size = nL) (hcat : RC rest 8) (hf : cells + 0 ≤ R.cells ∧ slots + 0 ≤ R.slots) (hdg : decode cc pc = .ok (.invokespecial index, 3)) (kk : (R32 v) → ∀ (H1 : Heap) (locs1 : List Loc), MS E μ1 s H1 locs1 → W p l e R s m args below meth c H1 locs1 (cells + 0) (slots + 0) Q (F0 m (pc + 3) ls (vi v :: rest))) : W p l e R s m args below meth c H locs cells slots Q (F0 m pc ls (vi x1 :: vr E x0 :: rest)) := g_callSU C hM (c_J5_charAt_5068e l E N x0 x1 μ μ1 v hc rx1) hck h1 bw_5_37 bw_2_61 bw_4_47 bw_1_9 bw_4_48 ⟨by decide +kernel, hd_J5_charAt_5068e.2.2⟩ hR rfl hl rfl hcat hf hdg kk
/-! J4_charAt_5068e -/
def f_J4_charAt_5068e (N : Nat) (x0 x1 : Int) (μ : Mm) : Rs :=
  ck (μ x0 (-2) = 1) <|
  bd (f_J5_charAt_5068e N x0 x1 μ) fun a2 μ3 =>
  ck ((0 : Int) ≤ a2 ∧ a2 ≤ (65535 : Int)) <|
  some (a2, μ3)
set_option maxHeartbeats 4000000 in
set_option maxRecDepth 100000 in
theorem c_J4_charAt_5068e (l : Launch) (E : gE) (N : Nat) (x0 x1 : Int) (μ μ' : Mm) (r : Int) (h : f_J4_charAt_5068e N x0 x1 μ = some (r, μ')) (rx1 : R32 x1) : gMet l E yJ4_charAt_5068e cJ4_charAt_5068e 2 (some .char) 3 67 [vr E x0, vi x1] (some (vi r)) (R32 r) μ μ' 0 0 := by
  refine g_ofW [1, 1] (by first | (simp only [List.map_cons, List.map_nil, vr_cat]; done) | (simp only [List.map_cons, List.map_nil, vr_cat]; rfl)) (by decide) (by decide) (fun p e s m below meth c ls C hM hl => ?_)
  replace C : gCx p s m _ meth c cJ4_charAt_5068e 2 (some .char) "charAt" RJ4 := C
  replace hl : lv_has ls 2 [(0, vr E x0), (1, vi x1)] := hl
  unfold f_J4_charAt_5068e at h
  refine m_aload_n (pc := 0) C dJ4_charAt_5068e_0 rfl (lv_at hl 0 rfl) ?_
  refine m_iload_n (pc := 1) C dJ4_charAt_5068e_1 rfl (lv_at hl 1 rfl) ?_
  obtain ⟨q1, h⟩ := ck_some h
  obtain ⟨a2, μ3, ca2, h⟩ := bd_some h
  refine VS_J5_charAt_5068e (pc := 2) C hM ca2 rx1 q1 bw_4_46 ⟨Nat.le_of_ble_eq_true rfl, Nat.le_of_ble_eq_true rfl⟩ hl.1 rc0 ⟨Nat.le_refl _, Nat.le_refl _⟩ dJ4_charAt_5068e_2 (fun ra2 H locs hM => ?_)
  obtain ⟨q4, h⟩ := ck_some h
  cases h
  exact m_zret (pc := 5) C (nar_c q4.1 q4.2) hM ra2 dJ4_charAt_5068e_5
theorem hd_J4_charAt_5068e : yJ4_charAt_5068e.cls ≠ "java/lang/invoke/MethodHandle" ∧ yJ4_charAt_5068e.cls ≠ "java/lang/invoke/VarHandle" ∧ (parseMethodDescriptor yJ4_charAt_5068e.desc).map (fun d => d.parameters.length) = some 1 := by decide +kernel

theorem V_J4_charAt_5068e {p : Program} {l : Launch} {e : Env} {R : Room} {s : State} {m : MethodId} {args : Array Value} {below : List Frame} {meth : Method} {c : Code} {H : Heap} {locs : List Loc} {cells slots : Nat} {Q : State → Prop} {cc : ByteArray} {pc nL : Nat} {ls : Array Slot} {rest : List Value} {ret : Option FieldType} {nmm own : String} {E : gE} {μ μ1 : Mm} {index : Nat} (C : gCx p s m args meth c cc nL ret nmm own) (hM : MS E μ s H locs) {N : Nat} {x0 x1 v : Int} (hc : f_J4_charAt_5068e N x0 x1 μ = some (v, μ1)) (rx1 : R32 x1) (hck : μ x0 (-2) = 1) (h1 : Cond.methodLink own index yJ4_charAt_5068e ∈ bigL) (hR : 4 ≤ R.frames ∧ 88 ≤ R.locals) (hl : ls.size = nL) (hcat : RC rest 8) (hf : cells + 0 ≤ R.cells ∧ slots + 0 ≤ R.slots) (hdg : decode cc pc = .ok (.invokevirtual index, 3)) (kk : (R32 v) → ∀ (H1 : Heap) (locs1 : List Loc), MS E μ1 s H1 locs1 → W p l e R s m args below meth c H1 locs1 (cells + 0) (slots + 0) Q (F0 m (pc + 3) ls (vi v :: rest))) : W p l e R s m args below meth c H locs cells slots Q (F0 m pc ls (vi x1 :: vr E x0 :: rest)) := g_callV C KF_J4 hM (c_J4_charAt_5068e l E N x0 x1 μ μ1 v hc rx1) hck (gV h1 bw_4_43 bw_4_44 bw_1_10 bw_4_45) ⟨rfl, hd_J4_charAt_5068e⟩ hR rfl hl rfl hcat hf hdg kk
/-! X7_documentAt -/
def f_X7_documentAt (N : Nat) (x0 x1 x2 : Int) (μ : Mm) : Rs :=
  ck (μ x0 (-2) = 9) <|
  ck (μ (μ x0 0) (-2) = 8) <|
  bd (f_X6_findLot N (μ x0 0) x1 μ) fun a3 μ4 =>
  ck ((0 : Int) ≤ a3) <|
  if ¬ a3 = 0 then
    (if 0 ≤ x2 then
       (ck (μ4 x0 (-2) = 9) <|
        ck ((10 : Int) ≤ 10 ∧ (2000 : Int) ≤ 2000) <|
        bd (f_X7_writeDocument N x0 x1 a3 μ4) fun a10 μ11 =>
        ck (μ11 x0 (-2) = 9) <|
        ck (μ11 (μ11 x0 5) (-2) = 1) <|
        bd (f_J4_length_8abf5 N (μ11 x0 5) μ11) fun a14 μ15 =>
        if a14 ≤ x2 then
          (some ((-100000005), μ15))
        else
        ck (μ15 x0 (-2) = 9) <|
        ck (μ15 (μ15 x0 5) (-2) = 1) <|
        bd (f_J4_charAt_5068e N (μ15 x0 5) x2 μ15) fun a19 μ20 =>
        some (a19, μ20))
     else
     some ((-100000002), μ4))
  else
  some ((-100000001), μ4)
set_option maxHeartbeats 4000000 in
set_option maxRecDepth 100000 in
theorem c_X7_documentAt (l : Launch) (E : gE) (N : Nat) (x0 x1 x2 : Int) (μ μ' : Mm) (r : Int) (h : f_X7_documentAt N x0 x1 x2 μ = some (r, μ')) (rx1 : R32 x1) (rx2 : R32 x2) : gMet l E yX7_documentAt cX7_documentAt 4 (some .int) 7 158 [vr E x0, vi x1, vi x2] (some (vi r)) (R32 r) μ μ' 10 2000 := by
  refine g_ofW [1, 1, 1] (by first | (simp only [List.map_cons, List.map_nil, vr_cat]; done) | (simp only [List.map_cons, List.map_nil, vr_cat]; rfl)) (by decide) (by decide) (fun p e s m below meth c ls C hM hl => ?_)
  replace C : gCx p s m _ meth c cX7_documentAt 4 (some .int) "documentAt" RX7 := C
  replace hl : lv_has ls 4 [(0, vr E x0), (1, vi x1), (2, vi x2)] := hl
  unfold f_X7_documentAt at h
  have hb : ((0 : Nat) : Int) + 10 ≤ 10 ∧ (0 : Int) ≤ 10 ∧ ((0 : Nat) : Int) + 2000 ≤ 2000 ∧ (0 : Int) ≤ 2000 := by decide
  refine m_aload_n (pc := 0) C dX7_documentAt_0 rfl (lv_at hl 0 rfl) ?_
  obtain ⟨q1, h⟩ := ck_some h
  refine G_X7_now (pc := 1) C hM bw_2_63 q1 dX7_documentAt_1 ?_
  refine m_iload_n (pc := 4) C dX7_documentAt_4 rfl (lv_at hl 1 rfl) ?_
  obtain ⟨q2, h⟩ := ck_some h
  obtain ⟨a3, μ4, ca3, h⟩ := bd_some h
  refine V_X6_findLot (pc := 5) C hM ca3 rx1 q2 bw_2_149 ⟨Nat.le_of_ble_eq_true rfl, Nat.le_of_ble_eq_true rfl⟩ hl.1 rc0 ⟨by show _ + 0 ≤ 10; omega, by show _ + 0 ≤ 2000; omega⟩ dX7_documentAt_5 (fun _ H locs hM => ?_)
  refine m_astore_n (pc := 8) C dX7_documentAt_8 rfl hl (by decide) (lvK1 0 rfl (Nat.ne_of_beq_eq_false rfl) (Nat.ne_of_beq_eq_false rfl) (lvK1 1 rfl (Nat.ne_of_beq_eq_false rfl) (Nat.ne_of_beq_eq_false rfl) (lvK2 2 rfl (Nat.ne_of_beq_eq_false rfl) rfl lvK0))) (fun ls hl => ?_)
  refine m_aload_n (pc := 9) C dX7_documentAt_9 rfl (lv_at hl 0 rfl) ?_
  obtain ⟨q6, h⟩ := ck_some h
  refine m_ifnonnull (tgt := 16) (pc := 10) C q6 dX7_documentAt_10 (by decide) (fun c5 => ?_) (fun c5 => ?_)
  · have h := if_t h c5
    refine m_iload_n (pc := 16) C dX7_documentAt_16 rfl (lv_at hl 3 rfl) ?_
    refine m_if_ge (tgt := 23) (pc := 17) C rx2 dX7_documentAt_17 (by decide) (fun c7 => ?_) (fun c7 => ?_)
    · have h := if_t h c7
      refine m_aload_n (pc := 23) C dX7_documentAt_23 rfl (lv_at hl 1 rfl) ?_
      refine m_iload_n (pc := 24) C dX7_documentAt_24 rfl (lv_at hl 2 rfl) ?_
      refine m_aload_n (pc := 25) C dX7_documentAt_25 rfl (lv_at hl 0 rfl) ?_
      obtain ⟨q8, h⟩ := ck_some h
      obtain ⟨q9, h⟩ := ck_some h
      obtain ⟨a10, μ11, ca10, h⟩ := bd_some h
      refine V_X7_writeDocument (pc := 26) C hM ca10 rx1 q8 bw_3_116 ⟨Nat.le_of_ble_eq_true rfl, Nat.le_of_ble_eq_true rfl⟩ hl.1 rc0 ⟨by show _ + 10 ≤ 10; omega, by show _ + 2000 ≤ 2000; omega⟩ dX7_documentAt_26 (fun _ H locs hM => ?_)
      replace hb : ((0 + 10 : Nat) : Int) + (10 - 10) ≤ 10 ∧ (0 : Int) ≤ 10 - 10 ∧ ((0 + 2000 : Nat) : Int) + (2000 - 2000) ≤ 2000 ∧ (0 : Int) ≤ 2000 - 2000 := by omega
      refine m_iload_n (pc := 29) C dX7_documentAt_29 rfl (lv_at hl 3 rfl) ?_
      refine m_aload_n (pc := 30) C dX7_documentAt_30 rfl (lv_at hl 1 rfl) ?_
      obtain ⟨q12, h⟩ := ck_some h
      refine G_X7_document (pc := 31) C hM bw_2_68 q12 dX7_documentAt_31 ?_
      obtain ⟨q13, h⟩ := ck_some h
      obtain ⟨a14, μ15, ca14, h⟩ := bd_some h
      refine V_J4_length_8abf5 (pc := 34) C hM ca14 q13 bw_4_31 ⟨Nat.le_of_ble_eq_true rfl, Nat.le_of_ble_eq_true rfl⟩ hl.1 (rcI rc0) ⟨by show _ + 0 ≤ 10; omega, by show _ + 0 ≤ 2000; omega⟩ dX7_documentAt_34 (fun ra14 H locs hM => ?_)
      refine m_icmp_ge (tgt := 51) (pc := 37) C rx2 ra14 dX7_documentAt_37 (by decide) (fun c16 => ?_) (fun c16 => ?_)
      · have h := if_t h c16
        refine m_ldc (n := -100000005) (pc := 51) C bw_2_216 rfl dX7_documentAt_51 ?_
        cases h
        refine W.widen (k := 10) (n := 2000) (by omega) (by omega) ?_
        exact m_iret (pc := 53) C hM rk_m100000005 dX7_documentAt_53
      · have h := if_f h c16
        refine m_aload_n (pc := 40) C dX7_documentAt_40 rfl (lv_at hl 1 rfl) ?_
        obtain ⟨q17, h⟩ := ck_some h
        refine G_X7_document (pc := 41) C hM bw_2_68 q17 dX7_documentAt_41 ?_
        refine m_iload_n (pc := 44) C dX7_documentAt_44 rfl (lv_at hl 3 rfl) ?_
        obtain ⟨q18, h⟩ := ck_some h
        obtain ⟨a19, μ20, ca19, h⟩ := bd_some h
        refine V_J4_charAt_5068e (pc := 45) C hM ca19 rx2 q18 bw_4_42 ⟨Nat.le_of_ble_eq_true rfl, Nat.le_of_ble_eq_true rfl⟩ hl.1 rc0 ⟨by show _ + 0 ≤ 10; omega, by show _ + 0 ≤ 2000; omega⟩ dX7_documentAt_45 (fun ra19 H locs hM => ?_)
        refine m_goto (tgt := 53) (pc := 48) C dX7_documentAt_48 (by decide) ?_
        cases h
        refine W.widen (k := 10) (n := 2000) (by omega) (by omega) ?_
        exact m_iret (pc := 53) C hM ra19 dX7_documentAt_53
    · have h := if_f h c7
      refine m_ldc (n := -100000002) (pc := 20) C bw_2_93 rfl dX7_documentAt_20 ?_
      cases h
      refine W.widen (k := 10) (n := 2000) (by omega) (by omega) ?_
      exact m_iret (pc := 22) C hM rk_m100000002 dX7_documentAt_22
  · have h := if_f h c5
    refine m_ldc (n := -100000001) (pc := 13) C bw_2_92 rfl dX7_documentAt_13 ?_
    cases h
    refine W.widen (k := 10) (n := 2000) (by omega) (by omega) ?_
    exact m_iret (pc := 15) C hM rk_m100000001 dX7_documentAt_15
theorem hd_X7_documentAt : yX7_documentAt.cls ≠ "java/lang/invoke/MethodHandle" ∧ yX7_documentAt.cls ≠ "java/lang/invoke/VarHandle" ∧ (parseMethodDescriptor yX7_documentAt.desc).map (fun d => d.parameters.length) = some 2 := by decide +kernel

theorem V_X7_documentAt {p : Program} {l : Launch} {e : Env} {R : Room} {s : State} {m : MethodId} {args : Array Value} {below : List Frame} {meth : Method} {c : Code} {H : Heap} {locs : List Loc} {cells slots : Nat} {Q : State → Prop} {cc : ByteArray} {pc nL : Nat} {ls : Array Slot} {rest : List Value} {ret : Option FieldType} {nmm own : String} {E : gE} {μ μ1 : Mm} {index : Nat} (C : gCx p s m args meth c cc nL ret nmm own) (hM : MS E μ s H locs) {N : Nat} {x0 x1 x2 v : Int} (hc : f_X7_documentAt N x0 x1 x2 μ = some (v, μ1)) (rx1 : R32 x1) (rx2 : R32 x2) (hck : μ x0 (-2) = 9) (h1 : Cond.methodLink own index yX7_documentAt ∈ bigL) (hR : 8 ≤ R.frames ∧ 181 ≤ R.locals) (hl : ls.size = nL) (hcat : RC rest 8) (hf : cells + 10 ≤ R.cells ∧ slots + 2000 ≤ R.slots) (hdg : decode cc pc = .ok (.invokevirtual index, 3)) (kk : (R32 v) → ∀ (H1 : Heap) (locs1 : List Loc), MS E μ1 s H1 locs1 → W p l e R s m args below meth c H1 locs1 (cells + 10) (slots + 2000) Q (F0 m (pc + 3) ls (vi v :: rest))) : W p l e R s m args below meth c H locs cells slots Q (F0 m pc ls (vi x2 :: vi x1 :: vr E x0 :: rest)) := g_callV C KF_X7 hM (c_X7_documentAt l E N x0 x1 x2 μ μ1 v hc rx1 rx2) hck (gV h1 bw_4_39 bw_4_40 bw_1_1 bw_4_41) ⟨rfl, hd_X7_documentAt⟩ hR rfl hl rfl hcat hf hdg kk
/-! X7_nextDeadline -/
def f_X7_nextDeadline_b69 (N : Nat) : Nat → Int → Int → Int → Int → Mm → Rs
  | 0, _, _, _, _, _ => none
  | n + 1, x0, x1, x2, x3, μ =>
    ck (μ x0 (-2) = 9) <|
    ck (μ (μ x0 0) (-2) = 8) <|
    if (μ (μ x0 0) 6) ≤ x3 then
      (some (x1, μ))
    else
    ck (μ x0 (-2) = 9) <|
    ck (μ (μ x0 0) (-2) = 8) <|
    ck (μ (μ (μ x0 0) 3) (-2) = 29 ∧ (0 : Int) ≤ x3 ∧ x3 < μ (μ (μ x0 0) 3) (-1)) <|
    ck (μ (μ (μ (μ x0 0) 3) x3) (-2) = 2) <|
    bd (f_X0_endsBefore N (μ (μ (μ x0 0) 3) x3) x2 μ) fun a8 μ9 =>
    if a8 = 0 then
      (nm (w32 (x3 + 1)) fun a11 =>
       f_X7_nextDeadline_b69 N n x0 x1 x2 a11 μ9)
    else
    ck (μ9 x0 (-2) = 9) <|
    ck (μ9 (μ9 x0 0) (-2) = 8) <|
    ck (μ9 (μ9 (μ9 x0 0) 3) (-2) = 29 ∧ (0 : Int) ≤ x3 ∧ x3 < μ9 (μ9 (μ9 x0 0) 3) (-1)) <|
    ck (μ9 (μ9 (μ9 (μ9 x0 0) 3) x3) (-2) = 2) <|
    nm (w32 (100 + x3)) fun a16 =>
    nm (w32 (x3 + 1)) fun a17 =>
    f_X7_nextDeadline_b69 N n x0 a16 (μ9 (μ9 (μ9 (μ9 x0 0) 3) x3) 3) a17 μ9
def f_X7_nextDeadline_b19 (N : Nat) : Nat → Int → Int → Int → Int → Mm → Rs
  | 0, _, _, _, _, _ => none
  | n + 1, x0, x1, x2, x3, μ =>
    ck (μ x0 (-2) = 9) <|
    ck (μ (μ x0 0) (-2) = 8) <|
    if (μ (μ x0 0) 5) ≤ x3 then
      (f_X7_nextDeadline_b69 N N x0 x1 x2 0 μ)
    else
    ck (μ x0 (-2) = 9) <|
    ck (μ (μ x0 0) (-2) = 8) <|
    ck (μ (μ (μ x0 0) 2) (-2) = 28 ∧ (0 : Int) ≤ x3 ∧ x3 < μ (μ (μ x0 0) 2) (-1)) <|
    ck (μ (μ (μ (μ x0 0) 2) x3) (-2) = 4) <|
    bd (f_X2_endsBefore N (μ (μ (μ x0 0) 2) x3) x2 μ) fun a8 μ9 =>
    if a8 = 0 then
      (nm (w32 (x3 + 1)) fun a11 =>
       f_X7_nextDeadline_b19 N n x0 x1 x2 a11 μ9)
    else
    ck (μ9 x0 (-2) = 9) <|
    ck (μ9 (μ9 x0 0) (-2) = 8) <|
    ck (μ9 (μ9 (μ9 x0 0) 2) (-2) = 28 ∧ (0 : Int) ≤ x3 ∧ x3 < μ9 (μ9 (μ9 x0 0) 2) (-1)) <|
    ck (μ9 (μ9 (μ9 (μ9 x0 0) 2) x3) (-2) = 4) <|
    nm (w32 (x3 + 1)) fun a16 =>
    f_X7_nextDeadline_b19 N n x0 x3 (μ9 (μ9 (μ9 (μ9 x0 0) 2) x3) 5) a16 μ9
def f_X7_nextDeadline (N : Nat) (x0 : Int) (μ : Mm) : Rs :=
  ck (μ x0 (-2) = 9) <|
  ck (μ (μ x0 0) (-2) = 8) <|
  nm (w32 ((μ (μ x0 0) 8) + 1000)) fun a3 =>
  nm (w32 (a3 + 1)) fun a4 =>
  f_X7_nextDeadline_b19 N N x0 ((-100000005)) a4 0 μ
set_option maxHeartbeats 4000000 in
set_option maxRecDepth 100000 in
theorem k_X7_nextDeadline_b69 (C : gCx p s m args meth c cX7_nextDeadline 4 (some .int) "nextDeadline" RX7) (N : Nat) {r : Int} {μ' : Mm} : ∀ (n : Nat), ∀ (x0 x1 x2 x3 : Int) (μ : Mm), f_X7_nextDeadline_b69 N n x0 x1 x2 x3 μ = some (r, μ') → R32 x1 → R32 x2 → R32 x3 → ∀ (H : Heap) (locs : List Loc) (ls : Array Slot), MS E μ s H locs → lv_has ls 4 [(0, vr E x0), (1, vi x1), (2, vi x2), (3, vi x3)] → W p l e ({ frames := 2, cells := 0, slots := 0, locals := 41 } : Room) s m args below meth c H locs 0 0 (MQ below (gQ E (some (vi r)) (R32 r) μ') args s 0 0 (gA E)) (F0 m 69 ls []) := by
  intro n
  induction n with
  | zero => intro x0 x1 x2 x3 μ h; simp [f_X7_nextDeadline_b69] at h
  | succ n ih =>
    intro x0 x1 x2 x3 μ h rx1 rx2 rx3 H locs ls hM hl
    rw [f_X7_nextDeadline_b69] at h
    refine m_iload_n (pc := 69) C dX7_nextDeadline_69 rfl (lv_at hl 3 rfl) ?_
    refine m_aload_n (pc := 70) C dX7_nextDeadline_70 rfl (lv_at hl 0 rfl) ?_
    obtain ⟨q1, h⟩ := ck_some h
    refine G_X7_now (pc := 71) C hM bw_2_63 q1 dX7_nextDeadline_71 ?_
    obtain ⟨q2, h⟩ := ck_some h
    have gq2 := Gr_X6_exportCount hM q2
    refine G_X6_exportCount (pc := 74) C hM bw_1_192 q2 dX7_nextDeadline_74 ?_
    refine m_icmp_ge (tgt := 120) (pc := 77) C rx3 gq2 dX7_nextDeadline_77 (by decide) (fun c3 => ?_) (fun c3 => ?_)
    · have h := if_t h c3
      refine m_iload_n (pc := 120) C dX7_nextDeadline_120 rfl (lv_at hl 1 rfl) ?_
      cases h
      exact m_iret (pc := 121) C hM rx1 dX7_nextDeadline_121
    · have h := if_f h c3
      refine m_aload_n (pc := 80) C dX7_nextDeadline_80 rfl (lv_at hl 0 rfl) ?_
      obtain ⟨q4, h⟩ := ck_some h
      refine G_X7_now (pc := 81) C hM bw_2_63 q4 dX7_nextDeadline_81 ?_
      obtain ⟨q5, h⟩ := ck_some h
      refine G_X6_exports (pc := 84) C hM bw_1_186 q5 dX7_nextDeadline_84 ?_
      refine m_iload_n (pc := 87) C dX7_nextDeadline_87 rfl (lv_at hl 3 rfl) ?_
      obtain ⟨q6, h⟩ := ck_some h
      refine m_aald (pc := 88) C hM q6.1 (by decide) (by decide) q6.2.1 q6.2.2 dX7_nextDeadline_88 ?_
      refine m_iload_n (pc := 89) C dX7_nextDeadline_89 rfl (lv_at hl 2 rfl) ?_
      obtain ⟨q7, h⟩ := ck_some h
      obtain ⟨a8, μ9, ca8, h⟩ := bd_some h
      refine V_X0_endsBefore (pc := 90) C hM ca8 rx2 q7 bw_2_235 ⟨Nat.le_of_ble_eq_true rfl, Nat.le_of_ble_eq_true rfl⟩ hl.1 rc0 ⟨Nat.le_refl _, Nat.le_refl _⟩ dX7_nextDeadline_90 (fun ra8 H locs hM => ?_)
      refine m_if_eq (tgt := 114) (pc := 93) C ra8 dX7_nextDeadline_93 (by decide) (fun c10 => ?_) (fun c10 => ?_)
      · have h := if_t h c10
        obtain ⟨a11, ea11, h⟩ := nm_some h
        have ra11 : R32 a11 := by rw [ea11]; exact w32_R _
        refine m_iinc (k := 3) (pc := 114) C dX7_nextDeadline_114 hl rfl (by decide) ea11 (lvK1 0 rfl (Nat.ne_of_beq_eq_false rfl) (Nat.ne_of_beq_eq_false rfl) (lvK1 1 rfl (Nat.ne_of_beq_eq_false rfl) (Nat.ne_of_beq_eq_false rfl) (lvK2 2 rfl (Nat.ne_of_beq_eq_false rfl) rfl lvK0))) (fun ls hl => ?_)
        refine m_goto (tgt := 69) (pc := 117) C dX7_nextDeadline_117 (by decide) ?_
        exact ih _ _ _ _ _ h rx1 rx2 ra11 _ _ _ hM (lv_sub hl [1, 2, 3, 0] rfl)
      · have h := if_f h c10
        refine m_aload_n (pc := 96) C dX7_nextDeadline_96 rfl (lv_at hl 0 rfl) ?_
        obtain ⟨q12, h⟩ := ck_some h
        refine G_X7_now (pc := 97) C hM bw_2_63 q12 dX7_nextDeadline_97 ?_
        obtain ⟨q13, h⟩ := ck_some h
        refine G_X6_exports (pc := 100) C hM bw_1_186 q13 dX7_nextDeadline_100 ?_
        refine m_iload_n (pc := 103) C dX7_nextDeadline_103 rfl (lv_at hl 3 rfl) ?_
        obtain ⟨q14, h⟩ := ck_some h
        refine m_aald (pc := 104) C hM q14.1 (by decide) (by decide) q14.2.1 q14.2.2 dX7_nextDeadline_104 ?_
        obtain ⟨q15, h⟩ := ck_some h
        have gq15 := Gr_X0_deadline hM q15
        refine G_X0_deadline (pc := 105) C hM bw_1_165 q15 dX7_nextDeadline_105 ?_
        refine m_istore_n (pc := 108) C dX7_nextDeadline_108 rfl hl (by decide) (lvK1 0 rfl (Nat.ne_of_beq_eq_false rfl) (Nat.ne_of_beq_eq_false rfl) (lvK1 3 rfl (Nat.ne_of_beq_eq_false rfl) (Nat.ne_of_beq_eq_false rfl) lvK0)) (fun ls hl => ?_)
        refine m_bipush (pc := 109) C dX7_nextDeadline_109 rfl ?_
        refine m_iload_n (pc := 111) C dX7_nextDeadline_111 rfl (lv_at hl 2 rfl) ?_
        obtain ⟨a16, ea16, h⟩ := nm_some h
        have ra16 : R32 a16 := by rw [ea16]; exact w32_R _
        refine m_iadd (pc := 112) C dX7_nextDeadline_112 ea16 ?_
        refine m_istore_n (pc := 113) C dX7_nextDeadline_113 rfl hl (by decide) (lvK1 0 rfl (Nat.ne_of_beq_eq_false rfl) (Nat.ne_of_beq_eq_false rfl) (lvK2 1 rfl (Nat.ne_of_beq_eq_false rfl) (vr_cat _ _) (lvK1 2 rfl (Nat.ne_of_beq_eq_false rfl) (Nat.ne_of_beq_eq_false rfl) lvK0))) (fun ls hl => ?_)
        obtain ⟨a17, ea17, h⟩ := nm_some h
        have ra17 : R32 a17 := by rw [ea17]; exact w32_R _
        refine m_iinc (k := 3) (pc := 114) C dX7_nextDeadline_114 hl rfl (by decide) ea17 (lvK1 0 rfl (Nat.ne_of_beq_eq_false rfl) (Nat.ne_of_beq_eq_false rfl) (lvK2 1 rfl (Nat.ne_of_beq_eq_false rfl) rfl (lvK1 2 rfl (Nat.ne_of_beq_eq_false rfl) (Nat.ne_of_beq_eq_false rfl) lvK0))) (fun ls hl => ?_)
        refine m_goto (tgt := 69) (pc := 117) C dX7_nextDeadline_117 (by decide) ?_
        exact ih _ _ _ _ _ h ra16 gq15 ra17 _ _ _ hM (lv_sub hl [3, 1, 2, 0] rfl)
set_option maxHeartbeats 4000000 in
set_option maxRecDepth 100000 in
theorem k_X7_nextDeadline_b19 (C : gCx p s m args meth c cX7_nextDeadline 4 (some .int) "nextDeadline" RX7) (N : Nat) {r : Int} {μ' : Mm} : ∀ (n : Nat), ∀ (x0 x1 x2 x3 : Int) (μ : Mm), f_X7_nextDeadline_b19 N n x0 x1 x2 x3 μ = some (r, μ') → R32 x1 → R32 x2 → R32 x3 → ∀ (H : Heap) (locs : List Loc) (ls : Array Slot), MS E μ s H locs → lv_has ls 4 [(0, vr E x0), (1, vi x1), (2, vi x2), (3, vi x3)] → W p l e ({ frames := 2, cells := 0, slots := 0, locals := 41 } : Room) s m args below meth c H locs 0 0 (MQ below (gQ E (some (vi r)) (R32 r) μ') args s 0 0 (gA E)) (F0 m 19 ls []) := by
  intro n
  induction n with
  | zero => intro x0 x1 x2 x3 μ h; simp [f_X7_nextDeadline_b19] at h
  | succ n ih =>
    intro x0 x1 x2 x3 μ h rx1 rx2 rx3 H locs ls hM hl
    rw [f_X7_nextDeadline_b19] at h
    refine m_iload_n (pc := 19) C dX7_nextDeadline_19 rfl (lv_at hl 3 rfl) ?_
    refine m_aload_n (pc := 20) C dX7_nextDeadline_20 rfl (lv_at hl 0 rfl) ?_
    obtain ⟨q1, h⟩ := ck_some h
    refine G_X7_now (pc := 21) C hM bw_2_63 q1 dX7_nextDeadline_21 ?_
    obtain ⟨q2, h⟩ := ck_some h
    have gq2 := Gr_X6_lotCount hM q2
    refine G_X6_lotCount (pc := 24) C hM bw_1_190 q2 dX7_nextDeadline_24 ?_
    refine m_icmp_ge (tgt := 67) (pc := 27) C rx3 gq2 dX7_nextDeadline_27 (by decide) (fun c3 => ?_) (fun c3 => ?_)
    · have h := if_t h c3
      refine m_iconst (pc := 67) C dX7_nextDeadline_67 ?_
      refine m_istore_n (pc := 68) C dX7_nextDeadline_68 rfl hl (by decide) (lvK1 0 rfl (Nat.ne_of_beq_eq_false rfl) (Nat.ne_of_beq_eq_false rfl) (lvK1 1 rfl (Nat.ne_of_beq_eq_false rfl) (Nat.ne_of_beq_eq_false rfl) (lvK2 2 rfl (Nat.ne_of_beq_eq_false rfl) rfl lvK0))) (fun ls hl => ?_)
      exact k_X7_nextDeadline_b69 C N N _ _ _ _ _ h rx1 rx2 rk_0 _ _ _ hM (lv_sub hl [1, 2, 3, 0] rfl)
    · have h := if_f h c3
      refine m_aload_n (pc := 30) C dX7_nextDeadline_30 rfl (lv_at hl 0 rfl) ?_
      obtain ⟨q4, h⟩ := ck_some h
      refine G_X7_now (pc := 31) C hM bw_2_63 q4 dX7_nextDeadline_31 ?_
      obtain ⟨q5, h⟩ := ck_some h
      refine G_X6_lots (pc := 34) C hM bw_1_184 q5 dX7_nextDeadline_34 ?_
      refine m_iload_n (pc := 37) C dX7_nextDeadline_37 rfl (lv_at hl 3 rfl) ?_
      obtain ⟨q6, h⟩ := ck_some h
      refine m_aald (pc := 38) C hM q6.1 (by decide) (by decide) q6.2.1 q6.2.2 dX7_nextDeadline_38 ?_
      refine m_iload_n (pc := 39) C dX7_nextDeadline_39 rfl (lv_at hl 2 rfl) ?_
      obtain ⟨q7, h⟩ := ck_some h
      obtain ⟨a8, μ9, ca8, h⟩ := bd_some h
      refine V_X2_endsBefore (pc := 40) C hM ca8 rx2 q7 bw_2_234 ⟨Nat.le_of_ble_eq_true rfl, Nat.le_of_ble_eq_true rfl⟩ hl.1 rc0 ⟨Nat.le_refl _, Nat.le_refl _⟩ dX7_nextDeadline_40 (fun ra8 H locs hM => ?_)
      refine m_if_eq (tgt := 61) (pc := 43) C ra8 dX7_nextDeadline_43 (by decide) (fun c10 => ?_) (fun c10 => ?_)
      · have h := if_t h c10
        obtain ⟨a11, ea11, h⟩ := nm_some h
        have ra11 : R32 a11 := by rw [ea11]; exact w32_R _
        refine m_iinc (k := 3) (pc := 61) C dX7_nextDeadline_61 hl rfl (by decide) ea11 (lvK1 0 rfl (Nat.ne_of_beq_eq_false rfl) (Nat.ne_of_beq_eq_false rfl) (lvK1 1 rfl (Nat.ne_of_beq_eq_false rfl) (Nat.ne_of_beq_eq_false rfl) (lvK2 2 rfl (Nat.ne_of_beq_eq_false rfl) rfl lvK0))) (fun ls hl => ?_)
        refine m_goto (tgt := 19) (pc := 64) C dX7_nextDeadline_64 (by decide) ?_
        exact ih _ _ _ _ _ h rx1 rx2 ra11 _ _ _ hM (lv_sub hl [1, 2, 3, 0] rfl)
      · have h := if_f h c10
        refine m_aload_n (pc := 46) C dX7_nextDeadline_46 rfl (lv_at hl 0 rfl) ?_
        obtain ⟨q12, h⟩ := ck_some h
        refine G_X7_now (pc := 47) C hM bw_2_63 q12 dX7_nextDeadline_47 ?_
        obtain ⟨q13, h⟩ := ck_some h
        refine G_X6_lots (pc := 50) C hM bw_1_184 q13 dX7_nextDeadline_50 ?_
        refine m_iload_n (pc := 53) C dX7_nextDeadline_53 rfl (lv_at hl 3 rfl) ?_
        obtain ⟨q14, h⟩ := ck_some h
        refine m_aald (pc := 54) C hM q14.1 (by decide) (by decide) q14.2.1 q14.2.2 dX7_nextDeadline_54 ?_
        obtain ⟨q15, h⟩ := ck_some h
        have gq15 := Gr_X2_deadline hM q15
        refine G_X2_deadline (pc := 55) C hM bw_1_111 q15 dX7_nextDeadline_55 ?_
        refine m_istore_n (pc := 58) C dX7_nextDeadline_58 rfl hl (by decide) (lvK1 0 rfl (Nat.ne_of_beq_eq_false rfl) (Nat.ne_of_beq_eq_false rfl) (lvK1 3 rfl (Nat.ne_of_beq_eq_false rfl) (Nat.ne_of_beq_eq_false rfl) lvK0)) (fun ls hl => ?_)
        refine m_iload_n (pc := 59) C dX7_nextDeadline_59 rfl (lv_at hl 2 rfl) ?_
        refine m_istore_n (pc := 60) C dX7_nextDeadline_60 rfl hl (by decide) (lvK1 0 rfl (Nat.ne_of_beq_eq_false rfl) (Nat.ne_of_beq_eq_false rfl) (lvK2 1 rfl (Nat.ne_of_beq_eq_false rfl) (vr_cat _ _) (lvK1 2 rfl (Nat.ne_of_beq_eq_false rfl) (Nat.ne_of_beq_eq_false rfl) lvK0))) (fun ls hl => ?_)
        obtain ⟨a16, ea16, h⟩ := nm_some h
        have ra16 : R32 a16 := by rw [ea16]; exact w32_R _
        refine m_iinc (k := 3) (pc := 61) C dX7_nextDeadline_61 hl rfl (by decide) ea16 (lvK1 0 rfl (Nat.ne_of_beq_eq_false rfl) (Nat.ne_of_beq_eq_false rfl) (lvK2 1 rfl (Nat.ne_of_beq_eq_false rfl) rfl (lvK1 2 rfl (Nat.ne_of_beq_eq_false rfl) (Nat.ne_of_beq_eq_false rfl) lvK0))) (fun ls hl => ?_)
        refine m_goto (tgt := 19) (pc := 64) C dX7_nextDeadline_64 (by decide) ?_
        exact ih _ _ _ _ _ h rx3 gq15 ra16 _ _ _ hM (lv_sub hl [3, 1, 2, 0] rfl)
set_option maxHeartbeats 4000000 in
set_option maxRecDepth 100000 in
theorem c_X7_nextDeadline (l : Launch) (E : gE) (N : Nat) (x0 : Int) (μ μ' : Mm) (r : Int) (h : f_X7_nextDeadline N x0 μ = some (r, μ')) : gMet l E yX7_nextDeadline cX7_nextDeadline 4 (some .int) 2 41 [vr E x0] (some (vi r)) (R32 r) μ μ' 0 0 := by
  refine g_ofW [1] (by first | (simp only [List.map_cons, List.map_nil, vr_cat]; done) | (simp only [List.map_cons, List.map_nil, vr_cat]; rfl)) (by decide) (by decide) (fun p e s m below meth c ls C hM hl => ?_)
  replace C : gCx p s m _ meth c cX7_nextDeadline 4 (some .int) "nextDeadline" RX7 := C
  replace hl : lv_has ls 4 [(0, vr E x0)] := hl
  unfold f_X7_nextDeadline at h
  refine m_ldc (n := -100000005) (pc := 0) C bw_2_216 rfl dX7_nextDeadline_0 ?_
  refine m_istore_n (pc := 2) C dX7_nextDeadline_2 rfl hl (by decide) (lvK2 0 rfl (Nat.ne_of_beq_eq_false rfl) (vr_cat _ _) lvK0) (fun ls hl => ?_)
  refine m_aload_n (pc := 3) C dX7_nextDeadline_3 rfl (lv_at hl 1 rfl) ?_
  obtain ⟨q1, h⟩ := ck_some h
  refine G_X7_now (pc := 4) C hM bw_2_63 q1 dX7_nextDeadline_4 ?_
  obtain ⟨q2, h⟩ := ck_some h
  have gq2 := Gr_X6_day hM q2
  refine G_X6_day (pc := 7) C hM bw_1_196 q2 dX7_nextDeadline_7 ?_
  refine m_sipush (pc := 10) C dX7_nextDeadline_10 rfl ?_
  obtain ⟨a3, ea3, h⟩ := nm_some h
  have ra3 : R32 a3 := by rw [ea3]; exact w32_R _
  refine m_iadd (pc := 13) C dX7_nextDeadline_13 ea3 ?_
  refine m_iconst (pc := 14) C dX7_nextDeadline_14 ?_
  obtain ⟨a4, ea4, h⟩ := nm_some h
  have ra4 : R32 a4 := by rw [ea4]; exact w32_R _
  refine m_iadd (pc := 15) C dX7_nextDeadline_15 ea4 ?_
  refine m_istore_n (pc := 16) C dX7_nextDeadline_16 rfl hl (by decide) (lvK2 0 rfl (Nat.ne_of_beq_eq_false rfl) rfl (lvK1 1 rfl (Nat.ne_of_beq_eq_false rfl) (Nat.ne_of_beq_eq_false rfl) lvK0)) (fun ls hl => ?_)
  refine m_iconst (pc := 17) C dX7_nextDeadline_17 ?_
  refine m_istore_n (pc := 18) C dX7_nextDeadline_18 rfl hl (by decide) (lvK2 0 rfl (Nat.ne_of_beq_eq_false rfl) rfl (lvK1 1 rfl (Nat.ne_of_beq_eq_false rfl) (Nat.ne_of_beq_eq_false rfl) (lvK1 2 rfl (Nat.ne_of_beq_eq_false rfl) (Nat.ne_of_beq_eq_false rfl) lvK0))) (fun ls hl => ?_)
  exact k_X7_nextDeadline_b19 C N N _ _ _ _ _ h rk_m100000005 ra4 rk_0 _ _ _ hM (lv_sub hl [3, 2, 1, 0] rfl)
theorem hd_X7_nextDeadline : yX7_nextDeadline.cls ≠ "java/lang/invoke/MethodHandle" ∧ yX7_nextDeadline.cls ≠ "java/lang/invoke/VarHandle" ∧ (parseMethodDescriptor yX7_nextDeadline.desc).map (fun d => d.parameters.length) = some 0 := by decide +kernel

theorem V_X7_nextDeadline {p : Program} {l : Launch} {e : Env} {R : Room} {s : State} {m : MethodId} {args : Array Value} {below : List Frame} {meth : Method} {c : Code} {H : Heap} {locs : List Loc} {cells slots : Nat} {Q : State → Prop} {cc : ByteArray} {pc nL : Nat} {ls : Array Slot} {rest : List Value} {ret : Option FieldType} {nmm own : String} {E : gE} {μ μ1 : Mm} {index : Nat} (C : gCx p s m args meth c cc nL ret nmm own) (hM : MS E μ s H locs) {N : Nat} {x0 v : Int} (hc : f_X7_nextDeadline N x0 μ = some (v, μ1)) (hck : μ x0 (-2) = 9) (h1 : Cond.methodLink own index yX7_nextDeadline ∈ bigL) (hR : 3 ≤ R.frames ∧ 64 ≤ R.locals) (hl : ls.size = nL) (hcat : RC rest 8) (hf : cells + 0 ≤ R.cells ∧ slots + 0 ≤ R.slots) (hdg : decode cc pc = .ok (.invokevirtual index, 3)) (kk : (R32 v) → ∀ (H1 : Heap) (locs1 : List Loc), MS E μ1 s H1 locs1 → W p l e R s m args below meth c H1 locs1 (cells + 0) (slots + 0) Q (F0 m (pc + 3) ls (vi v :: rest))) : W p l e R s m args below meth c H locs cells slots Q (F0 m pc ls (vr E x0 :: rest)) := g_callV C KF_X7 hM (c_X7_nextDeadline l E N x0 μ μ1 v hc) hck (gV h1 bw_2_231 bw_2_232 bw_1_1 bw_2_233) ⟨rfl, hd_X7_nextDeadline⟩ hR rfl hl rfl hcat hf hdg kk
/-! X7_calledIn -/
def f_X7_calledIn (N : Nat) (x0 x1 : Int) (μ : Mm) : Rs :=
  bd (f_X7_outside N x1 1 100 μ) fun a1 μ2 =>
  if a1 = 0 then
    (ck (μ2 x0 (-2) = 9) <|
     ck (μ2 x0 (-2) = 9) <|
     ck (μ2 (μ2 x0 0) (-2) = 8) <|
     nm (w32 ((μ2 (μ2 x0 0) 8) + x1)) fun a7 =>
     ck (μ2 (μ2 x0 0) (-2) = 8) <|
     bd (f_X6_dutyEndingBefore N (μ2 x0 0) a7 μ2) fun a9 μ10 =>
     some (a9, μ10))
  else
  some ((-100000002), μ2)
set_option maxHeartbeats 4000000 in
set_option maxRecDepth 100000 in
theorem c_X7_calledIn (l : Launch) (E : gE) (N : Nat) (x0 x1 : Int) (μ μ' : Mm) (r : Int) (h : f_X7_calledIn N x0 x1 μ = some (r, μ')) (rx1 : R32 x1) : gMet l E yX7_calledIn cX7_calledIn 2 (some .int) 3 67 [vr E x0, vi x1] (some (vi r)) (R32 r) μ μ' 0 0 := by
  refine g_ofW [1, 1] (by first | (simp only [List.map_cons, List.map_nil, vr_cat]; done) | (simp only [List.map_cons, List.map_nil, vr_cat]; rfl)) (by decide) (by decide) (fun p e s m below meth c ls C hM hl => ?_)
  replace C : gCx p s m _ meth c cX7_calledIn 2 (some .int) "calledIn" RX7 := C
  replace hl : lv_has ls 2 [(0, vr E x0), (1, vi x1)] := hl
  unfold f_X7_calledIn at h
  refine m_iload_n (pc := 0) C dX7_calledIn_0 rfl (lv_at hl 1 rfl) ?_
  refine m_iconst (pc := 1) C dX7_calledIn_1 ?_
  refine m_bipush (pc := 2) C dX7_calledIn_2 rfl ?_
  obtain ⟨a1, μ2, ca1, h⟩ := bd_some h
  refine V_X7_outside (pc := 4) C hM ca1 rx1 rk_1 rk_100 bw_2_89 ⟨Nat.le_of_ble_eq_true rfl, Nat.le_of_ble_eq_true rfl⟩ hl.1 rc0 ⟨Nat.le_refl _, Nat.le_refl _⟩ dX7_calledIn_4 (fun ra1 H locs hM => ?_)
  refine m_if_eq (tgt := 13) (pc := 7) C ra1 dX7_calledIn_7 (by decide) (fun c3 => ?_) (fun c3 => ?_)
  · have h := if_t h c3
    refine m_aload_n (pc := 13) C dX7_calledIn_13 rfl (lv_at hl 0 rfl) ?_
    obtain ⟨q4, h⟩ := ck_some h
    refine G_X7_now (pc := 14) C hM bw_2_63 q4 dX7_calledIn_14 ?_
    refine m_aload_n (pc := 17) C dX7_calledIn_17 rfl (lv_at hl 0 rfl) ?_
    obtain ⟨q5, h⟩ := ck_some h
    refine G_X7_now (pc := 18) C hM bw_2_63 q5 dX7_calledIn_18 ?_
    obtain ⟨q6, h⟩ := ck_some h
    have gq6 := Gr_X6_day hM q6
    refine G_X6_day (pc := 21) C hM bw_1_196 q6 dX7_calledIn_21 ?_
    refine m_iload_n (pc := 24) C dX7_calledIn_24 rfl (lv_at hl 1 rfl) ?_
    obtain ⟨a7, ea7, h⟩ := nm_some h
    have ra7 : R32 a7 := by rw [ea7]; exact w32_R _
    refine m_iadd (pc := 25) C dX7_calledIn_25 ea7 ?_
    obtain ⟨q8, h⟩ := ck_some h
    obtain ⟨a9, μ10, ca9, h⟩ := bd_some h
    refine V_X6_dutyEndingBefore (pc := 26) C hM ca9 ra7 q8 bw_3_0 ⟨Nat.le_of_ble_eq_true rfl, Nat.le_of_ble_eq_true rfl⟩ hl.1 rc0 ⟨Nat.le_refl _, Nat.le_refl _⟩ dX7_calledIn_26 (fun ra9 H locs hM => ?_)
    cases h
    exact m_iret (pc := 29) C hM ra9 dX7_calledIn_29
  · have h := if_f h c3
    refine m_ldc (n := -100000002) (pc := 10) C bw_2_93 rfl dX7_calledIn_10 ?_
    cases h
    exact m_iret (pc := 12) C hM rk_m100000002 dX7_calledIn_12
theorem hd_X7_calledIn : yX7_calledIn.cls ≠ "java/lang/invoke/MethodHandle" ∧ yX7_calledIn.cls ≠ "java/lang/invoke/VarHandle" ∧ (parseMethodDescriptor yX7_calledIn.desc).map (fun d => d.parameters.length) = some 1 := by decide +kernel

theorem V_X7_calledIn {p : Program} {l : Launch} {e : Env} {R : Room} {s : State} {m : MethodId} {args : Array Value} {below : List Frame} {meth : Method} {c : Code} {H : Heap} {locs : List Loc} {cells slots : Nat} {Q : State → Prop} {cc : ByteArray} {pc nL : Nat} {ls : Array Slot} {rest : List Value} {ret : Option FieldType} {nmm own : String} {E : gE} {μ μ1 : Mm} {index : Nat} (C : gCx p s m args meth c cc nL ret nmm own) (hM : MS E μ s H locs) {N : Nat} {x0 x1 v : Int} (hc : f_X7_calledIn N x0 x1 μ = some (v, μ1)) (rx1 : R32 x1) (hck : μ x0 (-2) = 9) (h1 : Cond.methodLink own index yX7_calledIn ∈ bigL) (hR : 4 ≤ R.frames ∧ 88 ≤ R.locals) (hl : ls.size = nL) (hcat : RC rest 8) (hf : cells + 0 ≤ R.cells ∧ slots + 0 ≤ R.slots) (hdg : decode cc pc = .ok (.invokevirtual index, 3)) (kk : (R32 v) → ∀ (H1 : Heap) (locs1 : List Loc), MS E μ1 s H1 locs1 → W p l e R s m args below meth c H1 locs1 (cells + 0) (slots + 0) Q (F0 m (pc + 3) ls (vi v :: rest))) : W p l e R s m args below meth c H locs cells slots Q (F0 m pc ls (vi x1 :: vr E x0 :: rest)) := g_callV C KF_X7 hM (c_X7_calledIn l E N x0 x1 μ μ1 v hc rx1) hck (gV h1 bw_2_237 bw_2_238 bw_1_1 bw_2_239) ⟨rfl, hd_X7_calledIn⟩ hR rfl hl rfl hcat hf hdg kk
/-! X7_greatestValue -/
def f_X7_greatestValue_b65 (N : Nat) : Nat → Int → Int → Int → Int → Int → Int → Mm → Rs
  | 0, _, _, _, _, _, _, _ => none
  | n + 1, x0, x2, x3, x4, x5, x6, μ =>
    if x6 ≤ 0 then
      (some (x5, μ))
    else
    nm (w32 (x5 + x6)) fun a2 =>
    if 10000000 < a2 then
      (nm (o_shr x6 1) fun a4 =>
       f_X7_greatestValue_b65 N n x0 x2 x3 x4 x5 a4 μ)
    else
    ck (μ x0 (-2) = 9) <|
    ck (μ (μ x0 0) (-2) = 8) <|
    ck (μ x3 (-2) = 6) <|
    ck (μ x0 (-2) = 9) <|
    ck (μ (μ x0 0) (-2) = 8) <|
    ck (μ (μ (μ x0 0) 0) (-2) = 7) <|
    bd (f_X5_dutyOf N (μ (μ x0 0) 0) x2 a2 μ) fun a11 μ12 =>
    nm (w32 (x4 + a11)) fun a13 =>
    ck (μ12 (μ (μ x0 0) 0) (-2) = 7) <|
    bd (f_X5_covers N (μ (μ x0 0) 0) (μ x3 1) a13 μ12) fun a15 μ16 =>
    if a15 = 0 then
      (nm (o_shr x6 1) fun a18 =>
       f_X7_greatestValue_b65 N n x0 x2 x3 x4 x5 a18 μ16)
    else
    nm (o_shr x6 1) fun a19 =>
    f_X7_greatestValue_b65 N n x0 x2 x3 x4 a2 a19 μ16
def f_X7_greatestValue (N : Nat) (x0 x1 x2 : Int) (μ : Mm) : Rs :=
  ck (μ x0 (-2) = 9) <|
  ck (μ (μ x0 0) (-2) = 8) <|
  bd (f_X6_findOwner N (μ x0 0) x1 μ) fun a3 μ4 =>
  ck ((0 : Int) ≤ a3) <|
  if a3 = 0 then
    (some ((-100000001), μ4))
  else
  bd (f_X7_outside N x2 0 5 μ4) fun a7 μ8 =>
  if a7 = 0 then
    (ck (μ8 x0 (-2) = 9) <|
     ck (μ8 (μ8 x0 0) (-2) = 8) <|
     bd (f_X6_useOf N (μ8 x0 0) x1 μ8) fun a12 μ13 =>
     ck (μ13 x0 (-2) = 9) <|
     ck (μ13 (μ13 x0 0) (-2) = 8) <|
     ck (μ13 a3 (-2) = 6) <|
     ck (μ13 (μ13 (μ13 x0 0) 0) (-2) = 7) <|
     bd (f_X5_covers N (μ13 (μ13 x0 0) 0) (μ13 a3 1) a12 μ13) fun a18 μ19 =>
     if ¬ a18 = 0 then
       (f_X7_greatestValue_b65 N N x0 x2 a3 a12 0 8388608 μ19)
     else
     some ((-100000005), μ19))
  else
  some ((-100000001), μ8)
set_option maxHeartbeats 4000000 in
set_option maxRecDepth 100000 in
theorem k_X7_greatestValue_b65 (C : gCx p s m args meth c cX7_greatestValue 8 (some .int) "greatestValue" RX7) (N : Nat) {r : Int} {μ' : Mm} : ∀ (n : Nat), ∀ (x0 x2 x3 x4 x5 x6 : Int) (μ : Mm), f_X7_greatestValue_b65 N n x0 x2 x3 x4 x5 x6 μ = some (r, μ') → R32 x2 → R32 x4 → R32 x5 → R32 x6 → ∀ (H : Heap) (locs : List Loc) (ls : Array Slot), MS E μ s H locs → lv_has ls 8 [(0, vr E x0), (2, vi x2), (3, vr E x3), (4, vi x4), (5, vi x5), (6, vi x6)] → W p l e ({ frames := 2, cells := 0, slots := 0, locals := 43 } : Room) s m args below meth c H locs 0 0 (MQ below (gQ E (some (vi r)) (R32 r) μ') args s 0 0 (gA E)) (F0 m 65 ls []) := by
  intro n
  induction n with
  | zero => intro x0 x2 x3 x4 x5 x6 μ h; simp [f_X7_greatestValue_b65] at h
  | succ n ih =>
    intro x0 x2 x3 x4 x5 x6 μ h rx2 rx4 rx5 rx6 H locs ls hM hl
    rw [f_X7_greatestValue_b65] at h
    refine m_iload (pc := 65) C dX7_greatestValue_65 (lv_at hl 5 rfl) ?_
    refine m_if_le (tgt := 130) (pc := 67) C rx6 dX7_greatestValue_67 (by decide) (fun c1 => ?_) (fun c1 => ?_)
    · have h := if_t h c1
      refine m_iload (pc := 130) C dX7_greatestValue_130 (lv_at hl 4 rfl) ?_
      cases h
      exact m_iret (pc := 132) C hM rx5 dX7_greatestValue_132
    · have h := if_f h c1
      refine m_iload (pc := 70) C dX7_greatestValue_70 (lv_at hl 4 rfl) ?_
      refine m_iload (pc := 72) C dX7_greatestValue_72 (lv_at hl 5 rfl) ?_
      obtain ⟨a2, ea2, h⟩ := nm_some h
      have ra2 : R32 a2 := by rw [ea2]; exact w32_R _
      refine m_iadd (pc := 74) C dX7_greatestValue_74 ea2 ?_
      refine m_istore (pc := 75) C dX7_greatestValue_75 hl (by decide) (lvK1 0 rfl (Nat.ne_of_beq_eq_false rfl) (Nat.ne_of_beq_eq_false rfl) (lvK1 1 rfl (Nat.ne_of_beq_eq_false rfl) (Nat.ne_of_beq_eq_false rfl) (lvK1 2 rfl (Nat.ne_of_beq_eq_false rfl) (Nat.ne_of_beq_eq_false rfl) (lvK1 3 rfl (Nat.ne_of_beq_eq_false rfl) (Nat.ne_of_beq_eq_false rfl) (lvK1 4 rfl (Nat.ne_of_beq_eq_false rfl) (Nat.ne_of_beq_eq_false rfl) (lvK2 5 rfl (Nat.ne_of_beq_eq_false rfl) rfl lvK0)))))) (fun ls hl => ?_)
      refine m_iload (pc := 77) C dX7_greatestValue_77 (lv_at hl 0 rfl) ?_
      refine m_ldc (n := 10000000) (pc := 79) C bw_3_96 rfl dX7_greatestValue_79 ?_
      refine m_icmp_gt (tgt := 121) (pc := 81) C ra2 rk_10000000 dX7_greatestValue_81 (by decide) (fun c3 => ?_) (fun c3 => ?_)
      · have h := if_t h c3
        refine m_iload (pc := 121) C dX7_greatestValue_121 (lv_at hl 6 rfl) ?_
        refine m_iconst (pc := 123) C dX7_greatestValue_123 ?_
        obtain ⟨a4, ea4, h⟩ := nm_some h
        have ra4 : R32 a4 := by rw [ea4]; exact R32_of _
        refine m_ishr (pc := 124) C dX7_greatestValue_124 ea4 ?_
        refine m_istore (pc := 125) C dX7_greatestValue_125 hl (by decide) (lvK1 1 rfl (Nat.ne_of_beq_eq_false rfl) (Nat.ne_of_beq_eq_false rfl) (lvK1 2 rfl (Nat.ne_of_beq_eq_false rfl) (Nat.ne_of_beq_eq_false rfl) (lvK1 3 rfl (Nat.ne_of_beq_eq_false rfl) (Nat.ne_of_beq_eq_false rfl) (lvK1 4 rfl (Nat.ne_of_beq_eq_false rfl) (Nat.ne_of_beq_eq_false rfl) (lvK2 5 rfl (Nat.ne_of_beq_eq_false rfl) rfl lvK0))))) (fun ls hl => ?_)
        refine m_goto (tgt := 65) (pc := 127) C dX7_greatestValue_127 (by decide) ?_
        exact ih _ _ _ _ _ _ _ h rx2 rx4 rx5 ra4 _ _ _ hM (lv_sub hl [1, 2, 3, 4, 5, 0] rfl)
      · have h := if_f h c3
        refine m_aload_n (pc := 84) C dX7_greatestValue_84 rfl (lv_at hl 1 rfl) ?_
        obtain ⟨q5, h⟩ := ck_some h
        refine G_X7_now (pc := 85) C hM bw_2_63 q5 dX7_greatestValue_85 ?_
        obtain ⟨q6, h⟩ := ck_some h
        refine G_X6_settings (pc := 88) C hM bw_1_181 q6 dX7_greatestValue_88 ?_
        refine m_aload_n (pc := 91) C dX7_greatestValue_91 rfl (lv_at hl 3 rfl) ?_
        obtain ⟨q7, h⟩ := ck_some h
        have gq7 := Gr_X4_guarantee hM q7
        refine G_X4_guarantee (pc := 92) C hM bw_1_76 q7 dX7_greatestValue_92 ?_
        refine m_iload (pc := 95) C dX7_greatestValue_95 (lv_at hl 4 rfl) ?_
        refine m_aload_n (pc := 97) C dX7_greatestValue_97 rfl (lv_at hl 1 rfl) ?_
        obtain ⟨q8, h⟩ := ck_some h
        refine G_X7_now (pc := 98) C hM bw_2_63 q8 dX7_greatestValue_98 ?_
        obtain ⟨q9, h⟩ := ck_some h
        refine G_X6_settings (pc := 101) C hM bw_1_181 q9 dX7_greatestValue_101 ?_
        refine m_iload_n (pc := 104) C dX7_greatestValue_104 rfl (lv_at hl 2 rfl) ?_
        refine m_iload (pc := 105) C dX7_greatestValue_105 (lv_at hl 0 rfl) ?_
        obtain ⟨q10, h⟩ := ck_some h
        obtain ⟨a11, μ12, ca11, h⟩ := bd_some h
        refine V_X5_dutyOf (pc := 107) C hM ca11 rx2 ra2 q10 bw_3_97 ⟨Nat.le_of_ble_eq_true rfl, Nat.le_of_ble_eq_true rfl⟩ hl.1 (rcI (rcI (rcR rc0))) ⟨Nat.le_refl _, Nat.le_refl _⟩ dX7_greatestValue_107 (fun ra11 H locs hM => ?_)
        obtain ⟨a13, ea13, h⟩ := nm_some h
        have ra13 : R32 a13 := by rw [ea13]; exact w32_R _
        refine m_iadd (pc := 110) C dX7_greatestValue_110 ea13 ?_
        obtain ⟨q14, h⟩ := ck_some h
        obtain ⟨a15, μ16, ca15, h⟩ := bd_some h
        refine V_X5_covers (pc := 111) C hM ca15 gq7 ra13 q14 bw_3_44 ⟨Nat.le_of_ble_eq_true rfl, Nat.le_of_ble_eq_true rfl⟩ hl.1 rc0 ⟨Nat.le_refl _, Nat.le_refl _⟩ dX7_greatestValue_111 (fun ra15 H locs hM => ?_)
        refine m_if_eq (tgt := 121) (pc := 114) C ra15 dX7_greatestValue_114 (by decide) (fun c17 => ?_) (fun c17 => ?_)
        · have h := if_t h c17
          refine m_iload (pc := 121) C dX7_greatestValue_121 (lv_at hl 6 rfl) ?_
          refine m_iconst (pc := 123) C dX7_greatestValue_123 ?_
          obtain ⟨a18, ea18, h⟩ := nm_some h
          have ra18 : R32 a18 := by rw [ea18]; exact R32_of _
          refine m_ishr (pc := 124) C dX7_greatestValue_124 ea18 ?_
          refine m_istore (pc := 125) C dX7_greatestValue_125 hl (by decide) (lvK1 1 rfl (Nat.ne_of_beq_eq_false rfl) (Nat.ne_of_beq_eq_false rfl) (lvK1 2 rfl (Nat.ne_of_beq_eq_false rfl) (Nat.ne_of_beq_eq_false rfl) (lvK1 3 rfl (Nat.ne_of_beq_eq_false rfl) (Nat.ne_of_beq_eq_false rfl) (lvK1 4 rfl (Nat.ne_of_beq_eq_false rfl) (Nat.ne_of_beq_eq_false rfl) (lvK2 5 rfl (Nat.ne_of_beq_eq_false rfl) rfl lvK0))))) (fun ls hl => ?_)
          refine m_goto (tgt := 65) (pc := 127) C dX7_greatestValue_127 (by decide) ?_
          exact ih _ _ _ _ _ _ _ h rx2 rx4 rx5 ra18 _ _ _ hM (lv_sub hl [1, 2, 3, 4, 5, 0] rfl)
        · have h := if_f h c17
          refine m_iload (pc := 117) C dX7_greatestValue_117 (lv_at hl 0 rfl) ?_
          refine m_istore (pc := 119) C dX7_greatestValue_119 hl (by decide) (lvK1 1 rfl (Nat.ne_of_beq_eq_false rfl) (Nat.ne_of_beq_eq_false rfl) (lvK1 2 rfl (Nat.ne_of_beq_eq_false rfl) (Nat.ne_of_beq_eq_false rfl) (lvK1 3 rfl (Nat.ne_of_beq_eq_false rfl) (Nat.ne_of_beq_eq_false rfl) (lvK2 4 rfl (Nat.ne_of_beq_eq_false rfl) rfl (lvK1 6 rfl (Nat.ne_of_beq_eq_false rfl) (Nat.ne_of_beq_eq_false rfl) lvK0))))) (fun ls hl => ?_)
          refine m_iload (pc := 121) C dX7_greatestValue_121 (lv_at hl 5 rfl) ?_
          refine m_iconst (pc := 123) C dX7_greatestValue_123 ?_
          obtain ⟨a19, ea19, h⟩ := nm_some h
          have ra19 : R32 a19 := by rw [ea19]; exact R32_of _
          refine m_ishr (pc := 124) C dX7_greatestValue_124 ea19 ?_
          refine m_istore (pc := 125) C dX7_greatestValue_125 hl (by decide) (lvK2 0 rfl (Nat.ne_of_beq_eq_false rfl) rfl (lvK1 1 rfl (Nat.ne_of_beq_eq_false rfl) (Nat.ne_of_beq_eq_false rfl) (lvK1 2 rfl (Nat.ne_of_beq_eq_false rfl) (Nat.ne_of_beq_eq_false rfl) (lvK1 3 rfl (Nat.ne_of_beq_eq_false rfl) (Nat.ne_of_beq_eq_false rfl) (lvK1 4 rfl (Nat.ne_of_beq_eq_false rfl) (Nat.ne_of_beq_eq_false rfl) lvK0))))) (fun ls hl => ?_)
          refine m_goto (tgt := 65) (pc := 127) C dX7_greatestValue_127 (by decide) ?_
          exact ih _ _ _ _ _ _ _ h rx2 rx4 ra2 ra19 _ _ _ hM (lv_sub hl [2, 3, 4, 5, 1, 0] rfl)
set_option maxHeartbeats 4000000 in
set_option maxRecDepth 100000 in
theorem c_X7_greatestValue (l : Launch) (E : gE) (N : Nat) (x0 x1 x2 : Int) (μ μ' : Mm) (r : Int) (h : f_X7_greatestValue N x0 x1 x2 μ = some (r, μ')) (rx1 : R32 x1) (rx2 : R32 x2) : gMet l E yX7_greatestValue cX7_greatestValue 8 (some .int) 2 43 [vr E x0, vi x1, vi x2] (some (vi r)) (R32 r) μ μ' 0 0 := by
  refine g_ofW [1, 1, 1] (by first | (simp only [List.map_cons, List.map_nil, vr_cat]; done) | (simp only [List.map_cons, List.map_nil, vr_cat]; rfl)) (by decide) (by decide) (fun p e s m below meth c ls C hM hl => ?_)
  replace C : gCx p s m _ meth c cX7_greatestValue 8 (some .int) "greatestValue" RX7 := C
  replace hl : lv_has ls 8 [(0, vr E x0), (1, vi x1), (2, vi x2)] := hl
  unfold f_X7_greatestValue at h
  refine m_aload_n (pc := 0) C dX7_greatestValue_0 rfl (lv_at hl 0 rfl) ?_
  obtain ⟨q1, h⟩ := ck_some h
  refine G_X7_now (pc := 1) C hM bw_2_63 q1 dX7_greatestValue_1 ?_
  refine m_iload_n (pc := 4) C dX7_greatestValue_4 rfl (lv_at hl 1 rfl) ?_
  obtain ⟨q2, h⟩ := ck_some h
  obtain ⟨a3, μ4, ca3, h⟩ := bd_some h
  refine V_X6_findOwner (pc := 5) C hM ca3 rx1 q2 bw_3_34 ⟨Nat.le_of_ble_eq_true rfl, Nat.le_of_ble_eq_true rfl⟩ hl.1 rc0 ⟨Nat.le_refl _, Nat.le_refl _⟩ dX7_greatestValue_5 (fun _ H locs hM => ?_)
  refine m_astore_n (pc := 8) C dX7_greatestValue_8 rfl hl (by decide) (lvK1 0 rfl (Nat.ne_of_beq_eq_false rfl) (Nat.ne_of_beq_eq_false rfl) (lvK1 1 rfl (Nat.ne_of_beq_eq_false rfl) (Nat.ne_of_beq_eq_false rfl) (lvK2 2 rfl (Nat.ne_of_beq_eq_false rfl) rfl lvK0))) (fun ls hl => ?_)
  refine m_aload_n (pc := 9) C dX7_greatestValue_9 rfl (lv_at hl 0 rfl) ?_
  obtain ⟨q6, h⟩ := ck_some h
  refine m_ifnull (tgt := 22) (pc := 10) C q6 dX7_greatestValue_10 (by decide) (fun c5 => ?_) (fun c5 => ?_)
  · have h := if_t h c5
    refine m_ldc (n := -100000001) (pc := 22) C bw_2_92 rfl dX7_greatestValue_22 ?_
    cases h
    exact m_iret (pc := 24) C hM rk_m100000001 dX7_greatestValue_24
  · have h := if_f h c5
    refine m_iload_n (pc := 13) C dX7_greatestValue_13 rfl (lv_at hl 3 rfl) ?_
    refine m_iconst (pc := 14) C dX7_greatestValue_14 ?_
    refine m_iconst (pc := 15) C dX7_greatestValue_15 ?_
    obtain ⟨a7, μ8, ca7, h⟩ := bd_some h
    refine V_X7_outside (pc := 16) C hM ca7 rx2 rk_0 rk_5 bw_2_89 ⟨Nat.le_of_ble_eq_true rfl, Nat.le_of_ble_eq_true rfl⟩ hl.1 rc0 ⟨Nat.le_refl _, Nat.le_refl _⟩ dX7_greatestValue_16 (fun ra7 H locs hM => ?_)
    refine m_if_eq (tgt := 25) (pc := 19) C ra7 dX7_greatestValue_19 (by decide) (fun c9 => ?_) (fun c9 => ?_)
    · have h := if_t h c9
      refine m_aload_n (pc := 25) C dX7_greatestValue_25 rfl (lv_at hl 1 rfl) ?_
      obtain ⟨q10, h⟩ := ck_some h
      refine G_X7_now (pc := 26) C hM bw_2_63 q10 dX7_greatestValue_26 ?_
      refine m_iload_n (pc := 29) C dX7_greatestValue_29 rfl (lv_at hl 2 rfl) ?_
      obtain ⟨q11, h⟩ := ck_some h
      obtain ⟨a12, μ13, ca12, h⟩ := bd_some h
      refine V_X6_useOf (pc := 30) C hM ca12 rx1 q11 bw_3_36 ⟨Nat.le_of_ble_eq_true rfl, Nat.le_of_ble_eq_true rfl⟩ hl.1 rc0 ⟨Nat.le_refl _, Nat.le_refl _⟩ dX7_greatestValue_30 (fun ra12 H locs hM => ?_)
      refine m_istore (pc := 33) C dX7_greatestValue_33 hl (by decide) (lvK2 0 rfl (Nat.ne_of_beq_eq_false rfl) (vr_cat _ _) (lvK1 1 rfl (Nat.ne_of_beq_eq_false rfl) (Nat.ne_of_beq_eq_false rfl) (lvK1 3 rfl (Nat.ne_of_beq_eq_false rfl) (Nat.ne_of_beq_eq_false rfl) lvK0))) (fun ls hl => ?_)
      refine m_aload_n (pc := 35) C dX7_greatestValue_35 rfl (lv_at hl 2 rfl) ?_
      obtain ⟨q14, h⟩ := ck_some h
      refine G_X7_now (pc := 36) C hM bw_2_63 q14 dX7_greatestValue_36 ?_
      obtain ⟨q15, h⟩ := ck_some h
      refine G_X6_settings (pc := 39) C hM bw_1_181 q15 dX7_greatestValue_39 ?_
      refine m_aload_n (pc := 42) C dX7_greatestValue_42 rfl (lv_at hl 1 rfl) ?_
      obtain ⟨q16, h⟩ := ck_some h
      have gq16 := Gr_X4_guarantee hM q16
      refine G_X4_guarantee (pc := 43) C hM bw_1_76 q16 dX7_greatestValue_43 ?_
      refine m_iload (pc := 46) C dX7_greatestValue_46 (lv_at hl 0 rfl) ?_
      obtain ⟨q17, h⟩ := ck_some h
      obtain ⟨a18, μ19, ca18, h⟩ := bd_some h
      refine V_X5_covers (pc := 48) C hM ca18 gq16 ra12 q17 bw_3_44 ⟨Nat.le_of_ble_eq_true rfl, Nat.le_of_ble_eq_true rfl⟩ hl.1 rc0 ⟨Nat.le_refl _, Nat.le_refl _⟩ dX7_greatestValue_48 (fun ra18 H locs hM => ?_)
      refine m_if_ne (tgt := 57) (pc := 51) C ra18 dX7_greatestValue_51 (by decide) (fun c20 => ?_) (fun c20 => ?_)
      · have h := if_t h c20
        refine m_iconst (pc := 57) C dX7_greatestValue_57 ?_
        refine m_istore (pc := 58) C dX7_greatestValue_58 hl (by decide) (lvK2 0 rfl (Nat.ne_of_beq_eq_false rfl) rfl (lvK1 1 rfl (Nat.ne_of_beq_eq_false rfl) (Nat.ne_of_beq_eq_false rfl) (lvK1 2 rfl (Nat.ne_of_beq_eq_false rfl) (Nat.ne_of_beq_eq_false rfl) (lvK1 3 rfl (Nat.ne_of_beq_eq_false rfl) (Nat.ne_of_beq_eq_false rfl) lvK0)))) (fun ls hl => ?_)
        refine m_ldcw (n := 8388608) (pc := 60) C bw_3_95 rfl dX7_greatestValue_60 ?_
        refine m_istore (pc := 63) C dX7_greatestValue_63 hl (by decide) (lvK2 0 rfl (Nat.ne_of_beq_eq_false rfl) rfl (lvK1 1 rfl (Nat.ne_of_beq_eq_false rfl) (Nat.ne_of_beq_eq_false rfl) (lvK1 2 rfl (Nat.ne_of_beq_eq_false rfl) (Nat.ne_of_beq_eq_false rfl) (lvK1 3 rfl (Nat.ne_of_beq_eq_false rfl) (Nat.ne_of_beq_eq_false rfl) (lvK1 4 rfl (Nat.ne_of_beq_eq_false rfl) (Nat.ne_of_beq_eq_false rfl) lvK0))))) (fun ls hl => ?_)
        exact k_X7_greatestValue_b65 C N N _ _ _ _ _ _ _ h rx2 ra12 rk_0 rk_8388608 _ _ _ hM (lv_sub hl [4, 5, 3, 2, 1, 0] rfl)
      · have h := if_f h c20
        refine m_ldc (n := -100000005) (pc := 54) C bw_2_216 rfl dX7_greatestValue_54 ?_
        cases h
        exact m_iret (pc := 56) C hM rk_m100000005 dX7_greatestValue_56
    · have h := if_f h c9
      refine m_ldc (n := -100000001) (pc := 22) C bw_2_92 rfl dX7_greatestValue_22 ?_
      cases h
      exact m_iret (pc := 24) C hM rk_m100000001 dX7_greatestValue_24
theorem hd_X7_greatestValue : yX7_greatestValue.cls ≠ "java/lang/invoke/MethodHandle" ∧ yX7_greatestValue.cls ≠ "java/lang/invoke/VarHandle" ∧ (parseMethodDescriptor yX7_greatestValue.desc).map (fun d => d.parameters.length) = some 2 := by decide +kernel

theorem V_X7_greatestValue {p : Program} {l : Launch} {e : Env} {R : Room} {s : State} {m : MethodId} {args : Array Value} {below : List Frame} {meth : Method} {c : Code} {H : Heap} {locs : List Loc} {cells slots : Nat} {Q : State → Prop} {cc : ByteArray} {pc nL : Nat} {ls : Array Slot} {rest : List Value} {ret : Option FieldType} {nmm own : String} {E : gE} {μ μ1 : Mm} {index : Nat} (C : gCx p s m args meth c cc nL ret nmm own) (hM : MS E μ s H locs) {N : Nat} {x0 x1 x2 v : Int} (hc : f_X7_greatestValue N x0 x1 x2 μ = some (v, μ1)) (rx1 : R32 x1) (rx2 : R32 x2) (hck : μ x0 (-2) = 9) (h1 : Cond.methodLink own index yX7_greatestValue ∈ bigL) (hR : 3 ≤ R.frames ∧ 70 ≤ R.locals) (hl : ls.size = nL) (hcat : RC rest 8) (hf : cells + 0 ≤ R.cells ∧ slots + 0 ≤ R.slots) (hdg : decode cc pc = .ok (.invokevirtual index, 3)) (kk : (R32 v) → ∀ (H1 : Heap) (locs1 : List Loc), MS E μ1 s H1 locs1 → W p l e R s m args below meth c H1 locs1 (cells + 0) (slots + 0) Q (F0 m (pc + 3) ls (vi v :: rest))) : W p l e R s m args below meth c H locs cells slots Q (F0 m pc ls (vi x2 :: vi x1 :: vr E x0 :: rest)) := g_callV C KF_X7 hM (c_X7_greatestValue l E N x0 x1 x2 μ μ1 v hc rx1 rx2) hck (gV h1 bw_3_92 bw_3_93 bw_1_1 bw_3_94) ⟨rfl, hd_X7_greatestValue⟩ hR rfl hl rfl hcat hf hdg kk
/-! X7_account -/
def f_X7_account_b44 (N : Nat) (x0 : Int) (μ : Mm) : Rs :=
  ck (μ x0 (-2) = 9) <|
  ck (μ (μ x0 0) (-2) = 8) <|
  bd (f_X6_sumOfLots N (μ x0 0) 0 μ) fun a3 μ4 =>
  some (a3, μ4)
def f_X7_account_b54 (N : Nat) (x0 : Int) (μ : Mm) : Rs :=
  ck (μ x0 (-2) = 9) <|
  ck (μ (μ x0 0) (-2) = 8) <|
  bd (f_X6_sumOfLots N (μ x0 0) 1 μ) fun a3 μ4 =>
  some (a3, μ4)
def f_X7_account_b64 (N : Nat) (x0 : Int) (μ : Mm) : Rs :=
  ck (μ x0 (-2) = 9) <|
  ck (μ (μ x0 0) (-2) = 8) <|
  bd (f_X6_sumOfLots N (μ x0 0) 2 μ) fun a3 μ4 =>
  some (a3, μ4)
def f_X7_account_b74 (N : Nat) (x0 : Int) (μ : Mm) : Rs :=
  ck (μ x0 (-2) = 9) <|
  ck (μ (μ x0 0) (-2) = 8) <|
  bd (f_X6_sumOfLots N (μ x0 0) 3 μ) fun a3 μ4 =>
  some (a3, μ4)
def f_X7_account_b84 (N : Nat) (x0 : Int) (μ : Mm) : Rs :=
  ck (μ x0 (-2) = 9) <|
  ck (μ (μ x0 0) (-2) = 8) <|
  bd (f_X6_calledOfAll N (μ x0 0) μ) fun a3 μ4 =>
  some (a3, μ4)
def f_X7_account_b93 (N : Nat) (x0 : Int) (μ : Mm) : Rs :=
  ck (μ x0 (-2) = 9) <|
  ck (μ (μ x0 0) (-2) = 8) <|
  some (μ (μ x0 0) 9, μ)
def f_X7_account_b101 (N : Nat) (x0 : Int) (μ : Mm) : Rs :=
  ck (μ x0 (-2) = 9) <|
  ck (μ (μ x0 0) (-2) = 8) <|
  some (μ (μ x0 0) 10, μ)
def f_X7_account_b109 (N : Nat) (μ : Mm) : Rs :=
  some ((-100000002), μ)
def f_X7_account (N : Nat) (x0 x1 : Int) (μ : Mm) : Rs :=
  if x1 = 0 then
    (f_X7_account_b44 N x0 μ)
  else
  if x1 = 1 then
    (f_X7_account_b54 N x0 μ)
  else
  if x1 = 2 then
    (f_X7_account_b64 N x0 μ)
  else
  if x1 = 3 then
    (f_X7_account_b74 N x0 μ)
  else
  if x1 = 4 then
    (f_X7_account_b84 N x0 μ)
  else
  if x1 = 5 then
    (f_X7_account_b93 N x0 μ)
  else
  if x1 = 6 then
    (f_X7_account_b101 N x0 μ)
  else
  f_X7_account_b109 N μ
set_option maxHeartbeats 4000000 in
set_option maxRecDepth 100000 in
theorem k_X7_account_b44 (C : gCx p s m args meth c cX7_account 2 (some .long) "account" RX7) (N : Nat) {r : Int} {μ' : Mm} : ∀ (x0 : Int) (μ : Mm), f_X7_account_b44 N x0 μ = some (r, μ') → ∀ (H : Heap) (locs : List Loc) (ls : Array Slot), MS E μ s H locs → lv_has ls 2 [(0, vr E x0)] → W p l e ({ frames := 3, cells := 0, slots := 0, locals := 64 } : Room) s m args below meth c H locs 0 0 (MQ below (gQ E (some (vl r)) (R64 r) μ') args s 0 0 (gA E)) (F0 m 44 ls []) := by
  intro x0 μ h H locs ls hM hl
  unfold f_X7_account_b44 at h
  refine m_aload_n (pc := 44) C dX7_account_44 rfl (lv_at hl 0 rfl) ?_
  obtain ⟨q1, h⟩ := ck_some h
  refine G_X7_now (pc := 45) C hM bw_2_63 q1 dX7_account_45 ?_
  refine m_iconst (pc := 48) C dX7_account_48 ?_
  obtain ⟨q2, h⟩ := ck_some h
  obtain ⟨a3, μ4, ca3, h⟩ := bd_some h
  refine V_X6_sumOfLots (pc := 49) C hM ca3 rk_0 q2 bw_3_67 ⟨Nat.le_of_ble_eq_true rfl, Nat.le_of_ble_eq_true rfl⟩ hl.1 rc0 ⟨Nat.le_refl _, Nat.le_refl _⟩ dX7_account_49 (fun ra3 H locs hM => ?_)
  refine m_i2l (pc := 52) C ra3 dX7_account_52 ?_
  cases h
  exact m_lret (pc := 53) C hM (R32.to64 ra3) dX7_account_53
set_option maxHeartbeats 4000000 in
set_option maxRecDepth 100000 in
theorem k_X7_account_b54 (C : gCx p s m args meth c cX7_account 2 (some .long) "account" RX7) (N : Nat) {r : Int} {μ' : Mm} : ∀ (x0 : Int) (μ : Mm), f_X7_account_b54 N x0 μ = some (r, μ') → ∀ (H : Heap) (locs : List Loc) (ls : Array Slot), MS E μ s H locs → lv_has ls 2 [(0, vr E x0)] → W p l e ({ frames := 3, cells := 0, slots := 0, locals := 64 } : Room) s m args below meth c H locs 0 0 (MQ below (gQ E (some (vl r)) (R64 r) μ') args s 0 0 (gA E)) (F0 m 54 ls []) := by
  intro x0 μ h H locs ls hM hl
  unfold f_X7_account_b54 at h
  refine m_aload_n (pc := 54) C dX7_account_54 rfl (lv_at hl 0 rfl) ?_
  obtain ⟨q1, h⟩ := ck_some h
  refine G_X7_now (pc := 55) C hM bw_2_63 q1 dX7_account_55 ?_
  refine m_iconst (pc := 58) C dX7_account_58 ?_
  obtain ⟨q2, h⟩ := ck_some h
  obtain ⟨a3, μ4, ca3, h⟩ := bd_some h
  refine V_X6_sumOfLots (pc := 59) C hM ca3 rk_1 q2 bw_3_67 ⟨Nat.le_of_ble_eq_true rfl, Nat.le_of_ble_eq_true rfl⟩ hl.1 rc0 ⟨Nat.le_refl _, Nat.le_refl _⟩ dX7_account_59 (fun ra3 H locs hM => ?_)
  refine m_i2l (pc := 62) C ra3 dX7_account_62 ?_
  cases h
  exact m_lret (pc := 63) C hM (R32.to64 ra3) dX7_account_63
set_option maxHeartbeats 4000000 in
set_option maxRecDepth 100000 in
theorem k_X7_account_b64 (C : gCx p s m args meth c cX7_account 2 (some .long) "account" RX7) (N : Nat) {r : Int} {μ' : Mm} : ∀ (x0 : Int) (μ : Mm), f_X7_account_b64 N x0 μ = some (r, μ') → ∀ (H : Heap) (locs : List Loc) (ls : Array Slot), MS E μ s H locs → lv_has ls 2 [(0, vr E x0)] → W p l e ({ frames := 3, cells := 0, slots := 0, locals := 64 } : Room) s m args below meth c H locs 0 0 (MQ below (gQ E (some (vl r)) (R64 r) μ') args s 0 0 (gA E)) (F0 m 64 ls []) := by
  intro x0 μ h H locs ls hM hl
  unfold f_X7_account_b64 at h
  refine m_aload_n (pc := 64) C dX7_account_64 rfl (lv_at hl 0 rfl) ?_
  obtain ⟨q1, h⟩ := ck_some h
  refine G_X7_now (pc := 65) C hM bw_2_63 q1 dX7_account_65 ?_
  refine m_iconst (pc := 68) C dX7_account_68 ?_
  obtain ⟨q2, h⟩ := ck_some h
  obtain ⟨a3, μ4, ca3, h⟩ := bd_some h
  refine V_X6_sumOfLots (pc := 69) C hM ca3 rk_2 q2 bw_3_67 ⟨Nat.le_of_ble_eq_true rfl, Nat.le_of_ble_eq_true rfl⟩ hl.1 rc0 ⟨Nat.le_refl _, Nat.le_refl _⟩ dX7_account_69 (fun ra3 H locs hM => ?_)
  refine m_i2l (pc := 72) C ra3 dX7_account_72 ?_
  cases h
  exact m_lret (pc := 73) C hM (R32.to64 ra3) dX7_account_73
set_option maxHeartbeats 4000000 in
set_option maxRecDepth 100000 in
theorem k_X7_account_b74 (C : gCx p s m args meth c cX7_account 2 (some .long) "account" RX7) (N : Nat) {r : Int} {μ' : Mm} : ∀ (x0 : Int) (μ : Mm), f_X7_account_b74 N x0 μ = some (r, μ') → ∀ (H : Heap) (locs : List Loc) (ls : Array Slot), MS E μ s H locs → lv_has ls 2 [(0, vr E x0)] → W p l e ({ frames := 3, cells := 0, slots := 0, locals := 64 } : Room) s m args below meth c H locs 0 0 (MQ below (gQ E (some (vl r)) (R64 r) μ') args s 0 0 (gA E)) (F0 m 74 ls []) := by
  intro x0 μ h H locs ls hM hl
  unfold f_X7_account_b74 at h
  refine m_aload_n (pc := 74) C dX7_account_74 rfl (lv_at hl 0 rfl) ?_
  obtain ⟨q1, h⟩ := ck_some h
  refine G_X7_now (pc := 75) C hM bw_2_63 q1 dX7_account_75 ?_
  refine m_iconst (pc := 78) C dX7_account_78 ?_
  obtain ⟨q2, h⟩ := ck_some h
  obtain ⟨a3, μ4, ca3, h⟩ := bd_some h
  refine V_X6_sumOfLots (pc := 79) C hM ca3 rk_3 q2 bw_3_67 ⟨Nat.le_of_ble_eq_true rfl, Nat.le_of_ble_eq_true rfl⟩ hl.1 rc0 ⟨Nat.le_refl _, Nat.le_refl _⟩ dX7_account_79 (fun ra3 H locs hM => ?_)
  refine m_i2l (pc := 82) C ra3 dX7_account_82 ?_
  cases h
  exact m_lret (pc := 83) C hM (R32.to64 ra3) dX7_account_83
set_option maxHeartbeats 4000000 in
set_option maxRecDepth 100000 in
theorem k_X7_account_b84 (C : gCx p s m args meth c cX7_account 2 (some .long) "account" RX7) (N : Nat) {r : Int} {μ' : Mm} : ∀ (x0 : Int) (μ : Mm), f_X7_account_b84 N x0 μ = some (r, μ') → ∀ (H : Heap) (locs : List Loc) (ls : Array Slot), MS E μ s H locs → lv_has ls 2 [(0, vr E x0)] → W p l e ({ frames := 3, cells := 0, slots := 0, locals := 64 } : Room) s m args below meth c H locs 0 0 (MQ below (gQ E (some (vl r)) (R64 r) μ') args s 0 0 (gA E)) (F0 m 84 ls []) := by
  intro x0 μ h H locs ls hM hl
  unfold f_X7_account_b84 at h
  refine m_aload_n (pc := 84) C dX7_account_84 rfl (lv_at hl 0 rfl) ?_
  obtain ⟨q1, h⟩ := ck_some h
  refine G_X7_now (pc := 85) C hM bw_2_63 q1 dX7_account_85 ?_
  obtain ⟨q2, h⟩ := ck_some h
  obtain ⟨a3, μ4, ca3, h⟩ := bd_some h
  refine V_X6_calledOfAll (pc := 88) C hM ca3 q2 bw_3_76 ⟨Nat.le_of_ble_eq_true rfl, Nat.le_of_ble_eq_true rfl⟩ hl.1 rc0 ⟨Nat.le_refl _, Nat.le_refl _⟩ dX7_account_88 (fun ra3 H locs hM => ?_)
  refine m_i2l (pc := 91) C ra3 dX7_account_91 ?_
  cases h
  exact m_lret (pc := 92) C hM (R32.to64 ra3) dX7_account_92
set_option maxHeartbeats 4000000 in
set_option maxRecDepth 100000 in
theorem k_X7_account_b93 (C : gCx p s m args meth c cX7_account 2 (some .long) "account" RX7) (N : Nat) {r : Int} {μ' : Mm} : ∀ (x0 : Int) (μ : Mm), f_X7_account_b93 N x0 μ = some (r, μ') → ∀ (H : Heap) (locs : List Loc) (ls : Array Slot), MS E μ s H locs → lv_has ls 2 [(0, vr E x0)] → W p l e ({ frames := 3, cells := 0, slots := 0, locals := 64 } : Room) s m args below meth c H locs 0 0 (MQ below (gQ E (some (vl r)) (R64 r) μ') args s 0 0 (gA E)) (F0 m 93 ls []) := by
  intro x0 μ h H locs ls hM hl
  unfold f_X7_account_b93 at h
  refine m_aload_n (pc := 93) C dX7_account_93 rfl (lv_at hl 0 rfl) ?_
  obtain ⟨q1, h⟩ := ck_some h
  refine G_X7_now (pc := 94) C hM bw_2_63 q1 dX7_account_94 ?_
  obtain ⟨q2, h⟩ := ck_some h
  have gq2 := Gr_X6_fees hM q2
  refine G_X6_fees (pc := 97) C hM bw_1_198 q2 dX7_account_97 ?_
  cases h
  exact m_lret (pc := 100) C hM gq2 dX7_account_100
set_option maxHeartbeats 4000000 in
set_option maxRecDepth 100000 in
theorem k_X7_account_b101 (C : gCx p s m args meth c cX7_account 2 (some .long) "account" RX7) (N : Nat) {r : Int} {μ' : Mm} : ∀ (x0 : Int) (μ : Mm), f_X7_account_b101 N x0 μ = some (r, μ') → ∀ (H : Heap) (locs : List Loc) (ls : Array Slot), MS E μ s H locs → lv_has ls 2 [(0, vr E x0)] → W p l e ({ frames := 3, cells := 0, slots := 0, locals := 64 } : Room) s m args below meth c H locs 0 0 (MQ below (gQ E (some (vl r)) (R64 r) μ') args s 0 0 (gA E)) (F0 m 101 ls []) := by
  intro x0 μ h H locs ls hM hl
  unfold f_X7_account_b101 at h
  refine m_aload_n (pc := 101) C dX7_account_101 rfl (lv_at hl 0 rfl) ?_
  obtain ⟨q1, h⟩ := ck_some h
  refine G_X7_now (pc := 102) C hM bw_2_63 q1 dX7_account_102 ?_
  obtain ⟨q2, h⟩ := ck_some h
  have gq2 := Gr_X6_deposits hM q2
  refine G_X6_deposits (pc := 105) C hM bw_1_200 q2 dX7_account_105 ?_
  cases h
  exact m_lret (pc := 108) C hM gq2 dX7_account_108
set_option maxHeartbeats 4000000 in
set_option maxRecDepth 100000 in
theorem k_X7_account_b109 (C : gCx p s m args meth c cX7_account 2 (some .long) "account" RX7) (N : Nat) {r : Int} {μ' : Mm} : ∀ (μ : Mm), f_X7_account_b109 N μ = some (r, μ') → ∀ (H : Heap) (locs : List Loc) (ls : Array Slot), MS E μ s H locs → lv_has ls 2 [] → W p l e ({ frames := 3, cells := 0, slots := 0, locals := 64 } : Room) s m args below meth c H locs 0 0 (MQ below (gQ E (some (vl r)) (R64 r) μ') args s 0 0 (gA E)) (F0 m 109 ls []) := by
  intro μ h H locs ls hM hl
  unfold f_X7_account_b109 at h
  refine m_ldc2 (n := -100000002) (pc := 109) C bw_3_53 rfl dX7_account_109 ?_
  cases h
  exact m_lret (pc := 112) C hM rl_m100000002 dX7_account_112
set_option maxHeartbeats 4000000 in
set_option maxRecDepth 100000 in
theorem c_X7_account (l : Launch) (E : gE) (N : Nat) (x0 x1 : Int) (μ μ' : Mm) (r : Int) (h : f_X7_account N x0 x1 μ = some (r, μ')) (rx1 : R32 x1) : gMet l E yX7_account cX7_account 2 (some .long) 3 64 [vr E x0, vi x1] (some (vl r)) (R64 r) μ μ' 0 0 := by
  refine g_ofW [1, 1] (by first | (simp only [List.map_cons, List.map_nil, vr_cat]; done) | (simp only [List.map_cons, List.map_nil, vr_cat]; rfl)) (by decide) (by decide) (fun p e s m below meth c ls C hM hl => ?_)
  replace C : gCx p s m _ meth c cX7_account 2 (some .long) "account" RX7 := C
  replace hl : lv_has ls 2 [(0, vr E x0), (1, vi x1)] := hl
  unfold f_X7_account at h
  refine m_iload_n (pc := 0) C dX7_account_0 rfl (lv_at hl 1 rfl) ?_
  by_cases c1 : x1 = 0
  · have h := if_t h c1
    refine m_tab (pc := 1) (tgt := 44) C rx1 c1 dX7_account_1 (by decide) (by decide) rfl (by decide) ?_
    exact k_X7_account_b44 C N _ _ h _ _ _ hM (lv_sub hl [0] rfl)
  replace h := if_f h c1
  by_cases c2 : x1 = 1
  · have h := if_t h c2
    refine m_tab (pc := 1) (tgt := 54) C rx1 c2 dX7_account_1 (by decide) (by decide) rfl (by decide) ?_
    exact k_X7_account_b54 C N _ _ h _ _ _ hM (lv_sub hl [0] rfl)
  replace h := if_f h c2
  by_cases c3 : x1 = 2
  · have h := if_t h c3
    refine m_tab (pc := 1) (tgt := 64) C rx1 c3 dX7_account_1 (by decide) (by decide) rfl (by decide) ?_
    exact k_X7_account_b64 C N _ _ h _ _ _ hM (lv_sub hl [0] rfl)
  replace h := if_f h c3
  by_cases c4 : x1 = 3
  · have h := if_t h c4
    refine m_tab (pc := 1) (tgt := 74) C rx1 c4 dX7_account_1 (by decide) (by decide) rfl (by decide) ?_
    exact k_X7_account_b74 C N _ _ h _ _ _ hM (lv_sub hl [0] rfl)
  replace h := if_f h c4
  by_cases c5 : x1 = 4
  · have h := if_t h c5
    refine m_tab (pc := 1) (tgt := 84) C rx1 c5 dX7_account_1 (by decide) (by decide) rfl (by decide) ?_
    exact k_X7_account_b84 C N _ _ h _ _ _ hM (lv_sub hl [0] rfl)
  replace h := if_f h c5
  by_cases c6 : x1 = 5
  · have h := if_t h c6
    refine m_tab (pc := 1) (tgt := 93) C rx1 c6 dX7_account_1 (by decide) (by decide) rfl (by decide) ?_
    exact k_X7_account_b93 C N _ _ h _ _ _ hM (lv_sub hl [0] rfl)
  replace h := if_f h c6
  by_cases c7 : x1 = 6
  · have h := if_t h c7
    refine m_tab (pc := 1) (tgt := 101) C rx1 c7 dX7_account_1 (by decide) (by decide) rfl (by decide) ?_
    exact k_X7_account_b101 C N _ _ h _ _ _ hM (lv_sub hl [0] rfl)
  replace h := if_f h c7
  refine m_tabD (pc := 1) (tgt := 109) C rx1 dX7_account_1 (by omega) (by decide) ?_
  exact k_X7_account_b109 C N _ h _ _ _ hM (lv_sub hl [] rfl)
theorem hd_X7_account : yX7_account.cls ≠ "java/lang/invoke/MethodHandle" ∧ yX7_account.cls ≠ "java/lang/invoke/VarHandle" ∧ (parseMethodDescriptor yX7_account.desc).map (fun d => d.parameters.length) = some 1 := by decide +kernel

theorem V_X7_account {p : Program} {l : Launch} {e : Env} {R : Room} {s : State} {m : MethodId} {args : Array Value} {below : List Frame} {meth : Method} {c : Code} {H : Heap} {locs : List Loc} {cells slots : Nat} {Q : State → Prop} {cc : ByteArray} {pc nL : Nat} {ls : Array Slot} {rest : List Value} {ret : Option FieldType} {nmm own : String} {E : gE} {μ μ1 : Mm} {index : Nat} (C : gCx p s m args meth c cc nL ret nmm own) (hM : MS E μ s H locs) {N : Nat} {x0 x1 v : Int} (hc : f_X7_account N x0 x1 μ = some (v, μ1)) (rx1 : R32 x1) (hck : μ x0 (-2) = 9) (h1 : Cond.methodLink own index yX7_account ∈ bigL) (hR : 4 ≤ R.frames ∧ 85 ≤ R.locals) (hl : ls.size = nL) (hcat : RC rest 8) (hf : cells + 0 ≤ R.cells ∧ slots + 0 ≤ R.slots) (hdg : decode cc pc = .ok (.invokevirtual index, 3)) (kk : (R64 v) → ∀ (H1 : Heap) (locs1 : List Loc), MS E μ1 s H1 locs1 → W p l e R s m args below meth c H1 locs1 (cells + 0) (slots + 0) Q (F0 m (pc + 3) ls (vl v :: rest))) : W p l e R s m args below meth c H locs cells slots Q (F0 m pc ls (vi x1 :: vr E x0 :: rest)) := g_callV C KF_X7 hM (c_X7_account l E N x0 x1 μ μ1 v hc rx1) hck (gV h1 bw_3_64 bw_3_65 bw_1_1 bw_3_66) ⟨rfl, hd_X7_account⟩ hR rfl hl rfl hcat hf hdg kk
/-! X7_count -/
def f_X7_count_b68 (N : Nat) (x0 : Int) (μ : Mm) : Rs :=
  ck (μ x0 (-2) = 9) <|
  ck (μ (μ x0 0) (-2) = 8) <|
  some (μ (μ x0 0) 8, μ)
def f_X7_count_b76 (N : Nat) (x0 : Int) (μ : Mm) : Rs :=
  ck (μ x0 (-2) = 9) <|
  ck (μ (μ x0 0) (-2) = 8) <|
  some (μ (μ x0 0) 4, μ)
def f_X7_count_b84 (N : Nat) (x0 : Int) (μ : Mm) : Rs :=
  ck (μ x0 (-2) = 9) <|
  ck (μ (μ x0 0) (-2) = 8) <|
  some (μ (μ x0 0) 5, μ)
def f_X7_count_b92 (N : Nat) (x0 : Int) (μ : Mm) : Rs :=
  ck (μ x0 (-2) = 9) <|
  ck (μ (μ x0 0) (-2) = 8) <|
  some (μ (μ x0 0) 6, μ)
def f_X7_count_b100 (N : Nat) (x0 : Int) (μ : Mm) : Rs :=
  ck (μ x0 (-2) = 9) <|
  ck (μ (μ x0 0) (-2) = 8) <|
  bd (f_X6_waitingExports N (μ x0 0) μ) fun a3 μ4 =>
  some (a3, μ4)
def f_X7_count_b108 (N : Nat) (x0 : Int) (μ : Mm) : Rs :=
  ck (μ x0 (-2) = 9) <|
  ck (μ (μ x0 0) (-2) = 8) <|
  some (μ (μ x0 0) 7, μ)
def f_X7_count_b116 (N : Nat) (x0 : Int) (μ : Mm) : Rs :=
  ck (μ x0 (-2) = 9) <|
  ck (μ (μ x0 0) (-2) = 8) <|
  ck (μ (μ (μ x0 0) 0) (-2) = 7) <|
  some (μ (μ (μ x0 0) 0) 1, μ)
def f_X7_count_b127 (N : Nat) (x0 : Int) (μ : Mm) : Rs :=
  ck (μ x0 (-2) = 9) <|
  ck (μ (μ x0 0) (-2) = 8) <|
  ck (μ (μ (μ x0 0) 0) (-2) = 7) <|
  some (μ (μ (μ x0 0) 0) 2, μ)
def f_X7_count_b138 (N : Nat) (x0 : Int) (μ : Mm) : Rs :=
  ck (μ x0 (-2) = 9) <|
  ck (μ (μ x0 0) (-2) = 8) <|
  ck (μ (μ (μ x0 0) 0) (-2) = 7) <|
  some (μ (μ (μ x0 0) 0) 3, μ)
def f_X7_count_b149 (N : Nat) (x0 : Int) (μ : Mm) : Rs :=
  ck (μ x0 (-2) = 9) <|
  ck (μ (μ x0 0) (-2) = 8) <|
  ck (μ (μ (μ x0 0) 0) (-2) = 7) <|
  some (μ (μ (μ x0 0) 0) 4, μ)
def f_X7_count_b160 (N : Nat) (x0 : Int) (μ : Mm) : Rs :=
  ck (μ x0 (-2) = 9) <|
  ck (μ (μ x0 0) (-2) = 8) <|
  ck (μ (μ (μ x0 0) 0) (-2) = 7) <|
  some (μ (μ (μ x0 0) 0) 5, μ)
def f_X7_count_b171 (N : Nat) (x0 : Int) (μ : Mm) : Rs :=
  ck (μ x0 (-2) = 9) <|
  some (μ x0 6, μ)
def f_X7_count_b176 (N : Nat) (x0 : Int) (μ : Mm) : Rs :=
  ck (μ x0 (-2) = 9) <|
  ck (μ (μ x0 1) (-2) = 3) <|
  some (μ (μ x0 1) 2, μ)
def f_X7_count_b184 (N : Nat) (μ : Mm) : Rs :=
  some ((-100000002), μ)
def f_X7_count (N : Nat) (x0 x1 : Int) (μ : Mm) : Rs :=
  if x1 = 0 then
    (f_X7_count_b68 N x0 μ)
  else
  if x1 = 1 then
    (f_X7_count_b76 N x0 μ)
  else
  if x1 = 2 then
    (f_X7_count_b84 N x0 μ)
  else
  if x1 = 3 then
    (f_X7_count_b92 N x0 μ)
  else
  if x1 = 4 then
    (f_X7_count_b100 N x0 μ)
  else
  if x1 = 5 then
    (f_X7_count_b108 N x0 μ)
  else
  if x1 = 6 then
    (f_X7_count_b116 N x0 μ)
  else
  if x1 = 7 then
    (f_X7_count_b127 N x0 μ)
  else
  if x1 = 8 then
    (f_X7_count_b138 N x0 μ)
  else
  if x1 = 9 then
    (f_X7_count_b149 N x0 μ)
  else
  if x1 = 10 then
    (f_X7_count_b160 N x0 μ)
  else
  if x1 = 11 then
    (f_X7_count_b171 N x0 μ)
  else
  if x1 = 12 then
    (f_X7_count_b176 N x0 μ)
  else
  f_X7_count_b184 N μ
set_option maxHeartbeats 4000000 in
set_option maxRecDepth 100000 in
theorem k_X7_count_b68 (C : gCx p s m args meth c cX7_count 2 (some .int) "count" RX7) (N : Nat) {r : Int} {μ' : Mm} : ∀ (x0 : Int) (μ : Mm), f_X7_count_b68 N x0 μ = some (r, μ') → ∀ (H : Heap) (locs : List Loc) (ls : Array Slot), MS E μ s H locs → lv_has ls 2 [(0, vr E x0)] → W p l e ({ frames := 2, cells := 0, slots := 0, locals := 42 } : Room) s m args below meth c H locs 0 0 (MQ below (gQ E (some (vi r)) (R32 r) μ') args s 0 0 (gA E)) (F0 m 68 ls []) := by
  intro x0 μ h H locs ls hM hl
  unfold f_X7_count_b68 at h
  refine m_aload_n (pc := 68) C dX7_count_68 rfl (lv_at hl 0 rfl) ?_
  obtain ⟨q1, h⟩ := ck_some h
  refine G_X7_now (pc := 69) C hM bw_2_63 q1 dX7_count_69 ?_
  obtain ⟨q2, h⟩ := ck_some h
  have gq2 := Gr_X6_day hM q2
  refine G_X6_day (pc := 72) C hM bw_1_196 q2 dX7_count_72 ?_
  cases h
  exact m_iret (pc := 75) C hM gq2 dX7_count_75
set_option maxHeartbeats 4000000 in
set_option maxRecDepth 100000 in
theorem k_X7_count_b76 (C : gCx p s m args meth c cX7_count 2 (some .int) "count" RX7) (N : Nat) {r : Int} {μ' : Mm} : ∀ (x0 : Int) (μ : Mm), f_X7_count_b76 N x0 μ = some (r, μ') → ∀ (H : Heap) (locs : List Loc) (ls : Array Slot), MS E μ s H locs → lv_has ls 2 [(0, vr E x0)] → W p l e ({ frames := 2, cells := 0, slots := 0, locals := 42 } : Room) s m args below meth c H locs 0 0 (MQ below (gQ E (some (vi r)) (R32 r) μ') args s 0 0 (gA E)) (F0 m 76 ls []) := by
  intro x0 μ h H locs ls hM hl
  unfold f_X7_count_b76 at h
  refine m_aload_n (pc := 76) C dX7_count_76 rfl (lv_at hl 0 rfl) ?_
  obtain ⟨q1, h⟩ := ck_some h
  refine G_X7_now (pc := 77) C hM bw_2_63 q1 dX7_count_77 ?_
  obtain ⟨q2, h⟩ := ck_some h
  have gq2 := Gr_X6_ownerCount hM q2
  refine G_X6_ownerCount (pc := 80) C hM bw_1_187 q2 dX7_count_80 ?_
  cases h
  exact m_iret (pc := 83) C hM gq2 dX7_count_83
set_option maxHeartbeats 4000000 in
set_option maxRecDepth 100000 in
theorem k_X7_count_b84 (C : gCx p s m args meth c cX7_count 2 (some .int) "count" RX7) (N : Nat) {r : Int} {μ' : Mm} : ∀ (x0 : Int) (μ : Mm), f_X7_count_b84 N x0 μ = some (r, μ') → ∀ (H : Heap) (locs : List Loc) (ls : Array Slot), MS E μ s H locs → lv_has ls 2 [(0, vr E x0)] → W p l e ({ frames := 2, cells := 0, slots := 0, locals := 42 } : Room) s m args below meth c H locs 0 0 (MQ below (gQ E (some (vi r)) (R32 r) μ') args s 0 0 (gA E)) (F0 m 84 ls []) := by
  intro x0 μ h H locs ls hM hl
  unfold f_X7_count_b84 at h
  refine m_aload_n (pc := 84) C dX7_count_84 rfl (lv_at hl 0 rfl) ?_
  obtain ⟨q1, h⟩ := ck_some h
  refine G_X7_now (pc := 85) C hM bw_2_63 q1 dX7_count_85 ?_
  obtain ⟨q2, h⟩ := ck_some h
  have gq2 := Gr_X6_lotCount hM q2
  refine G_X6_lotCount (pc := 88) C hM bw_1_190 q2 dX7_count_88 ?_
  cases h
  exact m_iret (pc := 91) C hM gq2 dX7_count_91
set_option maxHeartbeats 4000000 in
set_option maxRecDepth 100000 in
theorem k_X7_count_b92 (C : gCx p s m args meth c cX7_count 2 (some .int) "count" RX7) (N : Nat) {r : Int} {μ' : Mm} : ∀ (x0 : Int) (μ : Mm), f_X7_count_b92 N x0 μ = some (r, μ') → ∀ (H : Heap) (locs : List Loc) (ls : Array Slot), MS E μ s H locs → lv_has ls 2 [(0, vr E x0)] → W p l e ({ frames := 2, cells := 0, slots := 0, locals := 42 } : Room) s m args below meth c H locs 0 0 (MQ below (gQ E (some (vi r)) (R32 r) μ') args s 0 0 (gA E)) (F0 m 92 ls []) := by
  intro x0 μ h H locs ls hM hl
  unfold f_X7_count_b92 at h
  refine m_aload_n (pc := 92) C dX7_count_92 rfl (lv_at hl 0 rfl) ?_
  obtain ⟨q1, h⟩ := ck_some h
  refine G_X7_now (pc := 93) C hM bw_2_63 q1 dX7_count_93 ?_
  obtain ⟨q2, h⟩ := ck_some h
  have gq2 := Gr_X6_exportCount hM q2
  refine G_X6_exportCount (pc := 96) C hM bw_1_192 q2 dX7_count_96 ?_
  cases h
  exact m_iret (pc := 99) C hM gq2 dX7_count_99
set_option maxHeartbeats 4000000 in
set_option maxRecDepth 100000 in
theorem k_X7_count_b100 (C : gCx p s m args meth c cX7_count 2 (some .int) "count" RX7) (N : Nat) {r : Int} {μ' : Mm} : ∀ (x0 : Int) (μ : Mm), f_X7_count_b100 N x0 μ = some (r, μ') → ∀ (H : Heap) (locs : List Loc) (ls : Array Slot), MS E μ s H locs → lv_has ls 2 [(0, vr E x0)] → W p l e ({ frames := 2, cells := 0, slots := 0, locals := 42 } : Room) s m args below meth c H locs 0 0 (MQ below (gQ E (some (vi r)) (R32 r) μ') args s 0 0 (gA E)) (F0 m 100 ls []) := by
  intro x0 μ h H locs ls hM hl
  unfold f_X7_count_b100 at h
  refine m_aload_n (pc := 100) C dX7_count_100 rfl (lv_at hl 0 rfl) ?_
  obtain ⟨q1, h⟩ := ck_some h
  refine G_X7_now (pc := 101) C hM bw_2_63 q1 dX7_count_101 ?_
  obtain ⟨q2, h⟩ := ck_some h
  obtain ⟨a3, μ4, ca3, h⟩ := bd_some h
  refine V_X6_waitingExports (pc := 104) C hM ca3 q2 bw_3_8 ⟨Nat.le_of_ble_eq_true rfl, Nat.le_of_ble_eq_true rfl⟩ hl.1 rc0 ⟨Nat.le_refl _, Nat.le_refl _⟩ dX7_count_104 (fun ra3 H locs hM => ?_)
  cases h
  exact m_iret (pc := 107) C hM ra3 dX7_count_107
set_option maxHeartbeats 4000000 in
set_option maxRecDepth 100000 in
theorem k_X7_count_b108 (C : gCx p s m args meth c cX7_count 2 (some .int) "count" RX7) (N : Nat) {r : Int} {μ' : Mm} : ∀ (x0 : Int) (μ : Mm), f_X7_count_b108 N x0 μ = some (r, μ') → ∀ (H : Heap) (locs : List Loc) (ls : Array Slot), MS E μ s H locs → lv_has ls 2 [(0, vr E x0)] → W p l e ({ frames := 2, cells := 0, slots := 0, locals := 42 } : Room) s m args below meth c H locs 0 0 (MQ below (gQ E (some (vi r)) (R32 r) μ') args s 0 0 (gA E)) (F0 m 108 ls []) := by
  intro x0 μ h H locs ls hM hl
  unfold f_X7_count_b108 at h
  refine m_aload_n (pc := 108) C dX7_count_108 rfl (lv_at hl 0 rfl) ?_
  obtain ⟨q1, h⟩ := ck_some h
  refine G_X7_now (pc := 109) C hM bw_2_63 q1 dX7_count_109 ?_
  obtain ⟨q2, h⟩ := ck_some h
  have gq2 := Gr_X6_seizedLots hM q2
  refine G_X6_seizedLots (pc := 112) C hM bw_1_194 q2 dX7_count_112 ?_
  cases h
  exact m_iret (pc := 115) C hM gq2 dX7_count_115
set_option maxHeartbeats 4000000 in
set_option maxRecDepth 100000 in
theorem k_X7_count_b116 (C : gCx p s m args meth c cX7_count 2 (some .int) "count" RX7) (N : Nat) {r : Int} {μ' : Mm} : ∀ (x0 : Int) (μ : Mm), f_X7_count_b116 N x0 μ = some (r, μ') → ∀ (H : Heap) (locs : List Loc) (ls : Array Slot), MS E μ s H locs → lv_has ls 2 [(0, vr E x0)] → W p l e ({ frames := 2, cells := 0, slots := 0, locals := 42 } : Room) s m args below meth c H locs 0 0 (MQ below (gQ E (some (vi r)) (R32 r) μ') args s 0 0 (gA E)) (F0 m 116 ls []) := by
  intro x0 μ h H locs ls hM hl
  unfold f_X7_count_b116 at h
  refine m_aload_n (pc := 116) C dX7_count_116 rfl (lv_at hl 0 rfl) ?_
  obtain ⟨q1, h⟩ := ck_some h
  refine G_X7_now (pc := 117) C hM bw_2_63 q1 dX7_count_117 ?_
  obtain ⟨q2, h⟩ := ck_some h
  refine G_X6_settings (pc := 120) C hM bw_1_181 q2 dX7_count_120 ?_
  obtain ⟨q3, h⟩ := ck_some h
  have gq3 := Gr_X5_term hM q3
  refine G_X5_term (pc := 123) C hM bw_1_43 q3 dX7_count_123 ?_
  cases h
  exact m_iret (pc := 126) C hM gq3 dX7_count_126
set_option maxHeartbeats 4000000 in
set_option maxRecDepth 100000 in
theorem k_X7_count_b127 (C : gCx p s m args meth c cX7_count 2 (some .int) "count" RX7) (N : Nat) {r : Int} {μ' : Mm} : ∀ (x0 : Int) (μ : Mm), f_X7_count_b127 N x0 μ = some (r, μ') → ∀ (H : Heap) (locs : List Loc) (ls : Array Slot), MS E μ s H locs → lv_has ls 2 [(0, vr E x0)] → W p l e ({ frames := 2, cells := 0, slots := 0, locals := 42 } : Room) s m args below meth c H locs 0 0 (MQ below (gQ E (some (vi r)) (R32 r) μ') args s 0 0 (gA E)) (F0 m 127 ls []) := by
  intro x0 μ h H locs ls hM hl
  unfold f_X7_count_b127 at h
  refine m_aload_n (pc := 127) C dX7_count_127 rfl (lv_at hl 0 rfl) ?_
  obtain ⟨q1, h⟩ := ck_some h
  refine G_X7_now (pc := 128) C hM bw_2_63 q1 dX7_count_128 ?_
  obtain ⟨q2, h⟩ := ck_some h
  refine G_X6_settings (pc := 131) C hM bw_1_181 q2 dX7_count_131 ?_
  obtain ⟨q3, h⟩ := ck_some h
  have gq3 := Gr_X5_proof hM q3
  refine G_X5_proof (pc := 134) C hM bw_1_45 q3 dX7_count_134 ?_
  cases h
  exact m_iret (pc := 137) C hM gq3 dX7_count_137
set_option maxHeartbeats 4000000 in
set_option maxRecDepth 100000 in
theorem k_X7_count_b138 (C : gCx p s m args meth c cX7_count 2 (some .int) "count" RX7) (N : Nat) {r : Int} {μ' : Mm} : ∀ (x0 : Int) (μ : Mm), f_X7_count_b138 N x0 μ = some (r, μ') → ∀ (H : Heap) (locs : List Loc) (ls : Array Slot), MS E μ s H locs → lv_has ls 2 [(0, vr E x0)] → W p l e ({ frames := 2, cells := 0, slots := 0, locals := 42 } : Room) s m args below meth c H locs 0 0 (MQ below (gQ E (some (vi r)) (R32 r) μ') args s 0 0 (gA E)) (F0 m 138 ls []) := by
  intro x0 μ h H locs ls hM hl
  unfold f_X7_count_b138 at h
  refine m_aload_n (pc := 138) C dX7_count_138 rfl (lv_at hl 0 rfl) ?_
  obtain ⟨q1, h⟩ := ck_some h
  refine G_X7_now (pc := 139) C hM bw_2_63 q1 dX7_count_139 ?_
  obtain ⟨q2, h⟩ := ck_some h
  refine G_X6_settings (pc := 142) C hM bw_1_181 q2 dX7_count_142 ?_
  obtain ⟨q3, h⟩ := ck_some h
  have gq3 := Gr_X5_cover hM q3
  refine G_X5_cover (pc := 145) C hM bw_1_47 q3 dX7_count_145 ?_
  cases h
  exact m_iret (pc := 148) C hM gq3 dX7_count_148
set_option maxHeartbeats 4000000 in
set_option maxRecDepth 100000 in
theorem k_X7_count_b149 (C : gCx p s m args meth c cX7_count 2 (some .int) "count" RX7) (N : Nat) {r : Int} {μ' : Mm} : ∀ (x0 : Int) (μ : Mm), f_X7_count_b149 N x0 μ = some (r, μ') → ∀ (H : Heap) (locs : List Loc) (ls : Array Slot), MS E μ s H locs → lv_has ls 2 [(0, vr E x0)] → W p l e ({ frames := 2, cells := 0, slots := 0, locals := 42 } : Room) s m args below meth c H locs 0 0 (MQ below (gQ E (some (vi r)) (R32 r) μ') args s 0 0 (gA E)) (F0 m 149 ls []) := by
  intro x0 μ h H locs ls hM hl
  unfold f_X7_count_b149 at h
  refine m_aload_n (pc := 149) C dX7_count_149 rfl (lv_at hl 0 rfl) ?_
  obtain ⟨q1, h⟩ := ck_some h
  refine G_X7_now (pc := 150) C hM bw_2_63 q1 dX7_count_150 ?_
  obtain ⟨q2, h⟩ := ck_some h
  refine G_X6_settings (pc := 153) C hM bw_1_181 q2 dX7_count_153 ?_
  obtain ⟨q3, h⟩ := ck_some h
  have gq3 := Gr_X5_allowance hM q3
  refine G_X5_allowance (pc := 156) C hM bw_1_49 q3 dX7_count_156 ?_
  cases h
  exact m_iret (pc := 159) C hM gq3 dX7_count_159
set_option maxHeartbeats 4000000 in
set_option maxRecDepth 100000 in
theorem k_X7_count_b160 (C : gCx p s m args meth c cX7_count 2 (some .int) "count" RX7) (N : Nat) {r : Int} {μ' : Mm} : ∀ (x0 : Int) (μ : Mm), f_X7_count_b160 N x0 μ = some (r, μ') → ∀ (H : Heap) (locs : List Loc) (ls : Array Slot), MS E μ s H locs → lv_has ls 2 [(0, vr E x0)] → W p l e ({ frames := 2, cells := 0, slots := 0, locals := 42 } : Room) s m args below meth c H locs 0 0 (MQ below (gQ E (some (vi r)) (R32 r) μ') args s 0 0 (gA E)) (F0 m 160 ls []) := by
  intro x0 μ h H locs ls hM hl
  unfold f_X7_count_b160 at h
  refine m_aload_n (pc := 160) C dX7_count_160 rfl (lv_at hl 0 rfl) ?_
  obtain ⟨q1, h⟩ := ck_some h
  refine G_X7_now (pc := 161) C hM bw_2_63 q1 dX7_count_161 ?_
  obtain ⟨q2, h⟩ := ck_some h
  refine G_X6_settings (pc := 164) C hM bw_1_181 q2 dX7_count_164 ?_
  obtain ⟨q3, h⟩ := ck_some h
  have gq3 := Gr_X5_fee hM q3
  refine G_X5_fee (pc := 167) C hM bw_1_51 q3 dX7_count_167 ?_
  cases h
  exact m_iret (pc := 170) C hM gq3 dX7_count_170
set_option maxHeartbeats 4000000 in
set_option maxRecDepth 100000 in
theorem k_X7_count_b171 (C : gCx p s m args meth c cX7_count 2 (some .int) "count" RX7) (N : Nat) {r : Int} {μ' : Mm} : ∀ (x0 : Int) (μ : Mm), f_X7_count_b171 N x0 μ = some (r, μ') → ∀ (H : Heap) (locs : List Loc) (ls : Array Slot), MS E μ s H locs → lv_has ls 2 [(0, vr E x0)] → W p l e ({ frames := 2, cells := 0, slots := 0, locals := 42 } : Room) s m args below meth c H locs 0 0 (MQ below (gQ E (some (vi r)) (R32 r) μ') args s 0 0 (gA E)) (F0 m 171 ls []) := by
  intro x0 μ h H locs ls hM hl
  unfold f_X7_count_b171 at h
  refine m_aload_n (pc := 171) C dX7_count_171 rfl (lv_at hl 0 rfl) ?_
  obtain ⟨q1, h⟩ := ck_some h
  have gq1 := Gr_X7_reason hM q1
  refine G_X7_reason (pc := 172) C hM bw_2_69 q1 dX7_count_172 ?_
  cases h
  exact m_iret (pc := 175) C hM gq1 dX7_count_175
set_option maxHeartbeats 4000000 in
set_option maxRecDepth 100000 in
theorem k_X7_count_b176 (C : gCx p s m args meth c cX7_count 2 (some .int) "count" RX7) (N : Nat) {r : Int} {μ' : Mm} : ∀ (x0 : Int) (μ : Mm), f_X7_count_b176 N x0 μ = some (r, μ') → ∀ (H : Heap) (locs : List Loc) (ls : Array Slot), MS E μ s H locs → lv_has ls 2 [(0, vr E x0)] → W p l e ({ frames := 2, cells := 0, slots := 0, locals := 42 } : Room) s m args below meth c H locs 0 0 (MQ below (gQ E (some (vi r)) (R32 r) μ') args s 0 0 (gA E)) (F0 m 176 ls []) := by
  intro x0 μ h H locs ls hM hl
  unfold f_X7_count_b176 at h
  refine m_aload_n (pc := 176) C dX7_count_176 rfl (lv_at hl 0 rfl) ?_
  obtain ⟨q1, h⟩ := ck_some h
  refine G_X7_history (pc := 177) C hM bw_2_64 q1 dX7_count_177 ?_
  obtain ⟨q2, h⟩ := ck_some h
  have gq2 := Gr_X1_size hM q2
  refine G_X1_size (pc := 180) C hM bw_1_236 q2 dX7_count_180 ?_
  cases h
  exact m_iret (pc := 183) C hM gq2 dX7_count_183
set_option maxHeartbeats 4000000 in
set_option maxRecDepth 100000 in
theorem k_X7_count_b184 (C : gCx p s m args meth c cX7_count 2 (some .int) "count" RX7) (N : Nat) {r : Int} {μ' : Mm} : ∀ (μ : Mm), f_X7_count_b184 N μ = some (r, μ') → ∀ (H : Heap) (locs : List Loc) (ls : Array Slot), MS E μ s H locs → lv_has ls 2 [] → W p l e ({ frames := 2, cells := 0, slots := 0, locals := 42 } : Room) s m args below meth c H locs 0 0 (MQ below (gQ E (some (vi r)) (R32 r) μ') args s 0 0 (gA E)) (F0 m 184 ls []) := by
  intro μ h H locs ls hM hl
  unfold f_X7_count_b184 at h
  refine m_ldc (n := -100000002) (pc := 184) C bw_2_93 rfl dX7_count_184 ?_
  cases h
  exact m_iret (pc := 186) C hM rk_m100000002 dX7_count_186
set_option maxHeartbeats 4000000 in
set_option maxRecDepth 100000 in
theorem c_X7_count (l : Launch) (E : gE) (N : Nat) (x0 x1 : Int) (μ μ' : Mm) (r : Int) (h : f_X7_count N x0 x1 μ = some (r, μ')) (rx1 : R32 x1) : gMet l E yX7_count cX7_count 2 (some .int) 2 42 [vr E x0, vi x1] (some (vi r)) (R32 r) μ μ' 0 0 := by
  refine g_ofW [1, 1] (by first | (simp only [List.map_cons, List.map_nil, vr_cat]; done) | (simp only [List.map_cons, List.map_nil, vr_cat]; rfl)) (by decide) (by decide) (fun p e s m below meth c ls C hM hl => ?_)
  replace C : gCx p s m _ meth c cX7_count 2 (some .int) "count" RX7 := C
  replace hl : lv_has ls 2 [(0, vr E x0), (1, vi x1)] := hl
  unfold f_X7_count at h
  refine m_iload_n (pc := 0) C dX7_count_0 rfl (lv_at hl 1 rfl) ?_
  by_cases c1 : x1 = 0
  · have h := if_t h c1
    refine m_tab (pc := 1) (tgt := 68) C rx1 c1 dX7_count_1 (by decide) (by decide) rfl (by decide) ?_
    exact k_X7_count_b68 C N _ _ h _ _ _ hM (lv_sub hl [0] rfl)
  replace h := if_f h c1
  by_cases c2 : x1 = 1
  · have h := if_t h c2
    refine m_tab (pc := 1) (tgt := 76) C rx1 c2 dX7_count_1 (by decide) (by decide) rfl (by decide) ?_
    exact k_X7_count_b76 C N _ _ h _ _ _ hM (lv_sub hl [0] rfl)
  replace h := if_f h c2
  by_cases c3 : x1 = 2
  · have h := if_t h c3
    refine m_tab (pc := 1) (tgt := 84) C rx1 c3 dX7_count_1 (by decide) (by decide) rfl (by decide) ?_
    exact k_X7_count_b84 C N _ _ h _ _ _ hM (lv_sub hl [0] rfl)
  replace h := if_f h c3
  by_cases c4 : x1 = 3
  · have h := if_t h c4
    refine m_tab (pc := 1) (tgt := 92) C rx1 c4 dX7_count_1 (by decide) (by decide) rfl (by decide) ?_
    exact k_X7_count_b92 C N _ _ h _ _ _ hM (lv_sub hl [0] rfl)
  replace h := if_f h c4
  by_cases c5 : x1 = 4
  · have h := if_t h c5
    refine m_tab (pc := 1) (tgt := 100) C rx1 c5 dX7_count_1 (by decide) (by decide) rfl (by decide) ?_
    exact k_X7_count_b100 C N _ _ h _ _ _ hM (lv_sub hl [0] rfl)
  replace h := if_f h c5
  by_cases c6 : x1 = 5
  · have h := if_t h c6
    refine m_tab (pc := 1) (tgt := 108) C rx1 c6 dX7_count_1 (by decide) (by decide) rfl (by decide) ?_
    exact k_X7_count_b108 C N _ _ h _ _ _ hM (lv_sub hl [0] rfl)
  replace h := if_f h c6
  by_cases c7 : x1 = 6
  · have h := if_t h c7
    refine m_tab (pc := 1) (tgt := 116) C rx1 c7 dX7_count_1 (by decide) (by decide) rfl (by decide) ?_
    exact k_X7_count_b116 C N _ _ h _ _ _ hM (lv_sub hl [0] rfl)
  replace h := if_f h c7
  by_cases c8 : x1 = 7
  · have h := if_t h c8
    refine m_tab (pc := 1) (tgt := 127) C rx1 c8 dX7_count_1 (by decide) (by decide) rfl (by decide) ?_
    exact k_X7_count_b127 C N _ _ h _ _ _ hM (lv_sub hl [0] rfl)
  replace h := if_f h c8
  by_cases c9 : x1 = 8
  · have h := if_t h c9
    refine m_tab (pc := 1) (tgt := 138) C rx1 c9 dX7_count_1 (by decide) (by decide) rfl (by decide) ?_
    exact k_X7_count_b138 C N _ _ h _ _ _ hM (lv_sub hl [0] rfl)
  replace h := if_f h c9
  by_cases c10 : x1 = 9
  · have h := if_t h c10
    refine m_tab (pc := 1) (tgt := 149) C rx1 c10 dX7_count_1 (by decide) (by decide) rfl (by decide) ?_
    exact k_X7_count_b149 C N _ _ h _ _ _ hM (lv_sub hl [0] rfl)
  replace h := if_f h c10
  by_cases c11 : x1 = 10
  · have h := if_t h c11
    refine m_tab (pc := 1) (tgt := 160) C rx1 c11 dX7_count_1 (by decide) (by decide) rfl (by decide) ?_
    exact k_X7_count_b160 C N _ _ h _ _ _ hM (lv_sub hl [0] rfl)
  replace h := if_f h c11
  by_cases c12 : x1 = 11
  · have h := if_t h c12
    refine m_tab (pc := 1) (tgt := 171) C rx1 c12 dX7_count_1 (by decide) (by decide) rfl (by decide) ?_
    exact k_X7_count_b171 C N _ _ h _ _ _ hM (lv_sub hl [0] rfl)
  replace h := if_f h c12
  by_cases c13 : x1 = 12
  · have h := if_t h c13
    refine m_tab (pc := 1) (tgt := 176) C rx1 c13 dX7_count_1 (by decide) (by decide) rfl (by decide) ?_
    exact k_X7_count_b176 C N _ _ h _ _ _ hM (lv_sub hl [0] rfl)
  replace h := if_f h c13
  refine m_tabD (pc := 1) (tgt := 184) C rx1 dX7_count_1 (by omega) (by decide) ?_
  exact k_X7_count_b184 C N _ h _ _ _ hM (lv_sub hl [] rfl)
theorem hd_X7_count : yX7_count.cls ≠ "java/lang/invoke/MethodHandle" ∧ yX7_count.cls ≠ "java/lang/invoke/VarHandle" ∧ (parseMethodDescriptor yX7_count.desc).map (fun d => d.parameters.length) = some 1 := by decide +kernel

theorem V_X7_count {p : Program} {l : Launch} {e : Env} {R : Room} {s : State} {m : MethodId} {args : Array Value} {below : List Frame} {meth : Method} {c : Code} {H : Heap} {locs : List Loc} {cells slots : Nat} {Q : State → Prop} {cc : ByteArray} {pc nL : Nat} {ls : Array Slot} {rest : List Value} {ret : Option FieldType} {nmm own : String} {E : gE} {μ μ1 : Mm} {index : Nat} (C : gCx p s m args meth c cc nL ret nmm own) (hM : MS E μ s H locs) {N : Nat} {x0 x1 v : Int} (hc : f_X7_count N x0 x1 μ = some (v, μ1)) (rx1 : R32 x1) (hck : μ x0 (-2) = 9) (h1 : Cond.methodLink own index yX7_count ∈ bigL) (hR : 3 ≤ R.frames ∧ 63 ≤ R.locals) (hl : ls.size = nL) (hcat : RC rest 8) (hf : cells + 0 ≤ R.cells ∧ slots + 0 ≤ R.slots) (hdg : decode cc pc = .ok (.invokevirtual index, 3)) (kk : (R32 v) → ∀ (H1 : Heap) (locs1 : List Loc), MS E μ1 s H1 locs1 → W p l e R s m args below meth c H1 locs1 (cells + 0) (slots + 0) Q (F0 m (pc + 3) ls (vi v :: rest))) : W p l e R s m args below meth c H locs cells slots Q (F0 m pc ls (vi x1 :: vr E x0 :: rest)) := g_callV C KF_X7 hM (c_X7_count l E N x0 x1 μ μ1 v hc rx1) hck (gV h1 bw_3_5 bw_3_6 bw_1_1 bw_3_7) ⟨rfl, hd_X7_count⟩ hR rfl hl rfl hcat hf hdg kk
end G09
