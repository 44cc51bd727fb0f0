section G17
variable {p : Program} {l : Launch} {e : Env} {R : Room} {s : State} {m : MethodId} {args : Array Value} {below : List Frame} {meth : Method} {c : Code} {E : gE}
/-! X8_documentLength -/
def f_X8_documentLength (N : Nat) (x0 x1 : Int) (μ : Mm) : Rs :=
  ck (μ x0 (-2) = 10) <|
  bd (f_X8_noLot N x0 x1 μ) fun a2 μ3 =>
  if a2 = 0 then
    (ck (μ3 x0 (-2) = 10) <|
     bd (f_X8_writeDocument N x0 x1 μ3) fun a6 μ7 =>
     ck (μ7 x0 (-2) = 10) <|
     some (μ7 x0 13, μ7))
  else
  some ((-100000001), μ3)
set_option maxHeartbeats 4000000 in
set_option maxRecDepth 100000 in
theorem c_X8_documentLength (l : Launch) (E : gE) (N : Nat) (x0 x1 : Int) (μ μ' : Mm) (r : Int) (h : f_X8_documentLength N x0 x1 μ = some (r, μ')) (rx1 : R32 x1) : gMet l E yX8_documentLength cX8_documentLength 2 (some .int) 4 87 [vr E x0, vi x1] (some (vi r)) (R32 r) μ μ' 0 0 := by
  refine g_ofW [1, 1] (by first | (simp only [List.map_cons, List.map_nil, vr_cat]; done) | (simp only [List.map_cons, List.map_nil, vr_cat]; rfl)) (by decide) (by decide) (fun p e s m below meth c ls C hM hl => ?_)
  replace C : gCx p s m _ meth c cX8_documentLength 2 (some .int) "documentLength" RX8 := C
  replace hl : lv_has ls 2 [(0, vr E x0), (1, vi x1)] := hl
  unfold f_X8_documentLength at h
  refine m_aload_n (pc := 0) C dX8_documentLength_0 rfl (lv_at hl 0 rfl) ?_
  refine m_iload_n (pc := 1) C dX8_documentLength_1 rfl (lv_at hl 1 rfl) ?_
  obtain ⟨q1, h⟩ := ck_some h
  obtain ⟨a2, μ3, ca2, h⟩ := bd_some h
  refine V_X8_noLot (pc := 2) C hM ca2 rx1 q1 bw_5_171 ⟨Nat.le_of_ble_eq_true rfl, Nat.le_of_ble_eq_true rfl⟩ hl.1 rc0 ⟨Nat.le_refl _, Nat.le_refl _⟩ dX8_documentLength_2 (fun ra2 H locs hM => ?_)
  refine m_if_eq (tgt := 11) (pc := 5) C ra2 dX8_documentLength_5 (by decide) (fun c4 => ?_) (fun c4 => ?_)
  · have h := if_t h c4
    refine m_aload_n (pc := 11) C dX8_documentLength_11 rfl (lv_at hl 0 rfl) ?_
    refine m_iload_n (pc := 12) C dX8_documentLength_12 rfl (lv_at hl 1 rfl) ?_
    obtain ⟨q5, h⟩ := ck_some h
    obtain ⟨a6, μ7, ca6, h⟩ := bd_some h
    refine V_X8_writeDocument (pc := 13) C hM ca6 rx1 q5 bw_6_111 ⟨Nat.le_of_ble_eq_true rfl, Nat.le_of_ble_eq_true rfl⟩ hl.1 rc0 ⟨Nat.le_refl _, Nat.le_refl _⟩ dX8_documentLength_13 (fun _ H locs hM => ?_)
    refine m_aload_n (pc := 16) C dX8_documentLength_16 rfl (lv_at hl 0 rfl) ?_
    obtain ⟨q8, h⟩ := ck_some h
    have gq8 := Gr_X8_written hM q8
    refine G_X8_written (pc := 17) C hM bw_5_0 q8 dX8_documentLength_17 ?_
    cases h
    exact m_iret (pc := 20) C hM gq8 dX8_documentLength_20
  · have h := if_f h c4
    refine m_ldc (n := -100000001) (pc := 8) C bw_5_46 rfl dX8_documentLength_8 ?_
    cases h
    exact m_iret (pc := 10) C hM rk_m100000001 dX8_documentLength_10
theorem hd_X8_documentLength : yX8_documentLength.cls ≠ "java/lang/invoke/MethodHandle" ∧ yX8_documentLength.cls ≠ "java/lang/invoke/VarHandle" ∧ (parseMethodDescriptor yX8_documentLength.desc).map (fun d => d.parameters.length) = some 1 := by decide +kernel

theorem V_X8_documentLength {p : Program} {l : Launch} {e : Env} {R : Room} {s : State} {m : MethodId} {args : Array Value} {below : List Frame} {meth : Method} {c : Code} {H : Heap} {locs : List Loc} {cells slots : Nat} {Q : State → Prop} {cc : ByteArray} {pc nL : Nat} {ls : Array Slot} {rest : List Value} {ret : Option FieldType} {nmm own : String} {E : gE} {μ μ1 : Mm} {index : Nat} (C : gCx p s m args meth c cc nL ret nmm own) (hM : MS E μ s H locs) {N : Nat} {x0 x1 v : Int} (hc : f_X8_documentLength N x0 x1 μ = some (v, μ1)) (rx1 : R32 x1) (hck : μ x0 (-2) = 10) (h1 : Cond.methodLink own index yX8_documentLength ∈ bigL) (hR : 5 ≤ R.frames ∧ 108 ≤ R.locals) (hl : ls.size = nL) (hcat : RC rest 8) (hf : cells + 0 ≤ R.cells ∧ slots + 0 ≤ R.slots) (hdg : decode cc pc = .ok (.invokevirtual index, 3)) (kk : (R32 v) → ∀ (H1 : Heap) (locs1 : List Loc), MS E μ1 s H1 locs1 → W p l e R s m args below meth c H1 locs1 (cells + 0) (slots + 0) Q (F0 m (pc + 3) ls (vi v :: rest))) : W p l e R s m args below meth c H locs cells slots Q (F0 m pc ls (vi x1 :: vr E x0 :: rest)) := g_callV C KF_X8 hM (c_X8_documentLength l E N x0 x1 μ μ1 v hc rx1) hck (gV h1 bw_6_108 bw_6_109 bw_1_13 bw_6_110) ⟨rfl, hd_X8_documentLength⟩ hR rfl hl rfl hcat hf hdg kk
/-! X8_documentAt -/
def f_X8_documentAt (N : Nat) (x0 x1 x2 : Int) (μ : Mm) : Rs :=
  ck (μ x0 (-2) = 10) <|
  bd (f_X8_noLot N x0 x1 μ) fun a2 μ3 =>
  if a2 = 0 then
    (if 0 ≤ x2 then
       (ck (μ3 x0 (-2) = 10) <|
        bd (f_X8_writeDocument N x0 x1 μ3) fun a7 μ8 =>
        ck (μ8 x0 (-2) = 10) <|
        if (μ8 x0 13) ≤ x2 then
          (some ((-100000005), μ8))
        else
        ck (μ8 x0 (-2) = 10) <|
        ck (μ8 (μ8 x0 14) (-2) = 23 ∧ (0 : Int) ≤ x2 ∧ x2 < μ8 (μ8 x0 14) (-1)) <|
        some (μ8 (μ8 x0 14) x2, μ8))
     else
     some ((-100000002), μ3))
  else
  some ((-100000001), μ3)
set_option maxHeartbeats 4000000 in
set_option maxRecDepth 100000 in
theorem c_X8_documentAt (l : Launch) (E : gE) (N : Nat) (x0 x1 x2 : Int) (μ μ' : Mm) (r : Int) (h : f_X8_documentAt N x0 x1 x2 μ = some (r, μ')) (rx1 : R32 x1) (rx2 : R32 x2) : gMet l E yX8_documentAt cX8_documentAt 3 (some .int) 4 87 [vr E x0, vi x1, vi x2] (some (vi r)) (R32 r) μ μ' 0 0 := by
  refine g_ofW [1, 1, 1] (by first | (simp only [List.map_cons, List.map_nil, vr_cat]; done) | (simp only [List.map_cons, List.map_nil, vr_cat]; rfl)) (by decide) (by decide) (fun p e s m below meth c ls C hM hl => ?_)
  replace C : gCx p s m _ meth c cX8_documentAt 3 (some .int) "documentAt" RX8 := C
  replace hl : lv_has ls 3 [(0, vr E x0), (1, vi x1), (2, vi x2)] := hl
  unfold f_X8_documentAt at h
  refine m_aload_n (pc := 0) C dX8_documentAt_0 rfl (lv_at hl 0 rfl) ?_
  refine m_iload_n (pc := 1) C dX8_documentAt_1 rfl (lv_at hl 1 rfl) ?_
  obtain ⟨q1, h⟩ := ck_some h
  obtain ⟨a2, μ3, ca2, h⟩ := bd_some h
  refine V_X8_noLot (pc := 2) C hM ca2 rx1 q1 bw_5_171 ⟨Nat.le_of_ble_eq_true rfl, Nat.le_of_ble_eq_true rfl⟩ hl.1 rc0 ⟨Nat.le_refl _, Nat.le_refl _⟩ dX8_documentAt_2 (fun ra2 H locs hM => ?_)
  refine m_if_eq (tgt := 11) (pc := 5) C ra2 dX8_documentAt_5 (by decide) (fun c4 => ?_) (fun c4 => ?_)
  · have h := if_t h c4
    refine m_iload_n (pc := 11) C dX8_documentAt_11 rfl (lv_at hl 2 rfl) ?_
    refine m_if_ge (tgt := 18) (pc := 12) C rx2 dX8_documentAt_12 (by decide) (fun c5 => ?_) (fun c5 => ?_)
    · have h := if_t h c5
      refine m_aload_n (pc := 18) C dX8_documentAt_18 rfl (lv_at hl 0 rfl) ?_
      refine m_iload_n (pc := 19) C dX8_documentAt_19 rfl (lv_at hl 1 rfl) ?_
      obtain ⟨q6, h⟩ := ck_some h
      obtain ⟨a7, μ8, ca7, h⟩ := bd_some h
      refine V_X8_writeDocument (pc := 20) C hM ca7 rx1 q6 bw_6_111 ⟨Nat.le_of_ble_eq_true rfl, Nat.le_of_ble_eq_true rfl⟩ hl.1 rc0 ⟨Nat.le_refl _, Nat.le_refl _⟩ dX8_documentAt_20 (fun _ H locs hM => ?_)
      refine m_iload_n (pc := 23) C dX8_documentAt_23 rfl (lv_at hl 2 rfl) ?_
      refine m_aload_n (pc := 24) C dX8_documentAt_24 rfl (lv_at hl 0 rfl) ?_
      obtain ⟨q9, h⟩ := ck_some h
      have gq9 := Gr_X8_written hM q9
      refine G_X8_written (pc := 25) C hM bw_5_0 q9 dX8_documentAt_25 ?_
      refine m_icmp_ge (tgt := 40) (pc := 28) C rx2 gq9 dX8_documentAt_28 (by decide) (fun c10 => ?_) (fun c10 => ?_)
      · have h := if_t h c10
        refine m_ldc (n := -100000005) (pc := 40) C bw_5_38 rfl dX8_documentAt_40 ?_
        cases h
        exact m_iret (pc := 42) C hM rk_m100000005 dX8_documentAt_42
      · have h := if_f h c10
        refine m_aload_n (pc := 31) C dX8_documentAt_31 rfl (lv_at hl 0 rfl) ?_
        obtain ⟨q11, h⟩ := ck_some h
        refine G_X8_document (pc := 32) C hM bw_5_1 q11 dX8_documentAt_32 ?_
        refine m_iload_n (pc := 35) C dX8_documentAt_35 rfl (lv_at hl 2 rfl) ?_
        obtain ⟨q12, h⟩ := ck_some h
        have gq12 := Ar_iald hM q12.1 q12.2.1 q12.2.2
        refine m_iald (pc := 36) C hM q12.1 q12.2.1 q12.2.2 dX8_documentAt_36 ?_
        refine m_goto (tgt := 42) (pc := 37) C dX8_documentAt_37 (by decide) ?_
        cases h
        exact m_iret (pc := 42) C hM gq12 dX8_documentAt_42
    · have h := if_f h c5
      refine m_ldc (n := -100000002) (pc := 15) C bw_5_77 rfl dX8_documentAt_15 ?_
      cases h
      exact m_iret (pc := 17) C hM rk_m100000002 dX8_documentAt_17
  · have h := if_f h c4
    refine m_ldc (n := -100000001) (pc := 8) C bw_5_46 rfl dX8_documentAt_8 ?_
    cases h
    exact m_iret (pc := 10) C hM rk_m100000001 dX8_documentAt_10
theorem hd_X8_documentAt : yX8_documentAt.cls ≠ "java/lang/invoke/MethodHandle" ∧ yX8_documentAt.cls ≠ "java/lang/invoke/VarHandle" ∧ (parseMethodDescriptor yX8_documentAt.desc).map (fun d => d.parameters.length) = some 2 := by decide +kernel

theorem V_X8_documentAt {p : Program} {l : Launch} {e : Env} {R : Room} {s : State} {m : MethodId} {args : Array Value} {below : List Frame} {meth : Method} {c : Code} {H : Heap} {locs : List Loc} {cells slots : Nat} {Q : State → Prop} {cc : ByteArray} {pc nL : Nat} {ls : Array Slot} {rest : List Value} {ret : Option FieldType} {nmm own : String} {E : gE} {μ μ1 : Mm} {index : Nat} (C : gCx p s m args meth c cc nL ret nmm own) (hM : MS E μ s H locs) {N : Nat} {x0 x1 x2 v : Int} (hc : f_X8_documentAt N x0 x1 x2 μ = some (v, μ1)) (rx1 : R32 x1) (rx2 : R32 x2) (hck : μ x0 (-2) = 10) (h1 : Cond.methodLink own index yX8_documentAt ∈ bigL) (hR : 5 ≤ R.frames ∧ 109 ≤ R.locals) (hl : ls.size = nL) (hcat : RC rest 8) (hf : cells + 0 ≤ R.cells ∧ slots + 0 ≤ R.slots) (hdg : decode cc pc = .ok (.invokevirtual index, 3)) (kk : (R32 v) → ∀ (H1 : Heap) (locs1 : List Loc), MS E μ1 s H1 locs1 → W p l e R s m args below meth c H1 locs1 (cells + 0) (slots + 0) Q (F0 m (pc + 3) ls (vi v :: rest))) : W p l e R s m args below meth c H locs cells slots Q (F0 m pc ls (vi x2 :: vi x1 :: vr E x0 :: rest)) := g_callV C KF_X8 hM (c_X8_documentAt l E N x0 x1 x2 μ μ1 v hc rx1 rx2) hck (gV h1 bw_6_130 bw_6_131 bw_1_13 bw_6_132) ⟨rfl, hd_X8_documentAt⟩ hR rfl hl rfl hcat hf hdg kk
/-! X8_nextDeadline -/
def f_X8_nextDeadline_b121 (N : Nat) (k78 : Int → Int → Int → Int → Mm → Rs) (x0 x4 : Int) (μ : Mm) : Rs :=
  nm (w32 (100 + x4)) fun a1 =>
  ck (μ x0 (-2) = 10) <|
  bd (f_X8_exportAt N x4 μ) fun a3 μ4 =>
  nm (w32 (a3 + 3)) fun a5 =>
  ck (μ4 (μ x0 0) (-2) = 24 ∧ (0 : Int) ≤ a5 ∧ a5 < μ4 (μ x0 0) (-1)) <|
  nm (w32 (x4 + 1)) fun a7 =>
  k78 x0 a1 (μ4 (μ x0 0) a5) a7 μ4
def f_X8_nextDeadline_b78 (N : Nat) : Nat → Int → Int → Int → Int → Mm → Rs
  | 0, _, _, _, _, _ => none
  | n + 1, x0, x1, x2, x4, μ =>
    ck (μ x0 (-2) = 10) <|
    ck (μ (μ x0 0) (-2) = 24 ∧ (0 : Int) ≤ 3 ∧ 3 < μ (μ x0 0) (-1)) <|
    if (μ (μ x0 0) 3) ≤ x4 then
      (some (x1, μ))
    else
    ck (μ x0 (-2) = 10) <|
    bd (f_X8_waits N x0 x4 μ) fun a5 μ6 =>
    if a5 = 0 then
      (nm (w32 (x4 + 1)) fun a8 =>
       f_X8_nextDeadline_b78 N n x0 x1 x2 a8 μ6)
    else
    if x1 < 0 then
      (f_X8_nextDeadline_b121 N (f_X8_nextDeadline_b78 N n) x0 x4 μ6)
    else
    ck (μ6 x0 (-2) = 10) <|
    bd (f_X8_exportAt N x4 μ6) fun a11 μ12 =>
    nm (w32 (a11 + 3)) fun a13 =>
    ck (μ12 (μ6 x0 0) (-2) = 24 ∧ (0 : Int) ≤ a13 ∧ a13 < μ12 (μ6 x0 0) (-1)) <|
    if x2 ≤ (μ12 (μ6 x0 0) a13) then
      (nm (w32 (x4 + 1)) fun a16 =>
       f_X8_nextDeadline_b78 N n x0 x1 x2 a16 μ12)
    else
    f_X8_nextDeadline_b121 N (f_X8_nextDeadline_b78 N n) x0 x4 μ12
def f_X8_nextDeadline_b53 (N : Nat) (k8 : Int → Int → Int → Int → Mm → Rs) (x0 x4 : Int) (μ : Mm) : Rs :=
  ck (μ x0 (-2) = 10) <|
  bd (f_X8_lotAt N x4 μ) fun a2 μ3 =>
  nm (w32 (a2 + 5)) fun a4 =>
  ck (μ3 (μ x0 0) (-2) = 24 ∧ (0 : Int) ≤ a4 ∧ a4 < μ3 (μ x0 0) (-1)) <|
  nm (w32 (x4 + 1)) fun a6 =>
  k8 x0 x4 (μ3 (μ x0 0) a4) a6 μ3
def f_X8_nextDeadline_b8 (N : Nat) : Nat → Int → Int → Int → Int → Mm → Rs
  | 0, _, _, _, _, _ => none
  | n + 1, x0, x1, x2, x4, μ =>
    ck (μ x0 (-2) = 10) <|
    ck (μ (μ x0 0) (-2) = 24 ∧ (0 : Int) ≤ 2 ∧ 2 < μ (μ x0 0) (-1)) <|
    if (μ (μ x0 0) 2) ≤ x4 then
      (f_X8_nextDeadline_b78 N N x0 x1 x2 0 μ)
    else
    ck (μ x0 (-2) = 10) <|
    bd (f_X8_units N x0 x4 μ) fun a5 μ6 =>
    if a5 ≤ 0 then
      (nm (w32 (x4 + 1)) fun a8 =>
       f_X8_nextDeadline_b8 N n x0 x1 x2 a8 μ6)
    else
    if x1 < 0 then
      (f_X8_nextDeadline_b53 N (f_X8_nextDeadline_b8 N n) x0 x4 μ6)
    else
    ck (μ6 x0 (-2) = 10) <|
    bd (f_X8_lotAt N x4 μ6) fun a11 μ12 =>
    nm (w32 (a11 + 5)) fun a13 =>
    ck (μ12 (μ6 x0 0) (-2) = 24 ∧ (0 : Int) ≤ a13 ∧ a13 < μ12 (μ6 x0 0) (-1)) <|
    if x2 ≤ (μ12 (μ6 x0 0) a13) then
      (nm (w32 (x4 + 1)) fun a16 =>
       f_X8_nextDeadline_b8 N n x0 x1 x2 a16 μ12)
    else
    f_X8_nextDeadline_b53 N (f_X8_nextDeadline_b8 N n) x0 x4 μ12
def f_X8_nextDeadline (N : Nat) (x0 : Int) (μ : Mm) : Rs :=
  f_X8_nextDeadline_b8 N N x0 ((-100000005)) 0 0 μ
set_option maxHeartbeats 4000000 in
set_option maxRecDepth 100000 in
theorem k_X8_nextDeadline_b121 (C : gCx p s m args meth c cX8_nextDeadline 5 (some .int) "nextDeadline" RX8) (N : Nat) {r : Int} {μ' : Mm} (k78 : Int → Int → Int → Int → Mm → Rs) (hk78 : ∀ (x0 x1 x2 x4 : Int) (μ : Mm), k78 x0 x1 x2 x4 μ = some (r, μ') → R32 x1 → R64 x2 → R32 x4 → ∀ (H : Heap) (locs : List Loc) (ls : Array Slot), MS E μ s H locs → lv_has ls 5 [(0, vr E x0), (1, vi x1), (2, vl x2), (4, vi x4)] → W p l e ({ frames := 2, cells := 0, slots := 0, locals := 41 } : Room) s m args below meth c H locs 0 0 (MQ below (gQ E (some (vi r)) (R32 r) μ') args s 0 0 (gA E)) (F0 m 78 ls [])) : ∀ (x0 x4 : Int) (μ : Mm), f_X8_nextDeadline_b121 N k78 x0 x4 μ = some (r, μ') → R32 x4 → ∀ (H : Heap) (locs : List Loc) (ls : Array Slot), MS E μ s H locs → lv_has ls 5 [(0, vr E x0), (4, vi x4)] → W p l e ({ frames := 2, cells := 0, slots := 0, locals := 41 } : Room) s m args below meth c H locs 0 0 (MQ below (gQ E (some (vi r)) (R32 r) μ') args s 0 0 (gA E)) (F0 m 121 ls []) := by
  intro x0 x4 μ h rx4 H locs ls hM hl
  unfold f_X8_nextDeadline_b121 at h
  refine m_bipush (pc := 121) C dX8_nextDeadline_121 rfl ?_
  refine m_iload (pc := 123) C dX8_nextDeadline_123 (lv_at hl 1 rfl) ?_
  obtain ⟨a1, ea1, h⟩ := nm_some h
  have ra1 : R32 a1 := by rw [ea1]; exact w32_R _
  refine m_iadd (pc := 125) C dX8_nextDeadline_125 ea1 ?_
  refine m_istore_n (pc := 126) C dX8_nextDeadline_126 rfl hl (by decide) (lvK2 0 rfl (Nat.ne_of_beq_eq_false rfl) (vr_cat _ _) (lvK1 1 rfl (Nat.ne_of_beq_eq_false rfl) (Nat.ne_of_beq_eq_false rfl) lvK0)) (fun ls hl => ?_)
  refine m_aload_n (pc := 127) C dX8_nextDeadline_127 rfl (lv_at hl 1 rfl) ?_
  obtain ⟨q2, h⟩ := ck_some h
  refine G_X8_now (pc := 128) C hM bw_4_227 q2 dX8_nextDeadline_128 ?_
  refine m_iload (pc := 131) C dX8_nextDeadline_131 (lv_at hl 2 rfl) ?_
  obtain ⟨a3, μ4, ca3, h⟩ := bd_some h
  refine V_X8_exportAt (pc := 133) C hM ca3 rx4 bw_5_114 ⟨Nat.le_of_ble_eq_true rfl, Nat.le_of_ble_eq_true rfl⟩ hl.1 (rcR rc0) ⟨Nat.le_refl _, Nat.le_refl _⟩ dX8_nextDeadline_133 (fun ra3 H locs hM => ?_)
  refine m_iconst (pc := 136) C dX8_nextDeadline_136 ?_
  obtain ⟨a5, ea5, h⟩ := nm_some h
  have ra5 : R32 a5 := by rw [ea5]; exact w32_R _
  refine m_iadd (pc := 137) C dX8_nextDeadline_137 ea5 ?_
  obtain ⟨q6, h⟩ := ck_some h
  have gq6 := Ar_lald hM q6.1 q6.2.1 q6.2.2
  refine m_lald (pc := 138) C hM q6.1 q6.2.1 q6.2.2 dX8_nextDeadline_138 ?_
  refine m_lstore_n (pc := 139) C dX8_nextDeadline_139 rfl hl (by decide) (lvK2 0 rfl (Nat.ne_of_beq_eq_false rfl) rfl (lvK1 1 rfl (Nat.ne_of_beq_eq_false rfl) (Nat.ne_of_beq_eq_false rfl) (lvK1 2 rfl (Nat.ne_of_beq_eq_false rfl) (Nat.ne_of_beq_eq_false rfl) lvK0))) (lvN1 (Nat.ne_of_beq_eq_false rfl) (lvN1 (Nat.ne_of_beq_eq_false rfl) (lvN1 (Nat.ne_of_beq_eq_false rfl) lvN0))) (fun ls hl => ?_)
  obtain ⟨a7, ea7, h⟩ := nm_some h
  have ra7 : R32 a7 := by rw [ea7]; exact w32_R _
  refine m_iinc (k := 3) (pc := 140) C dX8_nextDeadline_140 hl rfl (by decide) ea7 (lvK1 0 rfl (Nat.ne_of_beq_eq_false rfl) (Nat.ne_of_beq_eq_false rfl) (lvK1 1 rfl (Nat.ne_of_beq_eq_false rfl) (Nat.ne_of_beq_eq_false rfl) (lvK1 2 rfl (Nat.ne_of_beq_eq_false rfl) (Nat.ne_of_beq_eq_false rfl) lvK0))) (fun ls hl => ?_)
  refine m_goto (tgt := 78) (pc := 143) C dX8_nextDeadline_143 (by decide) ?_
  exact hk78 _ _ _ _ _ h ra1 gq6 ra7 _ _ _ hM (lv_sub hl [3, 2, 1, 0] rfl)
set_option maxHeartbeats 4000000 in
set_option maxRecDepth 100000 in
theorem k_X8_nextDeadline_b78 (C : gCx p s m args meth c cX8_nextDeadline 5 (some .int) "nextDeadline" RX8) (N : Nat) {r : Int} {μ' : Mm} : ∀ (n : Nat), ∀ (x0 x1 x2 x4 : Int) (μ : Mm), f_X8_nextDeadline_b78 N n x0 x1 x2 x4 μ = some (r, μ') → R32 x1 → R64 x2 → R32 x4 → ∀ (H : Heap) (locs : List Loc) (ls : Array Slot), MS E μ s H locs → lv_has ls 5 [(0, vr E x0), (1, vi x1), (2, vl x2), (4, vi x4)] → W p l e ({ frames := 2, cells := 0, slots := 0, locals := 41 } : Room) s m args below meth c H locs 0 0 (MQ below (gQ E (some (vi r)) (R32 r) μ') args s 0 0 (gA E)) (F0 m 78 ls []) := by
  intro n
  induction n with
  | zero => intro x0 x1 x2 x4 μ h; simp [f_X8_nextDeadline_b78] at h
  | succ n ih =>
    intro x0 x1 x2 x4 μ h rx1 rx2 rx4 H locs ls hM hl
    rw [f_X8_nextDeadline_b78] at h
    refine m_iload (pc := 78) C dX8_nextDeadline_78 (lv_at hl 3 rfl) ?_
    refine m_i2l (pc := 80) C rx4 dX8_nextDeadline_80 ?_
    refine m_aload_n (pc := 81) C dX8_nextDeadline_81 rfl (lv_at hl 0 rfl) ?_
    obtain ⟨q1, h⟩ := ck_some h
    refine G_X8_now (pc := 82) C hM bw_4_227 q1 dX8_nextDeadline_82 ?_
    refine m_iconst (pc := 85) C dX8_nextDeadline_85 ?_
    obtain ⟨q2, h⟩ := ck_some h
    have gq2 := Ar_lald hM q2.1 q2.2.1 q2.2.2
    refine m_lald (pc := 86) C hM q2.1 q2.2.1 q2.2.2 dX8_nextDeadline_86 ?_
    refine m_lcmp_ge (tgt := 146) (pc := 87) C (R32.to64 rx4) gq2 dX8_nextDeadline_87 dX8_nextDeadline_88 (by decide) (fun c3 => ?_) (fun c3 => ?_)
    · have h := if_t h c3
      refine m_iload_n (pc := 146) C dX8_nextDeadline_146 rfl (lv_at hl 1 rfl) ?_
      cases h
      exact m_iret (pc := 147) C hM rx1 dX8_nextDeadline_147
    · have h := if_f h c3
      refine m_aload_n (pc := 91) C dX8_nextDeadline_91 rfl (lv_at hl 0 rfl) ?_
      refine m_iload (pc := 92) C dX8_nextDeadline_92 (lv_at hl 3 rfl) ?_
      obtain ⟨q4, h⟩ := ck_some h
      obtain ⟨a5, μ6, ca5, h⟩ := bd_some h
      refine V_X8_waits (pc := 94) C hM ca5 rx4 q4 bw_5_110 ⟨Nat.le_of_ble_eq_true rfl, Nat.le_of_ble_eq_true rfl⟩ hl.1 rc0 ⟨Nat.le_refl _, Nat.le_refl _⟩ dX8_nextDeadline_94 (fun ra5 H locs hM => ?_)
      refine m_if_eq (tgt := 140) (pc := 97) C ra5 dX8_nextDeadline_97 (by decide) (fun c7 => ?_) (fun c7 => ?_)
      · have h := if_t h c7
        obtain ⟨a8, ea8, h⟩ := nm_some h
        have ra8 : R32 a8 := by rw [ea8]; exact w32_R _
        refine m_iinc (k := 3) (pc := 140) C dX8_nextDeadline_140 hl rfl (by decide) ea8 (lvK1 0 rfl (Nat.ne_of_beq_eq_false rfl) (Nat.ne_of_beq_eq_false rfl) (lvK1 1 rfl (Nat.ne_of_beq_eq_false rfl) (Nat.ne_of_beq_eq_false rfl) (lvK1 2 rfl (Nat.ne_of_beq_eq_false rfl) (Nat.ne_of_beq_eq_false rfl) lvK0))) (fun ls hl => ?_)
        refine m_goto (tgt := 78) (pc := 143) C dX8_nextDeadline_143 (by decide) ?_
        exact ih _ _ _ _ _ h rx1 rx2 ra8 _ _ _ hM (lv_sub hl [1, 2, 3, 0] rfl)
      · have h := if_f h c7
        refine m_iload_n (pc := 100) C dX8_nextDeadline_100 rfl (lv_at hl 1 rfl) ?_
        refine m_if_lt (tgt := 121) (pc := 101) C rx1 dX8_nextDeadline_101 (by decide) (fun c9 => ?_) (fun c9 => ?_)
        · have h := if_t h c9
          exact k_X8_nextDeadline_b121 C N _ ih _ _ _ h rx4 _ _ _ hM (lv_sub hl [0, 3] rfl)
        · have h := if_f h c9
          refine m_aload_n (pc := 104) C dX8_nextDeadline_104 rfl (lv_at hl 0 rfl) ?_
          obtain ⟨q10, h⟩ := ck_some h
          refine G_X8_now (pc := 105) C hM bw_4_227 q10 dX8_nextDeadline_105 ?_
          refine m_iload (pc := 108) C dX8_nextDeadline_108 (lv_at hl 3 rfl) ?_
          obtain ⟨a11, μ12, ca11, h⟩ := bd_some h
          refine V_X8_exportAt (pc := 110) C hM ca11 rx4 bw_5_114 ⟨Nat.le_of_ble_eq_true rfl, Nat.le_of_ble_eq_true rfl⟩ hl.1 (rcR rc0) ⟨Nat.le_refl _, Nat.le_refl _⟩ dX8_nextDeadline_110 (fun ra11 H locs hM => ?_)
          refine m_iconst (pc := 113) C dX8_nextDeadline_113 ?_
          obtain ⟨a13, ea13, h⟩ := nm_some h
          have ra13 : R32 a13 := by rw [ea13]; exact w32_R _
          refine m_iadd (pc := 114) C dX8_nextDeadline_114 ea13 ?_
          obtain ⟨q14, h⟩ := ck_some h
          have gq14 := Ar_lald hM q14.1 q14.2.1 q14.2.2
          refine m_lald (pc := 115) C hM q14.1 q14.2.1 q14.2.2 dX8_nextDeadline_115 ?_
          refine m_lload_n (pc := 116) C dX8_nextDeadline_116 rfl (lv_at hl 2 rfl) ?_
          refine m_lcmp_ge (tgt := 140) (pc := 117) C gq14 rx2 dX8_nextDeadline_117 dX8_nextDeadline_118 (by decide) (fun c15 => ?_) (fun c15 => ?_)
          · have h := if_t h c15
            obtain ⟨a16, ea16, h⟩ := nm_some h
            have ra16 : R32 a16 := by rw [ea16]; exact w32_R _
            refine m_iinc (k := 3) (pc := 140) C dX8_nextDeadline_140 hl rfl (by decide) ea16 (lvK1 0 rfl (Nat.ne_of_beq_eq_false rfl) (Nat.ne_of_beq_eq_false rfl) (lvK1 1 rfl (Nat.ne_of_beq_eq_false rfl) (Nat.ne_of_beq_eq_false rfl) (lvK1 2 rfl (Nat.ne_of_beq_eq_false rfl) (Nat.ne_of_beq_eq_false rfl) lvK0))) (fun ls hl => ?_)
            refine m_goto (tgt := 78) (pc := 143) C dX8_nextDeadline_143 (by decide) ?_
            exact ih _ _ _ _ _ h rx1 rx2 ra16 _ _ _ hM (lv_sub hl [1, 2, 3, 0] rfl)
          · have h := if_f h c15
            exact k_X8_nextDeadline_b121 C N _ ih _ _ _ h rx4 _ _ _ hM (lv_sub hl [0, 3] rfl)
set_option maxHeartbeats 4000000 in
set_option maxRecDepth 100000 in
theorem k_X8_nextDeadline_b53 (C : gCx p s m args meth c cX8_nextDeadline 5 (some .int) "nextDeadline" RX8) (N : Nat) {r : Int} {μ' : Mm} (k8 : Int → Int → Int → Int → Mm → Rs) (hk8 : ∀ (x0 x1 x2 x4 : Int) (μ : Mm), k8 x0 x1 x2 x4 μ = some (r, μ') → R32 x1 → R64 x2 → R32 x4 → ∀ (H : Heap) (locs : List Loc) (ls : Array Slot), MS E μ s H locs → lv_has ls 5 [(0, vr E x0), (1, vi x1), (2, vl x2), (4, vi x4)] → W p l e ({ frames := 2, cells := 0, slots := 0, locals := 41 } : Room) s m args below meth c H locs 0 0 (MQ below (gQ E (some (vi r)) (R32 r) μ') args s 0 0 (gA E)) (F0 m 8 ls [])) : ∀ (x0 x4 : Int) (μ : Mm), f_X8_nextDeadline_b53 N k8 x0 x4 μ = some (r, μ') → R32 x4 → ∀ (H : Heap) (locs : List Loc) (ls : Array Slot), MS E μ s H locs → lv_has ls 5 [(0, vr E x0), (4, vi x4)] → W p l e ({ frames := 2, cells := 0, slots := 0, locals := 41 } : Room) s m args below meth c H locs 0 0 (MQ below (gQ E (some (vi r)) (R32 r) μ') args s 0 0 (gA E)) (F0 m 53 ls []) := by
  intro x0 x4 μ h rx4 H locs ls hM hl
  unfold f_X8_nextDeadline_b53 at h
  refine m_iload (pc := 53) C dX8_nextDeadline_53 (lv_at hl 1 rfl) ?_
  refine m_istore_n (pc := 55) C dX8_nextDeadline_55 rfl hl (by decide) (lvK2 0 rfl (Nat.ne_of_beq_eq_false rfl) (vr_cat _ _) (lvK1 1 rfl (Nat.ne_of_beq_eq_false rfl) (Nat.ne_of_beq_eq_false rfl) lvK0)) (fun ls hl => ?_)
  refine m_aload_n (pc := 56) C dX8_nextDeadline_56 rfl (lv_at hl 1 rfl) ?_
  obtain ⟨q1, h⟩ := ck_some h
  refine G_X8_now (pc := 57) C hM bw_4_227 q1 dX8_nextDeadline_57 ?_
  refine m_iload (pc := 60) C dX8_nextDeadline_60 (lv_at hl 2 rfl) ?_
  obtain ⟨a2, μ3, ca2, h⟩ := bd_some h
  refine V_X8_lotAt (pc := 62) C hM ca2 rx4 bw_5_87 ⟨Nat.le_of_ble_eq_true rfl, Nat.le_of_ble_eq_true rfl⟩ hl.1 (rcR rc0) ⟨Nat.le_refl _, Nat.le_refl _⟩ dX8_nextDeadline_62 (fun ra2 H locs hM => ?_)
  refine m_iconst (pc := 65) C dX8_nextDeadline_65 ?_
  obtain ⟨a4, ea4, h⟩ := nm_some h
  have ra4 : R32 a4 := by rw [ea4]; exact w32_R _
  refine m_iadd (pc := 66) C dX8_nextDeadline_66 ea4 ?_
  obtain ⟨q5, h⟩ := ck_some h
  have gq5 := Ar_lald hM q5.1 q5.2.1 q5.2.2
  refine m_lald (pc := 67) C hM q5.1 q5.2.1 q5.2.2 dX8_nextDeadline_67 ?_
  refine m_lstore_n (pc := 68) C dX8_nextDeadline_68 rfl hl (by decide) (lvK2 0 rfl (Nat.ne_of_beq_eq_false rfl) rfl (lvK1 1 rfl (Nat.ne_of_beq_eq_false rfl) (Nat.ne_of_beq_eq_false rfl) (lvK1 2 rfl (Nat.ne_of_beq_eq_false rfl) (Nat.ne_of_beq_eq_false rfl) lvK0))) (lvN1 (Nat.ne_of_beq_eq_false rfl) (lvN1 (Nat.ne_of_beq_eq_false rfl) (lvN1 (Nat.ne_of_beq_eq_false rfl) lvN0))) (fun ls hl => ?_)
  obtain ⟨a6, ea6, h⟩ := nm_some h
  have ra6 : R32 a6 := by rw [ea6]; exact w32_R _
  refine m_iinc (k := 3) (pc := 69) C dX8_nextDeadline_69 hl rfl (by decide) ea6 (lvK1 0 rfl (Nat.ne_of_beq_eq_false rfl) (Nat.ne_of_beq_eq_false rfl) (lvK1 1 rfl (Nat.ne_of_beq_eq_false rfl) (Nat.ne_of_beq_eq_false rfl) (lvK1 2 rfl (Nat.ne_of_beq_eq_false rfl) (Nat.ne_of_beq_eq_false rfl) lvK0))) (fun ls hl => ?_)
  refine m_goto (tgt := 8) (pc := 72) C dX8_nextDeadline_72 (by decide) ?_
  exact hk8 _ _ _ _ _ h rx4 gq5 ra6 _ _ _ hM (lv_sub hl [3, 2, 1, 0] rfl)
set_option maxHeartbeats 4000000 in
set_option maxRecDepth 100000 in
theorem k_X8_nextDeadline_b8 (C : gCx p s m args meth c cX8_nextDeadline 5 (some .int) "nextDeadline" RX8) (N : Nat) {r : Int} {μ' : Mm} : ∀ (n : Nat), ∀ (x0 x1 x2 x4 : Int) (μ : Mm), f_X8_nextDeadline_b8 N n x0 x1 x2 x4 μ = some (r, μ') → R32 x1 → R64 x2 → R32 x4 → ∀ (H : Heap) (locs : List Loc) (ls : Array Slot), MS E μ s H locs → lv_has ls 5 [(0, vr E x0), (1, vi x1), (2, vl x2), (4, vi x4)] → W p l e ({ frames := 2, cells := 0, slots := 0, locals := 41 } : Room) s m args below meth c H locs 0 0 (MQ below (gQ E (some (vi r)) (R32 r) μ') args s 0 0 (gA E)) (F0 m 8 ls []) := by
  intro n
  induction n with
  | zero => intro x0 x1 x2 x4 μ h; simp [f_X8_nextDeadline_b8] at h
  | succ n ih =>
    intro x0 x1 x2 x4 μ h rx1 rx2 rx4 H locs ls hM hl
    rw [f_X8_nextDeadline_b8] at h
    refine m_iload (pc := 8) C dX8_nextDeadline_8 (lv_at hl 3 rfl) ?_
    refine m_i2l (pc := 10) C rx4 dX8_nextDeadline_10 ?_
    refine m_aload_n (pc := 11) C dX8_nextDeadline_11 rfl (lv_at hl 0 rfl) ?_
    obtain ⟨q1, h⟩ := ck_some h
    refine G_X8_now (pc := 12) C hM bw_4_227 q1 dX8_nextDeadline_12 ?_
    refine m_iconst (pc := 15) C dX8_nextDeadline_15 ?_
    obtain ⟨q2, h⟩ := ck_some h
    have gq2 := Ar_lald hM q2.1 q2.2.1 q2.2.2
    refine m_lald (pc := 16) C hM q2.1 q2.2.1 q2.2.2 dX8_nextDeadline_16 ?_
    refine m_lcmp_ge (tgt := 75) (pc := 17) C (R32.to64 rx4) gq2 dX8_nextDeadline_17 dX8_nextDeadline_18 (by decide) (fun c3 => ?_) (fun c3 => ?_)
    · have h := if_t h c3
      refine m_iconst (pc := 75) C dX8_nextDeadline_75 ?_
      refine m_istore (pc := 76) C dX8_nextDeadline_76 hl (by decide) (lvK1 0 rfl (Nat.ne_of_beq_eq_false rfl) (Nat.ne_of_beq_eq_false rfl) (lvK1 1 rfl (Nat.ne_of_beq_eq_false rfl) (Nat.ne_of_beq_eq_false rfl) (lvK1 2 rfl (Nat.ne_of_beq_eq_false rfl) (Nat.ne_of_beq_eq_false rfl) lvK0))) (fun ls hl => ?_)
      exact k_X8_nextDeadline_b78 C N N _ _ _ _ _ h rx1 rx2 rk_0 _ _ _ hM (lv_sub hl [1, 2, 3, 0] rfl)
    · have h := if_f h c3
      refine m_aload_n (pc := 21) C dX8_nextDeadline_21 rfl (lv_at hl 0 rfl) ?_
      refine m_iload (pc := 22) C dX8_nextDeadline_22 (lv_at hl 3 rfl) ?_
      obtain ⟨q4, h⟩ := ck_some h
      obtain ⟨a5, μ6, ca5, h⟩ := bd_some h
      refine V_X8_units (pc := 24) C hM ca5 rx4 q4 bw_5_94 ⟨Nat.le_of_ble_eq_true rfl, Nat.le_of_ble_eq_true rfl⟩ hl.1 rc0 ⟨Nat.le_refl _, Nat.le_refl _⟩ dX8_nextDeadline_24 (fun ra5 H locs hM => ?_)
      refine m_lconst (v := 0) (pc := 27) C dX8_nextDeadline_27 rfl ?_
      refine m_lcmp_le (tgt := 69) (pc := 28) C ra5 rl_0 dX8_nextDeadline_28 dX8_nextDeadline_29 (by decide) (fun c7 => ?_) (fun c7 => ?_)
      · have h := if_t h c7
        obtain ⟨a8, ea8, h⟩ := nm_some h
        have ra8 : R32 a8 := by rw [ea8]; exact w32_R _
        refine m_iinc (k := 3) (pc := 69) C dX8_nextDeadline_69 hl rfl (by decide) ea8 (lvK1 0 rfl (Nat.ne_of_beq_eq_false rfl) (Nat.ne_of_beq_eq_false rfl) (lvK1 1 rfl (Nat.ne_of_beq_eq_false rfl) (Nat.ne_of_beq_eq_false rfl) (lvK1 2 rfl (Nat.ne_of_beq_eq_false rfl) (Nat.ne_of_beq_eq_false rfl) lvK0))) (fun ls hl => ?_)
        refine m_goto (tgt := 8) (pc := 72) C dX8_nextDeadline_72 (by decide) ?_
        exact ih _ _ _ _ _ h rx1 rx2 ra8 _ _ _ hM (lv_sub hl [1, 2, 3, 0] rfl)
      · have h := if_f h c7
        refine m_iload_n (pc := 32) C dX8_nextDeadline_32 rfl (lv_at hl 1 rfl) ?_
        refine m_if_lt (tgt := 53) (pc := 33) C rx1 dX8_nextDeadline_33 (by decide) (fun c9 => ?_) (fun c9 => ?_)
        · have h := if_t h c9
          exact k_X8_nextDeadline_b53 C N _ ih _ _ _ h rx4 _ _ _ hM (lv_sub hl [0, 3] rfl)
        · have h := if_f h c9
          refine m_aload_n (pc := 36) C dX8_nextDeadline_36 rfl (lv_at hl 0 rfl) ?_
          obtain ⟨q10, h⟩ := ck_some h
          refine G_X8_now (pc := 37) C hM bw_4_227 q10 dX8_nextDeadline_37 ?_
          refine m_iload (pc := 40) C dX8_nextDeadline_40 (lv_at hl 3 rfl) ?_
          obtain ⟨a11, μ12, ca11, h⟩ := bd_some h
          refine V_X8_lotAt (pc := 42) C hM ca11 rx4 bw_5_87 ⟨Nat.le_of_ble_eq_true rfl, Nat.le_of_ble_eq_true rfl⟩ hl.1 (rcR rc0) ⟨Nat.le_refl _, Nat.le_refl _⟩ dX8_nextDeadline_42 (fun ra11 H locs hM => ?_)
          refine m_iconst (pc := 45) C dX8_nextDeadline_45 ?_
          obtain ⟨a13, ea13, h⟩ := nm_some h
          have ra13 : R32 a13 := by rw [ea13]; exact w32_R _
          refine m_iadd (pc := 46) C dX8_nextDeadline_46 ea13 ?_
          obtain ⟨q14, h⟩ := ck_some h
          have gq14 := Ar_lald hM q14.1 q14.2.1 q14.2.2
          refine m_lald (pc := 47) C hM q14.1 q14.2.1 q14.2.2 dX8_nextDeadline_47 ?_
          refine m_lload_n (pc := 48) C dX8_nextDeadline_48 rfl (lv_at hl 2 rfl) ?_
          refine m_lcmp_ge (tgt := 69) (pc := 49) C gq14 rx2 dX8_nextDeadline_49 dX8_nextDeadline_50 (by decide) (fun c15 => ?_) (fun c15 => ?_)
          · have h := if_t h c15
            obtain ⟨a16, ea16, h⟩ := nm_some h
            have ra16 : R32 a16 := by rw [ea16]; exact w32_R _
            refine m_iinc (k := 3) (pc := 69) C dX8_nextDeadline_69 hl rfl (by decide) ea16 (lvK1 0 rfl (Nat.ne_of_beq_eq_false rfl) (Nat.ne_of_beq_eq_false rfl) (lvK1 1 rfl (Nat.ne_of_beq_eq_false rfl) (Nat.ne_of_beq_eq_false rfl) (lvK1 2 rfl (Nat.ne_of_beq_eq_false rfl) (Nat.ne_of_beq_eq_false rfl) lvK0))) (fun ls hl => ?_)
            refine m_goto (tgt := 8) (pc := 72) C dX8_nextDeadline_72 (by decide) ?_
            exact ih _ _ _ _ _ h rx1 rx2 ra16 _ _ _ hM (lv_sub hl [1, 2, 3, 0] rfl)
          · have h := if_f h c15
            exact k_X8_nextDeadline_b53 C N _ ih _ _ _ h rx4 _ _ _ hM (lv_sub hl [0, 3] rfl)
set_option maxHeartbeats 4000000 in
set_option maxRecDepth 100000 in
theorem c_X8_nextDeadline (l : Launch) (E : gE) (N : Nat) (x0 : Int) (μ μ' : Mm) (r : Int) (h : f_X8_nextDeadline N x0 μ = some (r, μ')) : gMet l E yX8_nextDeadline cX8_nextDeadline 5 (some .int) 2 41 [vr E x0] (some (vi r)) (R32 r) μ μ' 0 0 := by
  refine g_ofW [1] (by first | (simp only [List.map_cons, List.map_nil, vr_cat]; done) | (simp only [List.map_cons, List.map_nil, vr_cat]; rfl)) (by decide) (by decide) (fun p e s m below meth c ls C hM hl => ?_)
  replace C : gCx p s m _ meth c cX8_nextDeadline 5 (some .int) "nextDeadline" RX8 := C
  replace hl : lv_has ls 5 [(0, vr E x0)] := hl
  unfold f_X8_nextDeadline at h
  refine m_ldc (n := -100000005) (pc := 0) C bw_5_38 rfl dX8_nextDeadline_0 ?_
  refine m_istore_n (pc := 2) C dX8_nextDeadline_2 rfl hl (by decide) (lvK2 0 rfl (Nat.ne_of_beq_eq_false rfl) (vr_cat _ _) lvK0) (fun ls hl => ?_)
  refine m_lconst (v := 0) (pc := 3) C dX8_nextDeadline_3 rfl ?_
  refine m_lstore_n (pc := 4) C dX8_nextDeadline_4 rfl hl (by decide) (lvK2 0 rfl (Nat.ne_of_beq_eq_false rfl) rfl (lvK1 1 rfl (Nat.ne_of_beq_eq_false rfl) (Nat.ne_of_beq_eq_false rfl) lvK0)) (lvN1 (Nat.ne_of_beq_eq_false rfl) (lvN1 (Nat.ne_of_beq_eq_false rfl) lvN0)) (fun ls hl => ?_)
  refine m_iconst (pc := 5) C dX8_nextDeadline_5 ?_
  refine m_istore (pc := 6) C dX8_nextDeadline_6 hl (by decide) (lvK1 0 rfl (Nat.ne_of_beq_eq_false rfl) (Nat.ne_of_beq_eq_false rfl) (lvK1 1 rfl (Nat.ne_of_beq_eq_false rfl) (Nat.ne_of_beq_eq_false rfl) (lvK1 2 rfl (Nat.ne_of_beq_eq_false rfl) (Nat.ne_of_beq_eq_false rfl) lvK0))) (fun ls hl => ?_)
  exact k_X8_nextDeadline_b8 C N N _ _ _ _ _ h rk_m100000005 rl_0 rk_0 _ _ _ hM (lv_sub hl [3, 2, 1, 0] rfl)
theorem hd_X8_nextDeadline : yX8_nextDeadline.cls ≠ "java/lang/invoke/MethodHandle" ∧ yX8_nextDeadline.cls ≠ "java/lang/invoke/VarHandle" ∧ (parseMethodDescriptor yX8_nextDeadline.desc).map (fun d => d.parameters.length) = some 0 := by decide +kernel

theorem V_X8_nextDeadline {p : Program} {l : Launch} {e : Env} {R : Room} {s : State} {m : MethodId} {args : Array Value} {below : List Frame} {meth : Method} {c : Code} {H : Heap} {locs : List Loc} {cells slots : Nat} {Q : State → Prop} {cc : ByteArray} {pc nL : Nat} {ls : Array Slot} {rest : List Value} {ret : Option FieldType} {nmm own : String} {E : gE} {μ μ1 : Mm} {index : Nat} (C : gCx p s m args meth c cc nL ret nmm own) (hM : MS E μ s H locs) {N : Nat} {x0 v : Int} (hc : f_X8_nextDeadline N x0 μ = some (v, μ1)) (hck : μ x0 (-2) = 10) (h1 : Cond.methodLink own index yX8_nextDeadline ∈ bigL) (hR : 3 ≤ R.frames ∧ 65 ≤ R.locals) (hl : ls.size = nL) (hcat : RC rest 8) (hf : cells + 0 ≤ R.cells ∧ slots + 0 ≤ R.slots) (hdg : decode cc pc = .ok (.invokevirtual index, 3)) (kk : (R32 v) → ∀ (H1 : Heap) (locs1 : List Loc), MS E μ1 s H1 locs1 → W p l e R s m args below meth c H1 locs1 (cells + 0) (slots + 0) Q (F0 m (pc + 3) ls (vi v :: rest))) : W p l e R s m args below meth c H locs cells slots Q (F0 m pc ls (vr E x0 :: rest)) := g_callV C KF_X8 hM (c_X8_nextDeadline l E N x0 μ μ1 v hc) hck (gV h1 bw_6_134 bw_6_135 bw_1_13 bw_6_136) ⟨rfl, hd_X8_nextDeadline⟩ hR rfl hl rfl hcat hf hdg kk
/-! X8_calledIn -/
def f_X8_calledIn_b100 (N : Nat) : Nat → Int → Int → Int → Int → Mm → Rs
  | 0, _, _, _, _, _ => none
  | n + 1, x0, x2, x4, x6, μ =>
    ck (μ x0 (-2) = 10) <|
    ck (μ (μ x0 0) (-2) = 24 ∧ (0 : Int) ≤ 2 ∧ 2 < μ (μ x0 0) (-1)) <|
    if (μ (μ x0 0) 2) ≤ x6 then
      (nm (w32 x4) fun a4 =>
       some (a4, μ))
    else
    ck (μ x0 (-2) = 10) <|
    bd (f_X8_lotAt N x6 μ) fun a6 μ7 =>
    nm (w32 (a6 + 5)) fun a8 =>
    ck (μ7 (μ x0 0) (-2) = 24 ∧ (0 : Int) ≤ a8 ∧ a8 < μ7 (μ x0 0) (-1)) <|
    if x2 ≤ (μ7 (μ x0 0) a8) then
      (nm (w64 (x4 + 0)) fun a11 =>
       nm (w32 (x6 + 1)) fun a12 =>
       f_X8_calledIn_b100 N n x0 x2 a11 a12 μ7)
    else
    ck (μ7 x0 (-2) = 10) <|
    bd (f_X8_units N x0 x6 μ7) fun a14 μ15 =>
    ck (μ15 x0 (-2) = 10) <|
    bd (f_X8_dutyNow N x0 x6 a14 μ15) fun a17 μ18 =>
    nm (w64 (x4 + a17)) fun a19 =>
    nm (w32 (x6 + 1)) fun a20 =>
    f_X8_calledIn_b100 N n x0 x2 a19 a20 μ18
def f_X8_calledIn_b31 (N : Nat) : Nat → Int → Int → Int → Int → Mm → Rs
  | 0, _, _, _, _, _ => none
  | n + 1, x0, x2, x4, x6, μ =>
    ck (μ x0 (-2) = 10) <|
    ck (μ (μ x0 0) (-2) = 24 ∧ (0 : Int) ≤ 3 ∧ 3 < μ (μ x0 0) (-1)) <|
    if (μ (μ x0 0) 3) ≤ x6 then
      (f_X8_calledIn_b100 N N x0 x2 x4 0 μ)
    else
    ck (μ x0 (-2) = 10) <|
    bd (f_X8_waits N x0 x6 μ) fun a5 μ6 =>
    if a5 = 0 then
      (nm (w64 (x4 + 0)) fun a8 =>
       nm (w32 (x6 + 1)) fun a9 =>
       f_X8_calledIn_b31 N n x0 x2 a8 a9 μ6)
    else
    ck (μ6 x0 (-2) = 10) <|
    bd (f_X8_exportAt N x6 μ6) fun a11 μ12 =>
    nm (w32 (a11 + 3)) fun a13 =>
    ck (μ12 (μ6 x0 0) (-2) = 24 ∧ (0 : Int) ≤ a13 ∧ a13 < μ12 (μ6 x0 0) (-1)) <|
    if x2 ≤ (μ12 (μ6 x0 0) a13) then
      (nm (w64 (x4 + 0)) fun a16 =>
       nm (w32 (x6 + 1)) fun a17 =>
       f_X8_calledIn_b31 N n x0 x2 a16 a17 μ12)
    else
    ck (μ12 x0 (-2) = 10) <|
    bd (f_X8_exportAt N x6 μ12) fun a19 μ20 =>
    nm (w32 (a19 + 2)) fun a21 =>
    ck (μ20 (μ12 x0 0) (-2) = 24 ∧ (0 : Int) ≤ a21 ∧ a21 < μ20 (μ12 x0 0) (-1)) <|
    nm (w64 (x4 + (μ20 (μ12 x0 0) a21))) fun a23 =>
    nm (w32 (x6 + 1)) fun a24 =>
    f_X8_calledIn_b31 N n x0 x2 a23 a24 μ20
def f_X8_calledIn (N : Nat) (x0 x1 : Int) (μ : Mm) : Rs :=
  bd (f_X8_in N x1 1 100 μ) fun a1 μ2 =>
  if ¬ a1 = 0 then
    (ck (μ2 x0 (-2) = 10) <|
     ck (μ2 (μ2 x0 0) (-2) = 24 ∧ (0 : Int) ≤ 0 ∧ 0 < μ2 (μ2 x0 0) (-1)) <|
     nm (w64 ((μ2 (μ2 x0 0) 0) + x1)) fun a6 =>
     f_X8_calledIn_b31 N N x0 a6 0 0 μ2)
  else
  some ((-100000002), μ2)
set_option maxHeartbeats 4000000 in
set_option maxRecDepth 100000 in
theorem k_X8_calledIn_b100 (C : gCx p s m args meth c cX8_calledIn 7 (some .int) "calledIn" RX8) (N : Nat) {r : Int} {μ' : Mm} : ∀ (n : Nat), ∀ (x0 x2 x4 x6 : Int) (μ : Mm), f_X8_calledIn_b100 N n x0 x2 x4 x6 μ = some (r, μ') → R64 x2 → R64 x4 → R32 x6 → ∀ (H : Heap) (locs : List Loc) (ls : Array Slot), MS E μ s H locs → lv_has ls 7 [(0, vr E x0), (2, vl x2), (4, vl x4), (6, vi x6)] → W p l e ({ frames := 3, cells := 0, slots := 0, locals := 72 } : Room) s m args below meth c H locs 0 0 (MQ below (gQ E (some (vi r)) (R32 r) μ') args s 0 0 (gA E)) (F0 m 100 ls []) := by
  intro n
  induction n with
  | zero => intro x0 x2 x4 x6 μ h; simp [f_X8_calledIn_b100] at h
  | succ n ih =>
    intro x0 x2 x4 x6 μ h rx2 rx4 rx6 H locs ls hM hl
    rw [f_X8_calledIn_b100] at h
    refine m_iload (pc := 100) C dX8_calledIn_100 (lv_at hl 3 rfl) ?_
    refine m_i2l (pc := 102) C rx6 dX8_calledIn_102 ?_
    refine m_aload_n (pc := 103) C dX8_calledIn_103 rfl (lv_at hl 0 rfl) ?_
    obtain ⟨q1, h⟩ := ck_some h
    refine G_X8_now (pc := 104) C hM bw_4_227 q1 dX8_calledIn_104 ?_
    refine m_iconst (pc := 107) C dX8_calledIn_107 ?_
    obtain ⟨q2, h⟩ := ck_some h
    have gq2 := Ar_lald hM q2.1 q2.2.1 q2.2.2
    refine m_lald (pc := 108) C hM q2.1 q2.2.1 q2.2.2 dX8_calledIn_108 ?_
    refine m_lcmp_ge (tgt := 157) (pc := 109) C (R32.to64 rx6) gq2 dX8_calledIn_109 dX8_calledIn_110 (by decide) (fun c3 => ?_) (fun c3 => ?_)
    · have h := if_t h c3
      refine m_lload (pc := 157) C dX8_calledIn_157 (lv_at hl 2 rfl) ?_
      obtain ⟨a4, ea4, h⟩ := nm_some h
      have ra4 : R32 a4 := by rw [ea4]; exact w32_R _
      refine m_l2i (pc := 159) C dX8_calledIn_159 ea4 ?_
      cases h
      exact m_iret (pc := 160) C hM ra4 dX8_calledIn_160
    · have h := if_f h c3
      refine m_lload (pc := 113) C dX8_calledIn_113 (lv_at hl 2 rfl) ?_
      refine m_aload_n (pc := 115) C dX8_calledIn_115 rfl (lv_at hl 0 rfl) ?_
      obtain ⟨q5, h⟩ := ck_some h
      refine G_X8_now (pc := 116) C hM bw_4_227 q5 dX8_calledIn_116 ?_
      refine m_iload (pc := 119) C dX8_calledIn_119 (lv_at hl 3 rfl) ?_
      obtain ⟨a6, μ7, ca6, h⟩ := bd_some h
      refine V_X8_lotAt (pc := 121) C hM ca6 rx6 bw_5_87 ⟨Nat.le_of_ble_eq_true rfl, Nat.le_of_ble_eq_true rfl⟩ hl.1 (rcR (rcL rc0)) ⟨Nat.le_refl _, Nat.le_refl _⟩ dX8_calledIn_121 (fun ra6 H locs hM => ?_)
      refine m_iconst (pc := 124) C dX8_calledIn_124 ?_
      obtain ⟨a8, ea8, h⟩ := nm_some h
      have ra8 : R32 a8 := by rw [ea8]; exact w32_R _
      refine m_iadd (pc := 125) C dX8_calledIn_125 ea8 ?_
      obtain ⟨q9, h⟩ := ck_some h
      have gq9 := Ar_lald hM q9.1 q9.2.1 q9.2.2
      refine m_lald (pc := 126) C hM q9.1 q9.2.1 q9.2.2 dX8_calledIn_126 ?_
      refine m_lload_n (pc := 127) C dX8_calledIn_127 rfl (lv_at hl 1 rfl) ?_
      refine m_lcmp_ge (tgt := 147) (pc := 128) C gq9 rx2 dX8_calledIn_128 dX8_calledIn_129 (by decide) (fun c10 => ?_) (fun c10 => ?_)
      · have h := if_t h c10
        refine m_lconst (v := 0) (pc := 147) C dX8_calledIn_147 rfl ?_
        obtain ⟨a11, ea11, h⟩ := nm_some h
        have ra11 : R64 a11 := by rw [ea11]; exact w64_R _
        refine m_ladd (pc := 148) C dX8_calledIn_148 ea11 ?_
        refine m_lstore (pc := 149) C dX8_calledIn_149 hl (by decide) (lvK1 0 rfl (Nat.ne_of_beq_eq_false rfl) (Nat.ne_of_beq_eq_false rfl) (lvK1 1 rfl (Nat.ne_of_beq_eq_false rfl) (Nat.ne_of_beq_eq_false rfl) (lvK1 3 rfl (Nat.ne_of_beq_eq_false rfl) (Nat.ne_of_beq_eq_false rfl) lvK0))) (lvN1 (Nat.ne_of_beq_eq_false rfl) (lvN1 (Nat.ne_of_beq_eq_false rfl) (lvN1 (Nat.ne_of_beq_eq_false rfl) lvN0))) (fun ls hl => ?_)
        obtain ⟨a12, ea12, h⟩ := nm_some h
        have ra12 : R32 a12 := by rw [ea12]; exact w32_R _
        refine m_iinc (k := 3) (pc := 151) C dX8_calledIn_151 hl rfl (by decide) ea12 (lvK1 0 rfl (Nat.ne_of_beq_eq_false rfl) (Nat.ne_of_beq_eq_false rfl) (lvK1 1 rfl (Nat.ne_of_beq_eq_false rfl) (Nat.ne_of_beq_eq_false rfl) (lvK1 2 rfl (Nat.ne_of_beq_eq_false rfl) (Nat.ne_of_beq_eq_false rfl) lvK0))) (fun ls hl => ?_)
        refine m_goto (tgt := 100) (pc := 154) C dX8_calledIn_154 (by decide) ?_
        exact ih _ _ _ _ _ h rx2 ra11 ra12 _ _ _ hM (lv_sub hl [2, 3, 1, 0] rfl)
      · have h := if_f h c10
        refine m_aload_n (pc := 132) C dX8_calledIn_132 rfl (lv_at hl 0 rfl) ?_
        refine m_iload (pc := 133) C dX8_calledIn_133 (lv_at hl 3 rfl) ?_
        refine m_aload_n (pc := 135) C dX8_calledIn_135 rfl (lv_at hl 0 rfl) ?_
        refine m_iload (pc := 136) C dX8_calledIn_136 (lv_at hl 3 rfl) ?_
        obtain ⟨q13, h⟩ := ck_some h
        obtain ⟨a14, μ15, ca14, h⟩ := bd_some h
        refine V_X8_units (pc := 138) C hM ca14 rx6 q13 bw_5_94 ⟨Nat.le_of_ble_eq_true rfl, Nat.le_of_ble_eq_true rfl⟩ hl.1 (rcI (rcR (rcL rc0))) ⟨Nat.le_refl _, Nat.le_refl _⟩ dX8_calledIn_138 (fun ra14 H locs hM => ?_)
        obtain ⟨q16, h⟩ := ck_some h
        obtain ⟨a17, μ18, ca17, h⟩ := bd_some h
        refine V_X8_dutyNow (pc := 141) C hM ca17 rx6 ra14 q16 bw_5_98 ⟨Nat.le_of_ble_eq_true rfl, Nat.le_of_ble_eq_true rfl⟩ hl.1 (rcL rc0) ⟨Nat.le_refl _, Nat.le_refl _⟩ dX8_calledIn_141 (fun ra17 H locs hM => ?_)
        refine m_goto (tgt := 148) (pc := 144) C dX8_calledIn_144 (by decide) ?_
        obtain ⟨a19, ea19, h⟩ := nm_some h
        have ra19 : R64 a19 := by rw [ea19]; exact w64_R _
        refine m_ladd (pc := 148) C dX8_calledIn_148 ea19 ?_
        refine m_lstore (pc := 149) C dX8_calledIn_149 hl (by decide) (lvK1 0 rfl (Nat.ne_of_beq_eq_false rfl) (Nat.ne_of_beq_eq_false rfl) (lvK1 1 rfl (Nat.ne_of_beq_eq_false rfl) (Nat.ne_of_beq_eq_false rfl) (lvK1 3 rfl (Nat.ne_of_beq_eq_false rfl) (Nat.ne_of_beq_eq_false rfl) lvK0))) (lvN1 (Nat.ne_of_beq_eq_false rfl) (lvN1 (Nat.ne_of_beq_eq_false rfl) (lvN1 (Nat.ne_of_beq_eq_false rfl) lvN0))) (fun ls hl => ?_)
        obtain ⟨a20, ea20, h⟩ := nm_some h
        have ra20 : R32 a20 := by rw [ea20]; exact w32_R _
        refine m_iinc (k := 3) (pc := 151) C dX8_calledIn_151 hl rfl (by decide) ea20 (lvK1 0 rfl (Nat.ne_of_beq_eq_false rfl) (Nat.ne_of_beq_eq_false rfl) (lvK1 1 rfl (Nat.ne_of_beq_eq_false rfl) (Nat.ne_of_beq_eq_false rfl) (lvK1 2 rfl (Nat.ne_of_beq_eq_false rfl) (Nat.ne_of_beq_eq_false rfl) lvK0))) (fun ls hl => ?_)
        refine m_goto (tgt := 100) (pc := 154) C dX8_calledIn_154 (by decide) ?_
        exact ih _ _ _ _ _ h rx2 ra19 ra20 _ _ _ hM (lv_sub hl [2, 3, 1, 0] rfl)
set_option maxHeartbeats 4000000 in
set_option maxRecDepth 100000 in
theorem k_X8_calledIn_b31 (C : gCx p s m args meth c cX8_calledIn 7 (some .int) "calledIn" RX8) (N : Nat) {r : Int} {μ' : Mm} : ∀ (n : Nat), ∀ (x0 x2 x4 x6 : Int) (μ : Mm), f_X8_calledIn_b31 N n x0 x2 x4 x6 μ = some (r, μ') → R64 x2 → R64 x4 → R32 x6 → ∀ (H : Heap) (locs : List Loc) (ls : Array Slot), MS E μ s H locs → lv_has ls 7 [(0, vr E x0), (2, vl x2), (4, vl x4), (6, vi x6)] → W p l e ({ frames := 3, cells := 0, slots := 0, locals := 72 } : Room) s m args below meth c H locs 0 0 (MQ below (gQ E (some (vi r)) (R32 r) μ') args s 0 0 (gA E)) (F0 m 31 ls []) := by
  intro n
  induction n with
  | zero => intro x0 x2 x4 x6 μ h; simp [f_X8_calledIn_b31] at h
  | succ n ih =>
    intro x0 x2 x4 x6 μ h rx2 rx4 rx6 H locs ls hM hl
    rw [f_X8_calledIn_b31] at h
    refine m_iload (pc := 31) C dX8_calledIn_31 (lv_at hl 3 rfl) ?_
    refine m_i2l (pc := 33) C rx6 dX8_calledIn_33 ?_
    refine m_aload_n (pc := 34) C dX8_calledIn_34 rfl (lv_at hl 0 rfl) ?_
    obtain ⟨q1, h⟩ := ck_some h
    refine G_X8_now (pc := 35) C hM bw_4_227 q1 dX8_calledIn_35 ?_
    refine m_iconst (pc := 38) C dX8_calledIn_38 ?_
    obtain ⟨q2, h⟩ := ck_some h
    have gq2 := Ar_lald hM q2.1 q2.2.1 q2.2.2
    refine m_lald (pc := 39) C hM q2.1 q2.2.1 q2.2.2 dX8_calledIn_39 ?_
    refine m_lcmp_ge (tgt := 97) (pc := 40) C (R32.to64 rx6) gq2 dX8_calledIn_40 dX8_calledIn_41 (by decide) (fun c3 => ?_) (fun c3 => ?_)
    · have h := if_t h c3
      refine m_iconst (pc := 97) C dX8_calledIn_97 ?_
      refine m_istore (pc := 98) C dX8_calledIn_98 hl (by decide) (lvK1 0 rfl (Nat.ne_of_beq_eq_false rfl) (Nat.ne_of_beq_eq_false rfl) (lvK1 1 rfl (Nat.ne_of_beq_eq_false rfl) (Nat.ne_of_beq_eq_false rfl) (lvK1 2 rfl (Nat.ne_of_beq_eq_false rfl) (Nat.ne_of_beq_eq_false rfl) lvK0))) (fun ls hl => ?_)
      exact k_X8_calledIn_b100 C N N _ _ _ _ _ h rx2 rx4 rk_0 _ _ _ hM (lv_sub hl [1, 2, 3, 0] rfl)
    · have h := if_f h c3
      refine m_lload (pc := 44) C dX8_calledIn_44 (lv_at hl 2 rfl) ?_
      refine m_aload_n (pc := 46) C dX8_calledIn_46 rfl (lv_at hl 0 rfl) ?_
      refine m_iload (pc := 47) C dX8_calledIn_47 (lv_at hl 3 rfl) ?_
      obtain ⟨q4, h⟩ := ck_some h
      obtain ⟨a5, μ6, ca5, h⟩ := bd_some h
      refine V_X8_waits (pc := 49) C hM ca5 rx6 q4 bw_5_110 ⟨Nat.le_of_ble_eq_true rfl, Nat.le_of_ble_eq_true rfl⟩ hl.1 (rcL rc0) ⟨Nat.le_refl _, Nat.le_refl _⟩ dX8_calledIn_49 (fun ra5 H locs hM => ?_)
      refine m_if_eq (tgt := 87) (pc := 52) C ra5 dX8_calledIn_52 (by decide) (fun c7 => ?_) (fun c7 => ?_)
      · have h := if_t h c7
        refine m_lconst (v := 0) (pc := 87) C dX8_calledIn_87 rfl ?_
        obtain ⟨a8, ea8, h⟩ := nm_some h
        have ra8 : R64 a8 := by rw [ea8]; exact w64_R _
        refine m_ladd (pc := 88) C dX8_calledIn_88 ea8 ?_
        refine m_lstore (pc := 89) C dX8_calledIn_89 hl (by decide) (lvK1 0 rfl (Nat.ne_of_beq_eq_false rfl) (Nat.ne_of_beq_eq_false rfl) (lvK1 1 rfl (Nat.ne_of_beq_eq_false rfl) (Nat.ne_of_beq_eq_false rfl) (lvK1 3 rfl (Nat.ne_of_beq_eq_false rfl) (Nat.ne_of_beq_eq_false rfl) lvK0))) (lvN1 (Nat.ne_of_beq_eq_false rfl) (lvN1 (Nat.ne_of_beq_eq_false rfl) (lvN1 (Nat.ne_of_beq_eq_false rfl) lvN0))) (fun ls hl => ?_)
        obtain ⟨a9, ea9, h⟩ := nm_some h
        have ra9 : R32 a9 := by rw [ea9]; exact w32_R _
        refine m_iinc (k := 3) (pc := 91) C dX8_calledIn_91 hl rfl (by decide) ea9 (lvK1 0 rfl (Nat.ne_of_beq_eq_false rfl) (Nat.ne_of_beq_eq_false rfl) (lvK1 1 rfl (Nat.ne_of_beq_eq_false rfl) (Nat.ne_of_beq_eq_false rfl) (lvK1 2 rfl (Nat.ne_of_beq_eq_false rfl) (Nat.ne_of_beq_eq_false rfl) lvK0))) (fun ls hl => ?_)
        refine m_goto (tgt := 31) (pc := 94) C dX8_calledIn_94 (by decide) ?_
        exact ih _ _ _ _ _ h rx2 ra8 ra9 _ _ _ hM (lv_sub hl [2, 3, 1, 0] rfl)
      · have h := if_f h c7
        refine m_aload_n (pc := 55) C dX8_calledIn_55 rfl (lv_at hl 0 rfl) ?_
        obtain ⟨q10, h⟩ := ck_some h
        refine G_X8_now (pc := 56) C hM bw_4_227 q10 dX8_calledIn_56 ?_
        refine m_iload (pc := 59) C dX8_calledIn_59 (lv_at hl 3 rfl) ?_
        obtain ⟨a11, μ12, ca11, h⟩ := bd_some h
        refine V_X8_exportAt (pc := 61) C hM ca11 rx6 bw_5_114 ⟨Nat.le_of_ble_eq_true rfl, Nat.le_of_ble_eq_true rfl⟩ hl.1 (rcR (rcL rc0)) ⟨Nat.le_refl _, Nat.le_refl _⟩ dX8_calledIn_61 (fun ra11 H locs hM => ?_)
        refine m_iconst (pc := 64) C dX8_calledIn_64 ?_
        obtain ⟨a13, ea13, h⟩ := nm_some h
        have ra13 : R32 a13 := by rw [ea13]; exact w32_R _
        refine m_iadd (pc := 65) C dX8_calledIn_65 ea13 ?_
        obtain ⟨q14, h⟩ := ck_some h
        have gq14 := Ar_lald hM q14.1 q14.2.1 q14.2.2
        refine m_lald (pc := 66) C hM q14.1 q14.2.1 q14.2.2 dX8_calledIn_66 ?_
        refine m_lload_n (pc := 67) C dX8_calledIn_67 rfl (lv_at hl 1 rfl) ?_
        refine m_lcmp_ge (tgt := 87) (pc := 68) C gq14 rx2 dX8_calledIn_68 dX8_calledIn_69 (by decide) (fun c15 => ?_) (fun c15 => ?_)
        · have h := if_t h c15
          refine m_lconst (v := 0) (pc := 87) C dX8_calledIn_87 rfl ?_
          obtain ⟨a16, ea16, h⟩ := nm_some h
          have ra16 : R64 a16 := by rw [ea16]; exact w64_R _
          refine m_ladd (pc := 88) C dX8_calledIn_88 ea16 ?_
          refine m_lstore (pc := 89) C dX8_calledIn_89 hl (by decide) (lvK1 0 rfl (Nat.ne_of_beq_eq_false rfl) (Nat.ne_of_beq_eq_false rfl) (lvK1 1 rfl (Nat.ne_of_beq_eq_false rfl) (Nat.ne_of_beq_eq_false rfl) (lvK1 3 rfl (Nat.ne_of_beq_eq_false rfl) (Nat.ne_of_beq_eq_false rfl) lvK0))) (lvN1 (Nat.ne_of_beq_eq_false rfl) (lvN1 (Nat.ne_of_beq_eq_false rfl) (lvN1 (Nat.ne_of_beq_eq_false rfl) lvN0))) (fun ls hl => ?_)
          obtain ⟨a17, ea17, h⟩ := nm_some h
          have ra17 : R32 a17 := by rw [ea17]; exact w32_R _
          refine m_iinc (k := 3) (pc := 91) C dX8_calledIn_91 hl rfl (by decide) ea17 (lvK1 0 rfl (Nat.ne_of_beq_eq_false rfl) (Nat.ne_of_beq_eq_false rfl) (lvK1 1 rfl (Nat.ne_of_beq_eq_false rfl) (Nat.ne_of_beq_eq_false rfl) (lvK1 2 rfl (Nat.ne_of_beq_eq_false rfl) (Nat.ne_of_beq_eq_false rfl) lvK0))) (fun ls hl => ?_)
          refine m_goto (tgt := 31) (pc := 94) C dX8_calledIn_94 (by decide) ?_
          exact ih _ _ _ _ _ h rx2 ra16 ra17 _ _ _ hM (lv_sub hl [2, 3, 1, 0] rfl)
        · have h := if_f h c15
          refine m_aload_n (pc := 72) C dX8_calledIn_72 rfl (lv_at hl 0 rfl) ?_
          obtain ⟨q18, h⟩ := ck_some h
          refine G_X8_now (pc := 73) C hM bw_4_227 q18 dX8_calledIn_73 ?_
          refine m_iload (pc := 76) C dX8_calledIn_76 (lv_at hl 3 rfl) ?_
          obtain ⟨a19, μ20, ca19, h⟩ := bd_some h
          refine V_X8_exportAt (pc := 78) C hM ca19 rx6 bw_5_114 ⟨Nat.le_of_ble_eq_true rfl, Nat.le_of_ble_eq_true rfl⟩ hl.1 (rcR (rcL rc0)) ⟨Nat.le_refl _, Nat.le_refl _⟩ dX8_calledIn_78 (fun ra19 H locs hM => ?_)
          refine m_iconst (pc := 81) C dX8_calledIn_81 ?_
          obtain ⟨a21, ea21, h⟩ := nm_some h
          have ra21 : R32 a21 := by rw [ea21]; exact w32_R _
          refine m_iadd (pc := 82) C dX8_calledIn_82 ea21 ?_
          obtain ⟨q22, h⟩ := ck_some h
          have gq22 := Ar_lald hM q22.1 q22.2.1 q22.2.2
          refine m_lald (pc := 83) C hM q22.1 q22.2.1 q22.2.2 dX8_calledIn_83 ?_
          refine m_goto (tgt := 88) (pc := 84) C dX8_calledIn_84 (by decide) ?_
          obtain ⟨a23, ea23, h⟩ := nm_some h
          have ra23 : R64 a23 := by rw [ea23]; exact w64_R _
          refine m_ladd (pc := 88) C dX8_calledIn_88 ea23 ?_
          refine m_lstore (pc := 89) C dX8_calledIn_89 hl (by decide) (lvK1 0 rfl (Nat.ne_of_beq_eq_false rfl) (Nat.ne_of_beq_eq_false rfl) (lvK1 1 rfl (Nat.ne_of_beq_eq_false rfl) (Nat.ne_of_beq_eq_false rfl) (lvK1 3 rfl (Nat.ne_of_beq_eq_false rfl) (Nat.ne_of_beq_eq_false rfl) lvK0))) (lvN1 (Nat.ne_of_beq_eq_false rfl) (lvN1 (Nat.ne_of_beq_eq_false rfl) (lvN1 (Nat.ne_of_beq_eq_false rfl) lvN0))) (fun ls hl => ?_)
          obtain ⟨a24, ea24, h⟩ := nm_some h
          have ra24 : R32 a24 := by rw [ea24]; exact w32_R _
          refine m_iinc (k := 3) (pc := 91) C dX8_calledIn_91 hl rfl (by decide) ea24 (lvK1 0 rfl (Nat.ne_of_beq_eq_false rfl) (Nat.ne_of_beq_eq_false rfl) (lvK1 1 rfl (Nat.ne_of_beq_eq_false rfl) (Nat.ne_of_beq_eq_false rfl) (lvK1 2 rfl (Nat.ne_of_beq_eq_false rfl) (Nat.ne_of_beq_eq_false rfl) lvK0))) (fun ls hl => ?_)
          refine m_goto (tgt := 31) (pc := 94) C dX8_calledIn_94 (by decide) ?_
          exact ih _ _ _ _ _ h rx2 ra23 ra24 _ _ _ hM (lv_sub hl [2, 3, 1, 0] rfl)
set_option maxHeartbeats 4000000 in
set_option maxRecDepth 100000 in
theorem c_X8_calledIn (l : Launch) (E : gE) (N : Nat) (x0 x1 : Int) (μ μ' : Mm) (r : Int) (h : f_X8_calledIn N x0 x1 μ = some (r, μ')) (rx1 : R32 x1) : gMet l E yX8_calledIn cX8_calledIn 7 (some .int) 3 72 [vr E x0, vi x1] (some (vi r)) (R32 r) μ μ' 0 0 := by
  refine g_ofW [1, 1] (by first | (simp only [List.map_cons, List.map_nil, vr_cat]; done) | (simp only [List.map_cons, List.map_nil, vr_cat]; rfl)) (by decide) (by decide) (fun p e s m below meth c ls C hM hl => ?_)
  replace C : gCx p s m _ meth c cX8_calledIn 7 (some .int) "calledIn" RX8 := C
  replace hl : lv_has ls 7 [(0, vr E x0), (1, vi x1)] := hl
  unfold f_X8_calledIn at h
  refine m_iload_n (pc := 0) C dX8_calledIn_0 rfl (lv_at hl 1 rfl) ?_
  refine m_i2l (pc := 1) C rx1 dX8_calledIn_1 ?_
  refine m_lconst (v := 1) (pc := 2) C dX8_calledIn_2 rfl ?_
  refine m_ldc2 (n := 100) (pc := 3) C bw_4_223 rfl dX8_calledIn_3 ?_
  obtain ⟨a1, μ2, ca1, h⟩ := bd_some h
  refine V_X8_in (pc := 6) C hM ca1 (R32.to64 rx1) rl_1 rl_100 bw_5_43 ⟨Nat.le_of_ble_eq_true rfl, Nat.le_of_ble_eq_true rfl⟩ hl.1 rc0 ⟨Nat.le_refl _, Nat.le_refl _⟩ dX8_calledIn_6 (fun ra1 H locs hM => ?_)
  refine m_if_ne (tgt := 15) (pc := 9) C ra1 dX8_calledIn_9 (by decide) (fun c3 => ?_) (fun c3 => ?_)
  · have h := if_t h c3
    refine m_aload_n (pc := 15) C dX8_calledIn_15 rfl (lv_at hl 0 rfl) ?_
    obtain ⟨q4, h⟩ := ck_some h
    refine G_X8_now (pc := 16) C hM bw_4_227 q4 dX8_calledIn_16 ?_
    refine m_iconst (pc := 19) C dX8_calledIn_19 ?_
    obtain ⟨q5, h⟩ := ck_some h
    have gq5 := Ar_lald hM q5.1 q5.2.1 q5.2.2
    refine m_lald (pc := 20) C hM q5.1 q5.2.1 q5.2.2 dX8_calledIn_20 ?_
    refine m_iload_n (pc := 21) C dX8_calledIn_21 rfl (lv_at hl 1 rfl) ?_
    refine m_i2l (pc := 22) C rx1 dX8_calledIn_22 ?_
    obtain ⟨a6, ea6, h⟩ := nm_some h
    have ra6 : R64 a6 := by rw [ea6]; exact w64_R _
    refine m_ladd (pc := 23) C dX8_calledIn_23 ea6 ?_
    refine m_lstore_n (pc := 24) C dX8_calledIn_24 rfl hl (by decide) (lvK1 0 rfl (Nat.ne_of_beq_eq_false rfl) (Nat.ne_of_beq_eq_false rfl) lvK0) (lvN1 (Nat.ne_of_beq_eq_false rfl) lvN0) (fun ls hl => ?_)
    refine m_lconst (v := 0) (pc := 25) C dX8_calledIn_25 rfl ?_
    refine m_lstore (pc := 26) C dX8_calledIn_26 hl (by decide) (lvK1 0 rfl (Nat.ne_of_beq_eq_false rfl) (Nat.ne_of_beq_eq_false rfl) (lvK1 1 rfl (Nat.ne_of_beq_eq_false rfl) (Nat.ne_of_beq_eq_false rfl) lvK0)) (lvN1 (Nat.ne_of_beq_eq_false rfl) (lvN1 (Nat.ne_of_beq_eq_false rfl) lvN0)) (fun ls hl => ?_)
    refine m_iconst (pc := 28) C dX8_calledIn_28 ?_
    refine m_istore (pc := 29) C dX8_calledIn_29 hl (by decide) (lvK1 0 rfl (Nat.ne_of_beq_eq_false rfl) (Nat.ne_of_beq_eq_false rfl) (lvK1 1 rfl (Nat.ne_of_beq_eq_false rfl) (Nat.ne_of_beq_eq_false rfl) (lvK1 2 rfl (Nat.ne_of_beq_eq_false rfl) (Nat.ne_of_beq_eq_false rfl) lvK0))) (fun ls hl => ?_)
    exact k_X8_calledIn_b31 C N N _ _ _ _ _ h ra6 rl_0 rk_0 _ _ _ hM (lv_sub hl [3, 2, 1, 0] rfl)
  · have h := if_f h c3
    refine m_ldc (n := -100000002) (pc := 12) C bw_5_77 rfl dX8_calledIn_12 ?_
    cases h
    exact m_iret (pc := 14) C hM rk_m100000002 dX8_calledIn_14
theorem hd_X8_calledIn : yX8_calledIn.cls ≠ "java/lang/invoke/MethodHandle" ∧ yX8_calledIn.cls ≠ "java/lang/invoke/VarHandle" ∧ (parseMethodDescriptor yX8_calledIn.desc).map (fun d => d.parameters.length) = some 1 := by decide +kernel

theorem V_X8_calledIn {p : Program} {l : Launch} {e : Env} {R : Room} {s : State} {m : MethodId} {args : Array Value} {below : List Frame} {meth : Method} {c : Code} {H : Heap} {locs : List Loc} {cells slots : Nat} {Q : State → Prop} {cc : ByteArray} {pc nL : Nat} {ls : Array Slot} {rest : List Value} {ret : Option FieldType} {nmm own : String} {E : gE} {μ μ1 : Mm} {index : Nat} (C : gCx p s m args meth c cc nL ret nmm own) (hM : MS E μ s H locs) {N : Nat} {x0 x1 v : Int} (hc : f_X8_calledIn N x0 x1 μ = some (v, μ1)) (rx1 : R32 x1) (hck : μ x0 (-2) = 10) (h1 : Cond.methodLink own index yX8_calledIn ∈ bigL) (hR : 4 ≤ R.frames ∧ 98 ≤ R.locals) (hl : ls.size = nL) (hcat : RC rest 8) (hf : cells + 0 ≤ R.cells ∧ slots + 0 ≤ R.slots) (hdg : decode cc pc = .ok (.invokevirtual index, 3)) (kk : (R32 v) → ∀ (H1 : Heap) (locs1 : List Loc), MS E μ1 s H1 locs1 → W p l e R s m args below meth c H1 locs1 (cells + 0) (slots + 0) Q (F0 m (pc + 3) ls (vi v :: rest))) : W p l e R s m args below meth c H locs cells slots Q (F0 m pc ls (vi x1 :: vr E x0 :: rest)) := g_callV C KF_X8 hM (c_X8_calledIn l E N x0 x1 μ μ1 v hc rx1) hck (gV h1 bw_6_138 bw_6_139 bw_1_13 bw_6_140) ⟨rfl, hd_X8_calledIn⟩ hR rfl hl rfl hcat hf hdg kk
/-! X8_greatestValue -/
def f_X8_greatestValue_b31 (N : Nat) : Nat → Int → Int → Int → Int → Int → Int → Mm → Rs
  | 0, _, _, _, _, _, _, _ => none
  | n + 1, x0, x1, x2, x3, x5, x6, μ =>
    if x6 ≤ x5 then
      (if 0 ≤ x5 then
         (some (x5, μ))
       else
       some ((-100000005), μ))
    else
    nm (w32 (x6 - x5)) fun a3 =>
    nm (w32 (a3 + 1)) fun a4 =>
    nm (w32 (Int.tdiv a4 2)) fun a5 =>
    nm (w32 (x5 + a5)) fun a7 =>
    ck (μ x0 (-2) = 10) <|
    nm (w32 (14 + x2)) fun a9 =>
    ck (μ (μ x0 0) (-2) = 24 ∧ (0 : Int) ≤ a9 ∧ a9 < μ (μ x0 0) (-1)) <|
    nm (w64 (a7 * (μ (μ x0 0) a9))) fun a11 =>
    nm (w64 (Int.tdiv a11 1000)) fun a12 =>
    nm (w64 (x3 + a12)) fun a14 =>
    ck (μ x0 (-2) = 10) <|
    bd (f_X8_ownerAt N x1 μ) fun a16 μ17 =>
    nm (w32 (a16 + 1)) fun a18 =>
    ck (μ17 (μ x0 0) (-2) = 24 ∧ (0 : Int) ≤ a18 ∧ a18 < μ17 (μ x0 0) (-1)) <|
    ck (μ17 x0 (-2) = 10) <|
    bd (f_X8_isCovered N x0 a14 (μ17 (μ x0 0) a18) μ17) fun a21 μ22 =>
    if a21 = 0 then
      (nm (w32 (a7 - 1)) fun a24 =>
       f_X8_greatestValue_b31 N n x0 x1 x2 x3 x5 a24 μ22)
    else
    f_X8_greatestValue_b31 N n x0 x1 x2 x3 a7 x6 μ22
def f_X8_greatestValue (N : Nat) (x0 x1 x2 : Int) (μ : Mm) : Rs :=
  ck (μ x0 (-2) = 10) <|
  bd (f_X8_noOwner N x0 x1 μ) fun a2 μ3 =>
  if ¬ a2 = 0 then
    (some ((-100000001), μ3))
  else
  bd (f_X8_noKind N x2 μ3) fun a5 μ6 =>
  if a5 = 0 then
    (ck (μ6 x0 (-2) = 10) <|
     bd (f_X8_use N x0 x1 μ6) fun a9 μ10 =>
     f_X8_greatestValue_b31 N N x0 x1 x2 a9 ((-1)) 10000000 μ10)
  else
  some ((-100000001), μ6)
set_option maxHeartbeats 4000000 in
set_option maxRecDepth 100000 in
theorem k_X8_greatestValue_b31 (C : gCx p s m args meth c cX8_greatestValue 8 (some .int) "greatestValue" RX8) (N : Nat) {r : Int} {μ' : Mm} : ∀ (n : Nat), ∀ (x0 x1 x2 x3 x5 x6 : Int) (μ : Mm), f_X8_greatestValue_b31 N n x0 x1 x2 x3 x5 x6 μ = some (r, μ') → R32 x1 → R32 x2 → R64 x3 → R32 x5 → R32 x6 → ∀ (H : Heap) (locs : List Loc) (ls : Array Slot), MS E μ s H locs → lv_has ls 8 [(0, vr E x0), (1, vi x1), (2, vi x2), (3, vl x3), (5, vi x5), (6, vi x6)] → W p l e ({ frames := 5, cells := 0, slots := 0, locals := 117 } : Room) s m args below meth c H locs 0 0 (MQ below (gQ E (some (vi r)) (R32 r) μ') args s 0 0 (gA E)) (F0 m 31 ls []) := by
  intro n
  induction n with
  | zero => intro x0 x1 x2 x3 x5 x6 μ h; simp [f_X8_greatestValue_b31] at h
  | succ n ih =>
    intro x0 x1 x2 x3 x5 x6 μ h rx1 rx2 rx3 rx5 rx6 H locs ls hM hl
    rw [f_X8_greatestValue_b31] at h
    refine m_iload (pc := 31) C dX8_greatestValue_31 (lv_at hl 4 rfl) ?_
    refine m_iload (pc := 33) C dX8_greatestValue_33 (lv_at hl 5 rfl) ?_
    refine m_icmp_ge (tgt := 105) (pc := 35) C rx5 rx6 dX8_greatestValue_35 (by decide) (fun c1 => ?_) (fun c1 => ?_)
    · have h := if_t h c1
      refine m_iload (pc := 105) C dX8_greatestValue_105 (lv_at hl 4 rfl) ?_
      refine m_if_ge (tgt := 115) (pc := 107) C rx5 dX8_greatestValue_107 (by decide) (fun c2 => ?_) (fun c2 => ?_)
      · have h := if_t h c2
        refine m_iload (pc := 115) C dX8_greatestValue_115 (lv_at hl 4 rfl) ?_
        cases h
        exact m_iret (pc := 117) C hM rx5 dX8_greatestValue_117
      · have h := if_f h c2
        refine m_ldc (n := -100000005) (pc := 110) C bw_5_38 rfl dX8_greatestValue_110 ?_
        refine m_goto (tgt := 117) (pc := 112) C dX8_greatestValue_112 (by decide) ?_
        cases h
        exact m_iret (pc := 117) C hM rk_m100000005 dX8_greatestValue_117
    · have h := if_f h c1
      refine m_iload (pc := 38) C dX8_greatestValue_38 (lv_at hl 4 rfl) ?_
      refine m_iload (pc := 40) C dX8_greatestValue_40 (lv_at hl 5 rfl) ?_
      refine m_iload (pc := 42) C dX8_greatestValue_42 (lv_at hl 4 rfl) ?_
      obtain ⟨a3, ea3, h⟩ := nm_some h
      have ra3 : R32 a3 := by rw [ea3]; exact w32_R _
      refine m_isub (pc := 44) C dX8_greatestValue_44 ea3 ?_
      refine m_iconst (pc := 45) C dX8_greatestValue_45 ?_
      obtain ⟨a4, ea4, h⟩ := nm_some h
      have ra4 : R32 a4 := by rw [ea4]; exact w32_R _
      refine m_iadd (pc := 46) C dX8_greatestValue_46 ea4 ?_
      refine m_iconst (pc := 47) C dX8_greatestValue_47 ?_
      obtain ⟨a5, ea5, h⟩ := nm_some h
      have ra5 : R32 a5 := by rw [ea5]; exact w32_R _
      refine m_idiv (pc := 48) C ra4 rk_2 (by decide) dX8_greatestValue_48 ea5 ?_
      obtain ⟨a7, ea7, h⟩ := nm_some h
      have ra7 : R32 a7 := by rw [ea7]; exact w32_R _
      refine m_iadd (pc := 49) C dX8_greatestValue_49 ea7 ?_
      refine m_istore (pc := 50) C dX8_greatestValue_50 hl (by decide) (lvK1 0 rfl (Nat.ne_of_beq_eq_false rfl) (Nat.ne_of_beq_eq_false rfl) (lvK1 1 rfl (Nat.ne_of_beq_eq_false rfl) (Nat.ne_of_beq_eq_false rfl) (lvK1 2 rfl (Nat.ne_of_beq_eq_false rfl) (Nat.ne_of_beq_eq_false rfl) (lvK1 3 rfl (Nat.ne_of_beq_eq_false rfl) (Nat.ne_of_beq_eq_false rfl) (lvK1 4 rfl (Nat.ne_of_beq_eq_false rfl) (Nat.ne_of_beq_eq_false rfl) (lvK2 5 rfl (Nat.ne_of_beq_eq_false rfl) rfl lvK0)))))) (fun ls hl => ?_)
      refine m_aload_n (pc := 52) C dX8_greatestValue_52 rfl (lv_at hl 1 rfl) ?_
      refine m_lload_n (pc := 53) C dX8_greatestValue_53 rfl (lv_at hl 4 rfl) ?_
      refine m_iload (pc := 54) C dX8_greatestValue_54 (lv_at hl 0 rfl) ?_
      refine m_i2l (pc := 56) C ra7 dX8_greatestValue_56 ?_
      refine m_aload_n (pc := 57) C dX8_greatestValue_57 rfl (lv_at hl 1 rfl) ?_
      obtain ⟨q8, h⟩ := ck_some h
      refine G_X8_now (pc := 58) C hM bw_4_227 q8 dX8_greatestValue_58 ?_
      refine m_bipush (pc := 61) C dX8_greatestValue_61 rfl ?_
      refine m_iload_n (pc := 63) C dX8_greatestValue_63 rfl (lv_at hl 3 rfl) ?_
      obtain ⟨a9, ea9, h⟩ := nm_some h
      have ra9 : R32 a9 := by rw [ea9]; exact w32_R _
      refine m_iadd (pc := 64) C dX8_greatestValue_64 ea9 ?_
      obtain ⟨q10, h⟩ := ck_some h
      have gq10 := Ar_lald hM q10.1 q10.2.1 q10.2.2
      refine m_lald (pc := 65) C hM q10.1 q10.2.1 q10.2.2 dX8_greatestValue_65 ?_
      obtain ⟨a11, ea11, h⟩ := nm_some h
      have ra11 : R64 a11 := by rw [ea11]; exact w64_R _
      refine m_lmul (pc := 66) C dX8_greatestValue_66 ea11 ?_
      refine m_ldc2 (n := 1000) (pc := 67) C bw_5_133 rfl dX8_greatestValue_67 ?_
      obtain ⟨a12, ea12, h⟩ := nm_some h
      have ra12 : R64 a12 := by rw [ea12]; exact w64_R _
      refine m_ldiv (pc := 70) C ra11 rl_1000 (by decide) dX8_greatestValue_70 ea12 ?_
      obtain ⟨a14, ea14, h⟩ := nm_some h
      have ra14 : R64 a14 := by rw [ea14]; exact w64_R _
      refine m_ladd (pc := 71) C dX8_greatestValue_71 ea14 ?_
      refine m_aload_n (pc := 72) C dX8_greatestValue_72 rfl (lv_at hl 1 rfl) ?_
      obtain ⟨q15, h⟩ := ck_some h
      refine G_X8_now (pc := 73) C hM bw_4_227 q15 dX8_greatestValue_73 ?_
      refine m_iload_n (pc := 76) C dX8_greatestValue_76 rfl (lv_at hl 2 rfl) ?_
      obtain ⟨a16, μ17, ca16, h⟩ := bd_some h
      refine V_X8_ownerAt (pc := 77) C hM ca16 rx1 bw_5_65 ⟨Nat.le_of_ble_eq_true rfl, Nat.le_of_ble_eq_true rfl⟩ hl.1 (rcR (rcL (rcR rc0))) ⟨Nat.le_refl _, Nat.le_refl _⟩ dX8_greatestValue_77 (fun ra16 H locs hM => ?_)
      refine m_iconst (pc := 80) C dX8_greatestValue_80 ?_
      obtain ⟨a18, ea18, h⟩ := nm_some h
      have ra18 : R32 a18 := by rw [ea18]; exact w32_R _
      refine m_iadd (pc := 81) C dX8_greatestValue_81 ea18 ?_
      obtain ⟨q19, h⟩ := ck_some h
      have gq19 := Ar_lald hM q19.1 q19.2.1 q19.2.2
      refine m_lald (pc := 82) C hM q19.1 q19.2.1 q19.2.2 dX8_greatestValue_82 ?_
      obtain ⟨q20, h⟩ := ck_some h
      obtain ⟨a21, μ22, ca21, h⟩ := bd_some h
      refine V_X8_isCovered (pc := 83) C hM ca21 ra14 gq19 q20 bw_5_117 ⟨Nat.le_of_ble_eq_true rfl, Nat.le_of_ble_eq_true rfl⟩ hl.1 rc0 ⟨Nat.le_refl _, Nat.le_refl _⟩ dX8_greatestValue_83 (fun ra21 H locs hM => ?_)
      refine m_if_eq (tgt := 96) (pc := 86) C ra21 dX8_greatestValue_86 (by decide) (fun c23 => ?_) (fun c23 => ?_)
      · have h := if_t h c23
        refine m_iload (pc := 96) C dX8_greatestValue_96 (lv_at hl 0 rfl) ?_
        refine m_iconst (pc := 98) C dX8_greatestValue_98 ?_
        obtain ⟨a24, ea24, h⟩ := nm_some h
        have ra24 : R32 a24 := by rw [ea24]; exact w32_R _
        refine m_isub (pc := 99) C dX8_greatestValue_99 ea24 ?_
        refine m_istore (pc := 100) C dX8_greatestValue_100 hl (by decide) (lvK1 1 rfl (Nat.ne_of_beq_eq_false rfl) (Nat.ne_of_beq_eq_false rfl) (lvK1 2 rfl (Nat.ne_of_beq_eq_false rfl) (Nat.ne_of_beq_eq_false rfl) (lvK1 3 rfl (Nat.ne_of_beq_eq_false rfl) (Nat.ne_of_beq_eq_false rfl) (lvK1 4 rfl (Nat.ne_of_beq_eq_false rfl) (Nat.ne_of_beq_eq_false rfl) (lvK2 5 rfl (Nat.ne_of_beq_eq_false rfl) rfl lvK0))))) (fun ls hl => ?_)
        refine m_goto (tgt := 31) (pc := 102) C dX8_greatestValue_102 (by decide) ?_
        exact ih _ _ _ _ _ _ _ h rx1 rx2 rx3 rx5 ra24 _ _ _ hM (lv_sub hl [1, 2, 3, 4, 5, 0] rfl)
      · have h := if_f h c23
        refine m_iload (pc := 89) C dX8_greatestValue_89 (lv_at hl 0 rfl) ?_
        refine m_istore (pc := 91) C dX8_greatestValue_91 hl (by decide) (lvK1 1 rfl (Nat.ne_of_beq_eq_false rfl) (Nat.ne_of_beq_eq_false rfl) (lvK1 2 rfl (Nat.ne_of_beq_eq_false rfl) (Nat.ne_of_beq_eq_false rfl) (lvK1 3 rfl (Nat.ne_of_beq_eq_false rfl) (Nat.ne_of_beq_eq_false rfl) (lvK1 4 rfl (Nat.ne_of_beq_eq_false rfl) (Nat.ne_of_beq_eq_false rfl) (lvK1 6 rfl (Nat.ne_of_beq_eq_false rfl) (Nat.ne_of_beq_eq_false rfl) lvK0))))) (fun ls hl => ?_)
        refine m_goto (tgt := 102) (pc := 93) C dX8_greatestValue_93 (by decide) ?_
        refine m_goto (tgt := 31) (pc := 102) C dX8_greatestValue_102 (by decide) ?_
        exact ih _ _ _ _ _ _ _ h rx1 rx2 rx3 ra7 rx6 _ _ _ hM (lv_sub hl [1, 2, 3, 4, 0, 5] rfl)
set_option maxHeartbeats 4000000 in
set_option maxRecDepth 100000 in
theorem c_X8_greatestValue (l : Launch) (E : gE) (N : Nat) (x0 x1 x2 : Int) (μ μ' : Mm) (r : Int) (h : f_X8_greatestValue N x0 x1 x2 μ = some (r, μ')) (rx1 : R32 x1) (rx2 : R32 x2) : gMet l E yX8_greatestValue cX8_greatestValue 8 (some .int) 5 117 [vr E x0, vi x1, vi x2] (some (vi r)) (R32 r) μ μ' 0 0 := by
  refine g_ofW [1, 1, 1] (by first | (simp only [List.map_cons, List.map_nil, vr_cat]; done) | (simp only [List.map_cons, List.map_nil, vr_cat]; rfl)) (by decide) (by decide) (fun p e s m below meth c ls C hM hl => ?_)
  replace C : gCx p s m _ meth c cX8_greatestValue 8 (some .int) "greatestValue" RX8 := C
  replace hl : lv_has ls 8 [(0, vr E x0), (1, vi x1), (2, vi x2)] := hl
  unfold f_X8_greatestValue at h
  refine m_aload_n (pc := 0) C dX8_greatestValue_0 rfl (lv_at hl 0 rfl) ?_
  refine m_iload_n (pc := 1) C dX8_greatestValue_1 rfl (lv_at hl 1 rfl) ?_
  obtain ⟨q1, h⟩ := ck_some h
  obtain ⟨a2, μ3, ca2, h⟩ := bd_some h
  refine V_X8_noOwner (pc := 2) C hM ca2 rx1 q1 bw_5_72 ⟨Nat.le_of_ble_eq_true rfl, Nat.le_of_ble_eq_true rfl⟩ hl.1 rc0 ⟨Nat.le_refl _, Nat.le_refl _⟩ dX8_greatestValue_2 (fun ra2 H locs hM => ?_)
  refine m_if_ne (tgt := 15) (pc := 5) C ra2 dX8_greatestValue_5 (by decide) (fun c4 => ?_) (fun c4 => ?_)
  · have h := if_t h c4
    refine m_ldc (n := -100000001) (pc := 15) C bw_5_46 rfl dX8_greatestValue_15 ?_
    cases h
    exact m_iret (pc := 17) C hM rk_m100000001 dX8_greatestValue_17
  · have h := if_f h c4
    refine m_iload_n (pc := 8) C dX8_greatestValue_8 rfl (lv_at hl 2 rfl) ?_
    obtain ⟨a5, μ6, ca5, h⟩ := bd_some h
    refine V_X8_noKind (pc := 9) C hM ca5 rx2 bw_5_130 ⟨Nat.le_of_ble_eq_true rfl, Nat.le_of_ble_eq_true rfl⟩ hl.1 rc0 ⟨Nat.le_refl _, Nat.le_refl _⟩ dX8_greatestValue_9 (fun ra5 H locs hM => ?_)
    refine m_if_eq (tgt := 18) (pc := 12) C ra5 dX8_greatestValue_12 (by decide) (fun c7 => ?_) (fun c7 => ?_)
    · have h := if_t h c7
      refine m_aload_n (pc := 18) C dX8_greatestValue_18 rfl (lv_at hl 0 rfl) ?_
      refine m_iload_n (pc := 19) C dX8_greatestValue_19 rfl (lv_at hl 1 rfl) ?_
      obtain ⟨q8, h⟩ := ck_some h
      obtain ⟨a9, μ10, ca9, h⟩ := bd_some h
      refine V_X8_use (pc := 20) C hM ca9 rx1 q8 bw_5_83 ⟨Nat.le_of_ble_eq_true rfl, Nat.le_of_ble_eq_true rfl⟩ hl.1 rc0 ⟨Nat.le_refl _, Nat.le_refl _⟩ dX8_greatestValue_20 (fun ra9 H locs hM => ?_)
      refine m_lstore_n (pc := 23) C dX8_greatestValue_23 rfl hl (by decide) (lvK1 0 rfl (Nat.ne_of_beq_eq_false rfl) (Nat.ne_of_beq_eq_false rfl) (lvK1 1 rfl (Nat.ne_of_beq_eq_false rfl) (Nat.ne_of_beq_eq_false rfl) (lvK2 2 rfl (Nat.ne_of_beq_eq_false rfl) rfl lvK0))) (lvN1 (Nat.ne_of_beq_eq_false rfl) (lvN1 (Nat.ne_of_beq_eq_false rfl) (lvN1 (Nat.ne_of_beq_eq_false rfl) lvN0))) (fun ls hl => ?_)
      refine m_iconst (pc := 24) C dX8_greatestValue_24 ?_
      refine m_istore (pc := 25) C dX8_greatestValue_25 hl (by decide) (lvK1 0 rfl (Nat.ne_of_beq_eq_false rfl) (Nat.ne_of_beq_eq_false rfl) (lvK1 1 rfl (Nat.ne_of_beq_eq_false rfl) (Nat.ne_of_beq_eq_false rfl) (lvK1 2 rfl (Nat.ne_of_beq_eq_false rfl) (Nat.ne_of_beq_eq_false rfl) (lvK1 3 rfl (Nat.ne_of_beq_eq_false rfl) (Nat.ne_of_beq_eq_false rfl) lvK0)))) (fun ls hl => ?_)
      refine m_ldc (n := 10000000) (pc := 27) C bw_6_78 rfl dX8_greatestValue_27 ?_
      refine m_istore (pc := 29) C dX8_greatestValue_29 hl (by decide) (lvK2 0 rfl (Nat.ne_of_beq_eq_false rfl) rfl (lvK1 1 rfl (Nat.ne_of_beq_eq_false rfl) (Nat.ne_of_beq_eq_false rfl) (lvK1 2 rfl (Nat.ne_of_beq_eq_false rfl) (Nat.ne_of_beq_eq_false rfl) (lvK1 3 rfl (Nat.ne_of_beq_eq_false rfl) (Nat.ne_of_beq_eq_false rfl) (lvK1 4 rfl (Nat.ne_of_beq_eq_false rfl) (Nat.ne_of_beq_eq_false rfl) lvK0))))) (fun ls hl => ?_)
      exact k_X8_greatestValue_b31 C N N _ _ _ _ _ _ _ h rx1 rx2 ra9 rk_m1 rk_10000000 _ _ _ hM (lv_sub hl [3, 4, 5, 2, 1, 0] rfl)
    · have h := if_f h c7
      refine m_ldc (n := -100000001) (pc := 15) C bw_5_46 rfl dX8_greatestValue_15 ?_
      cases h
      exact m_iret (pc := 17) C hM rk_m100000001 dX8_greatestValue_17
theorem hd_X8_greatestValue : yX8_greatestValue.cls ≠ "java/lang/invoke/MethodHandle" ∧ yX8_greatestValue.cls ≠ "java/lang/invoke/VarHandle" ∧ (parseMethodDescriptor yX8_greatestValue.desc).map (fun d => d.parameters.length) = some 2 := by decide +kernel

theorem V_X8_greatestValue {p : Program} {l : Launch} {e : Env} {R : Room} {s : State} {m : MethodId} {args : Array Value} {below : List Frame} {meth : Method} {c : Code} {H : Heap} {locs : List Loc} {cells slots : Nat} {Q : State → Prop} {cc : ByteArray} {pc nL : Nat} {ls : Array Slot} {rest : List Value} {ret : Option FieldType} {nmm own : String} {E : gE} {μ μ1 : Mm} {index : Nat} (C : gCx p s m args meth c cc nL ret nmm own) (hM : MS E μ s H locs) {N : Nat} {x0 x1 x2 v : Int} (hc : f_X8_greatestValue N x0 x1 x2 μ = some (v, μ1)) (rx1 : R32 x1) (rx2 : R32 x2) (hck : μ x0 (-2) = 10) (h1 : Cond.methodLink own index yX8_greatestValue ∈ bigL) (hR : 6 ≤ R.frames ∧ 144 ≤ R.locals) (hl : ls.size = nL) (hcat : RC rest 8) (hf : cells + 0 ≤ R.cells ∧ slots + 0 ≤ R.slots) (hdg : decode cc pc = .ok (.invokevirtual index, 3)) (kk : (R32 v) → ∀ (H1 : Heap) (locs1 : List Loc), MS E μ1 s H1 locs1 → W p l e R s m args below meth c H1 locs1 (cells + 0) (slots + 0) Q (F0 m (pc + 3) ls (vi v :: rest))) : W p l e R s m args below meth c H locs cells slots Q (F0 m pc ls (vi x2 :: vi x1 :: vr E x0 :: rest)) := g_callV C KF_X8 hM (c_X8_greatestValue l E N x0 x1 x2 μ μ1 v hc rx1 rx2) hck (gV h1 bw_6_142 bw_6_143 bw_1_13 bw_6_144) ⟨rfl, hd_X8_greatestValue⟩ hR rfl hl rfl hcat hf hdg kk
/-! X8_account -/
def f_X8_account_b16 (N : Nat) (x0 x1 : Int) (μ : Mm) : Rs :=
  ck (μ x0 (-2) = 10) <|
  nm (w32 (10 + x1)) fun a2 =>
  nm (w32 (a2 - 4)) fun a3 =>
  ck (μ (μ x0 0) (-2) = 24 ∧ (0 : Int) ≤ a3 ∧ a3 < μ (μ x0 0) (-1)) <|
  some (μ (μ x0 0) a3, μ)
def f_X8_account_b49 (N : Nat) : Nat → Int → Int → Int → Int → Mm → Rs
  | 0, _, _, _, _, _ => none
  | n + 1, x0, x1, x2, x4, μ =>
    ck (μ x0 (-2) = 10) <|
    ck (μ (μ x0 0) (-2) = 24 ∧ (0 : Int) ≤ 2 ∧ 2 < μ (μ x0 0) (-1)) <|
    if (μ (μ x0 0) 2) ≤ x4 then
      (some (x2, μ))
    else
    if ¬ x1 = 0 then
      (if ¬ x1 = 1 then
         (ck (μ x0 (-2) = 10) <|
          bd (f_X8_lotAt N x4 μ) fun a7 μ8 =>
          nm (w32 (a7 + 6)) fun a9 =>
          nm (w32 (a9 + x1)) fun a10 =>
          ck (μ8 (μ x0 0) (-2) = 24 ∧ (0 : Int) ≤ a10 ∧ a10 < μ8 (μ x0 0) (-1)) <|
          nm (w64 (x2 + (μ8 (μ x0 0) a10))) fun a12 =>
          nm (w32 (x4 + 1)) fun a13 =>
          f_X8_account_b49 N n x0 x1 a12 a13 μ8)
       else
       ck (μ x0 (-2) = 10) <|
       bd (f_X8_suspended N x0 x4 μ) fun a15 μ16 =>
       nm (w64 (x2 + a15)) fun a17 =>
       nm (w32 (x4 + 1)) fun a18 =>
       f_X8_account_b49 N n x0 x1 a17 a18 μ16)
    else
    ck (μ x0 (-2) = 10) <|
    bd (f_X8_lotAt N x4 μ) fun a20 μ21 =>
    nm (w32 (a20 + 6)) fun a22 =>
    ck (μ21 (μ x0 0) (-2) = 24 ∧ (0 : Int) ≤ a22 ∧ a22 < μ21 (μ x0 0) (-1)) <|
    nm (w64 (x2 + (μ21 (μ x0 0) a22))) fun a24 =>
    nm (w32 (x4 + 1)) fun a25 =>
    f_X8_account_b49 N n x0 x1 a24 a25 μ21
def f_X8_account (N : Nat) (x0 x1 : Int) (μ : Mm) : Rs :=
  if x1 = 4 then
    (f_X8_account_b16 N x0 x1 μ)
  else
  if x1 = 5 then
    (f_X8_account_b16 N x0 x1 μ)
  else
  if ¬ x1 = 6 then
    (bd (f_X8_in N x1 0 3 μ) fun a4 μ5 =>
     if ¬ a4 = 0 then
       (f_X8_account_b49 N N x0 x1 0 0 μ5)
     else
     some ((-100000002), μ5))
  else
  f_X8_account_b16 N x0 x1 μ
set_option maxHeartbeats 4000000 in
set_option maxRecDepth 100000 in
theorem k_X8_account_b16 (C : gCx p s m args meth c cX8_account 5 (some .long) "account" RX8) (N : Nat) {r : Int} {μ' : Mm} : ∀ (x0 x1 : Int) (μ : Mm), f_X8_account_b16 N x0 x1 μ = some (r, μ') → R32 x1 → ∀ (H : Heap) (locs : List Loc) (ls : Array Slot), MS E μ s H locs → lv_has ls 5 [(0, vr E x0), (1, vi x1)] → W p l e ({ frames := 4, cells := 0, slots := 0, locals := 93 } : Room) s m args below meth c H locs 0 0 (MQ below (gQ E (some (vl r)) (R64 r) μ') args s 0 0 (gA E)) (F0 m 16 ls []) := by
  intro x0 x1 μ h rx1 H locs ls hM hl
  unfold f_X8_account_b16 at h
  refine m_aload_n (pc := 16) C dX8_account_16 rfl (lv_at hl 0 rfl) ?_
  obtain ⟨q1, h⟩ := ck_some h
  refine G_X8_now (pc := 17) C hM bw_4_227 q1 dX8_account_17 ?_
  refine m_bipush (pc := 20) C dX8_account_20 rfl ?_
  refine m_iload_n (pc := 22) C dX8_account_22 rfl (lv_at hl 1 rfl) ?_
  obtain ⟨a2, ea2, h⟩ := nm_some h
  have ra2 : R32 a2 := by rw [ea2]; exact w32_R _
  refine m_iadd (pc := 23) C dX8_account_23 ea2 ?_
  refine m_iconst (pc := 24) C dX8_account_24 ?_
  obtain ⟨a3, ea3, h⟩ := nm_some h
  have ra3 : R32 a3 := by rw [ea3]; exact w32_R _
  refine m_isub (pc := 25) C dX8_account_25 ea3 ?_
  obtain ⟨q4, h⟩ := ck_some h
  have gq4 := Ar_lald hM q4.1 q4.2.1 q4.2.2
  refine m_lald (pc := 26) C hM q4.1 q4.2.1 q4.2.2 dX8_account_26 ?_
  cases h
  exact m_lret (pc := 27) C hM gq4 dX8_account_27
set_option maxHeartbeats 4000000 in
set_option maxRecDepth 100000 in
theorem k_X8_account_b49 (C : gCx p s m args meth c cX8_account 5 (some .long) "account" RX8) (N : Nat) {r : Int} {μ' : Mm} : ∀ (n : Nat), ∀ (x0 x1 x2 x4 : Int) (μ : Mm), f_X8_account_b49 N n x0 x1 x2 x4 μ = some (r, μ') → R32 x1 → R64 x2 → R32 x4 → ∀ (H : Heap) (locs : List Loc) (ls : Array Slot), MS E μ s H locs → lv_has ls 5 [(0, vr E x0), (1, vi x1), (2, vl x2), (4, vi x4)] → W p l e ({ frames := 4, cells := 0, slots := 0, locals := 93 } : Room) s m args below meth c H locs 0 0 (MQ below (gQ E (some (vl r)) (R64 r) μ') args s 0 0 (gA E)) (F0 m 49 ls []) := by
  intro n
  induction n with
  | zero => intro x0 x1 x2 x4 μ h; simp [f_X8_account_b49] at h
  | succ n ih =>
    intro x0 x1 x2 x4 μ h rx1 rx2 rx4 H locs ls hM hl
    rw [f_X8_account_b49] at h
    refine m_iload (pc := 49) C dX8_account_49 (lv_at hl 3 rfl) ?_
    refine m_i2l (pc := 51) C rx4 dX8_account_51 ?_
    refine m_aload_n (pc := 52) C dX8_account_52 rfl (lv_at hl 0 rfl) ?_
    obtain ⟨q1, h⟩ := ck_some h
    refine G_X8_now (pc := 53) C hM bw_4_227 q1 dX8_account_53 ?_
    refine m_iconst (pc := 56) C dX8_account_56 ?_
    obtain ⟨q2, h⟩ := ck_some h
    have gq2 := Ar_lald hM q2.1 q2.2.1 q2.2.2
    refine m_lald (pc := 57) C hM q2.1 q2.2.1 q2.2.2 dX8_account_57 ?_
    refine m_lcmp_ge (tgt := 120) (pc := 58) C (R32.to64 rx4) gq2 dX8_account_58 dX8_account_59 (by decide) (fun c3 => ?_) (fun c3 => ?_)
    · have h := if_t h c3
      refine m_lload_n (pc := 120) C dX8_account_120 rfl (lv_at hl 2 rfl) ?_
      cases h
      exact m_lret (pc := 121) C hM rx2 dX8_account_121
    · have h := if_f h c3
      refine m_lload_n (pc := 62) C dX8_account_62 rfl (lv_at hl 2 rfl) ?_
      refine m_iload_n (pc := 63) C dX8_account_63 rfl (lv_at hl 1 rfl) ?_
      refine m_if_ne (tgt := 83) (pc := 64) C rx1 dX8_account_64 (by decide) (fun c4 => ?_) (fun c4 => ?_)
      · have h := if_t h c4
        refine m_iload_n (pc := 83) C dX8_account_83 rfl (lv_at hl 1 rfl) ?_
        refine m_iconst (pc := 84) C dX8_account_84 ?_
        refine m_icmp_ne (tgt := 97) (pc := 85) C rx1 rk_1 dX8_account_85 (by decide) (fun c5 => ?_) (fun c5 => ?_)
        · have h := if_t h c5
          refine m_aload_n (pc := 97) C dX8_account_97 rfl (lv_at hl 0 rfl) ?_
          obtain ⟨q6, h⟩ := ck_some h
          refine G_X8_now (pc := 98) C hM bw_4_227 q6 dX8_account_98 ?_
          refine m_iload (pc := 101) C dX8_account_101 (lv_at hl 3 rfl) ?_
          obtain ⟨a7, μ8, ca7, h⟩ := bd_some h
          refine V_X8_lotAt (pc := 103) C hM ca7 rx4 bw_5_87 ⟨Nat.le_of_ble_eq_true rfl, Nat.le_of_ble_eq_true rfl⟩ hl.1 (rcR (rcL rc0)) ⟨Nat.le_refl _, Nat.le_refl _⟩ dX8_account_103 (fun ra7 H locs hM => ?_)
          refine m_bipush (pc := 106) C dX8_account_106 rfl ?_
          obtain ⟨a9, ea9, h⟩ := nm_some h
          have ra9 : R32 a9 := by rw [ea9]; exact w32_R _
          refine m_iadd (pc := 108) C dX8_account_108 ea9 ?_
          refine m_iload_n (pc := 109) C dX8_account_109 rfl (lv_at hl 1 rfl) ?_
          obtain ⟨a10, ea10, h⟩ := nm_some h
          have ra10 : R32 a10 := by rw [ea10]; exact w32_R _
          refine m_iadd (pc := 110) C dX8_account_110 ea10 ?_
          obtain ⟨q11, h⟩ := ck_some h
          have gq11 := Ar_lald hM q11.1 q11.2.1 q11.2.2
          refine m_lald (pc := 111) C hM q11.1 q11.2.1 q11.2.2 dX8_account_111 ?_
          obtain ⟨a12, ea12, h⟩ := nm_some h
          have ra12 : R64 a12 := by rw [ea12]; exact w64_R _
          refine m_ladd (pc := 112) C dX8_account_112 ea12 ?_
          refine m_lstore_n (pc := 113) C dX8_account_113 rfl hl (by decide) (lvK1 0 rfl (Nat.ne_of_beq_eq_false rfl) (Nat.ne_of_beq_eq_false rfl) (lvK2 1 rfl (Nat.ne_of_beq_eq_false rfl) rfl (lvK1 3 rfl (Nat.ne_of_beq_eq_false rfl) (Nat.ne_of_beq_eq_false rfl) lvK0))) (lvN1 (Nat.ne_of_beq_eq_false rfl) (lvN1 (Nat.ne_of_beq_eq_false rfl) (lvN1 (Nat.ne_of_beq_eq_false rfl) lvN0))) (fun ls hl => ?_)
          obtain ⟨a13, ea13, h⟩ := nm_some h
          have ra13 : R32 a13 := by rw [ea13]; exact w32_R _
          refine m_iinc (k := 3) (pc := 114) C dX8_account_114 hl rfl (by decide) ea13 (lvK1 0 rfl (Nat.ne_of_beq_eq_false rfl) (Nat.ne_of_beq_eq_false rfl) (lvK1 1 rfl (Nat.ne_of_beq_eq_false rfl) (Nat.ne_of_beq_eq_false rfl) (lvK1 2 rfl (Nat.ne_of_beq_eq_false rfl) (Nat.ne_of_beq_eq_false rfl) lvK0))) (fun ls hl => ?_)
          refine m_goto (tgt := 49) (pc := 117) C dX8_account_117 (by decide) ?_
          exact ih _ _ _ _ _ h rx1 ra12 ra13 _ _ _ hM (lv_sub hl [2, 3, 1, 0] rfl)
        · have h := if_f h c5
          refine m_aload_n (pc := 88) C dX8_account_88 rfl (lv_at hl 0 rfl) ?_
          refine m_iload (pc := 89) C dX8_account_89 (lv_at hl 3 rfl) ?_
          obtain ⟨q14, h⟩ := ck_some h
          obtain ⟨a15, μ16, ca15, h⟩ := bd_some h
          refine V_X8_suspended (pc := 91) C hM ca15 rx4 q14 bw_5_90 ⟨Nat.le_of_ble_eq_true rfl, Nat.le_of_ble_eq_true rfl⟩ hl.1 (rcL rc0) ⟨Nat.le_refl _, Nat.le_refl _⟩ dX8_account_91 (fun ra15 H locs hM => ?_)
          refine m_goto (tgt := 112) (pc := 94) C dX8_account_94 (by decide) ?_
          obtain ⟨a17, ea17, h⟩ := nm_some h
          have ra17 : R64 a17 := by rw [ea17]; exact w64_R _
          refine m_ladd (pc := 112) C dX8_account_112 ea17 ?_
          refine m_lstore_n (pc := 113) C dX8_account_113 rfl hl (by decide) (lvK1 0 rfl (Nat.ne_of_beq_eq_false rfl) (Nat.ne_of_beq_eq_false rfl) (lvK2 1 rfl (Nat.ne_of_beq_eq_false rfl) rfl (lvK1 3 rfl (Nat.ne_of_beq_eq_false rfl) (Nat.ne_of_beq_eq_false rfl) lvK0))) (lvN1 (Nat.ne_of_beq_eq_false rfl) (lvN1 (Nat.ne_of_beq_eq_false rfl) (lvN1 (Nat.ne_of_beq_eq_false rfl) lvN0))) (fun ls hl => ?_)
          obtain ⟨a18, ea18, h⟩ := nm_some h
          have ra18 : R32 a18 := by rw [ea18]; exact w32_R _
          refine m_iinc (k := 3) (pc := 114) C dX8_account_114 hl rfl (by decide) ea18 (lvK1 0 rfl (Nat.ne_of_beq_eq_false rfl) (Nat.ne_of_beq_eq_false rfl) (lvK1 1 rfl (Nat.ne_of_beq_eq_false rfl) (Nat.ne_of_beq_eq_false rfl) (lvK1 2 rfl (Nat.ne_of_beq_eq_false rfl) (Nat.ne_of_beq_eq_false rfl) lvK0))) (fun ls hl => ?_)
          refine m_goto (tgt := 49) (pc := 117) C dX8_account_117 (by decide) ?_
          exact ih _ _ _ _ _ h rx1 ra17 ra18 _ _ _ hM (lv_sub hl [2, 3, 1, 0] rfl)
      · have h := if_f h c4
        refine m_aload_n (pc := 67) C dX8_account_67 rfl (lv_at hl 0 rfl) ?_
        obtain ⟨q19, h⟩ := ck_some h
        refine G_X8_now (pc := 68) C hM bw_4_227 q19 dX8_account_68 ?_
        refine m_iload (pc := 71) C dX8_account_71 (lv_at hl 3 rfl) ?_
        obtain ⟨a20, μ21, ca20, h⟩ := bd_some h
        refine V_X8_lotAt (pc := 73) C hM ca20 rx4 bw_5_87 ⟨Nat.le_of_ble_eq_true rfl, Nat.le_of_ble_eq_true rfl⟩ hl.1 (rcR (rcL rc0)) ⟨Nat.le_refl _, Nat.le_refl _⟩ dX8_account_73 (fun ra20 H locs hM => ?_)
        refine m_bipush (pc := 76) C dX8_account_76 rfl ?_
        obtain ⟨a22, ea22, h⟩ := nm_some h
        have ra22 : R32 a22 := by rw [ea22]; exact w32_R _
        refine m_iadd (pc := 78) C dX8_account_78 ea22 ?_
        obtain ⟨q23, h⟩ := ck_some h
        have gq23 := Ar_lald hM q23.1 q23.2.1 q23.2.2
        refine m_lald (pc := 79) C hM q23.1 q23.2.1 q23.2.2 dX8_account_79 ?_
        refine m_goto (tgt := 112) (pc := 80) C dX8_account_80 (by decide) ?_
        obtain ⟨a24, ea24, h⟩ := nm_some h
        have ra24 : R64 a24 := by rw [ea24]; exact w64_R _
        refine m_ladd (pc := 112) C dX8_account_112 ea24 ?_
        refine m_lstore_n (pc := 113) C dX8_account_113 rfl hl (by decide) (lvK1 0 rfl (Nat.ne_of_beq_eq_false rfl) (Nat.ne_of_beq_eq_false rfl) (lvK2 1 rfl (Nat.ne_of_beq_eq_false rfl) rfl (lvK1 3 rfl (Nat.ne_of_beq_eq_false rfl) (Nat.ne_of_beq_eq_false rfl) lvK0))) (lvN1 (Nat.ne_of_beq_eq_false rfl) (lvN1 (Nat.ne_of_beq_eq_false rfl) (lvN1 (Nat.ne_of_beq_eq_false rfl) lvN0))) (fun ls hl => ?_)
        obtain ⟨a25, ea25, h⟩ := nm_some h
        have ra25 : R32 a25 := by rw [ea25]; exact w32_R _
        refine m_iinc (k := 3) (pc := 114) C dX8_account_114 hl rfl (by decide) ea25 (lvK1 0 rfl (Nat.ne_of_beq_eq_false rfl) (Nat.ne_of_beq_eq_false rfl) (lvK1 1 rfl (Nat.ne_of_beq_eq_false rfl) (Nat.ne_of_beq_eq_false rfl) (lvK1 2 rfl (Nat.ne_of_beq_eq_false rfl) (Nat.ne_of_beq_eq_false rfl) lvK0))) (fun ls hl => ?_)
        refine m_goto (tgt := 49) (pc := 117) C dX8_account_117 (by decide) ?_
        exact ih _ _ _ _ _ h rx1 ra24 ra25 _ _ _ hM (lv_sub hl [2, 3, 1, 0] rfl)
set_option maxHeartbeats 4000000 in
set_option maxRecDepth 100000 in
theorem c_X8_account (l : Launch) (E : gE) (N : Nat) (x0 x1 : Int) (μ μ' : Mm) (r : Int) (h : f_X8_account N x0 x1 μ = some (r, μ')) (rx1 : R32 x1) : gMet l E yX8_account cX8_account 5 (some .long) 4 93 [vr E x0, vi x1] (some (vl r)) (R64 r) μ μ' 0 0 := by
  refine g_ofW [1, 1] (by first | (simp only [List.map_cons, List.map_nil, vr_cat]; done) | (simp only [List.map_cons, List.map_nil, vr_cat]; rfl)) (by decide) (by decide) (fun p e s m below meth c ls C hM hl => ?_)
  replace C : gCx p s m _ meth c cX8_account 5 (some .long) "account" RX8 := C
  replace hl : lv_has ls 5 [(0, vr E x0), (1, vi x1)] := hl
  unfold f_X8_account at h
  refine m_iload_n (pc := 0) C dX8_account_0 rfl (lv_at hl 1 rfl) ?_
  refine m_iconst (pc := 1) C dX8_account_1 ?_
  refine m_icmp_eq (tgt := 16) (pc := 2) C rx1 rk_4 dX8_account_2 (by decide) (fun c1 => ?_) (fun c1 => ?_)
  · have h := if_t h c1
    exact k_X8_account_b16 C N _ _ _ h rx1 _ _ _ hM (lv_sub hl [0, 1] rfl)
  · have h := if_f h c1
    refine m_iload_n (pc := 5) C dX8_account_5 rfl (lv_at hl 1 rfl) ?_
    refine m_iconst (pc := 6) C dX8_account_6 ?_
    refine m_icmp_eq (tgt := 16) (pc := 7) C rx1 rk_5 dX8_account_7 (by decide) (fun c2 => ?_) (fun c2 => ?_)
    · have h := if_t h c2
      exact k_X8_account_b16 C N _ _ _ h rx1 _ _ _ hM (lv_sub hl [0, 1] rfl)
    · have h := if_f h c2
      refine m_iload_n (pc := 10) C dX8_account_10 rfl (lv_at hl 1 rfl) ?_
      refine m_bipush (pc := 11) C dX8_account_11 rfl ?_
      refine m_icmp_ne (tgt := 28) (pc := 13) C rx1 rk_6 dX8_account_13 (by decide) (fun c3 => ?_) (fun c3 => ?_)
      · have h := if_t h c3
        refine m_iload_n (pc := 28) C dX8_account_28 rfl (lv_at hl 1 rfl) ?_
        refine m_i2l (pc := 29) C rx1 dX8_account_29 ?_
        refine m_lconst (v := 0) (pc := 30) C dX8_account_30 rfl ?_
        refine m_ldc2 (n := 3) (pc := 31) C bw_6_149 rfl dX8_account_31 ?_
        obtain ⟨a4, μ5, ca4, h⟩ := bd_some h
        refine V_X8_in (pc := 34) C hM ca4 (R32.to64 rx1) rl_0 rl_3 bw_5_43 ⟨Nat.le_of_ble_eq_true rfl, Nat.le_of_ble_eq_true rfl⟩ hl.1 rc0 ⟨Nat.le_refl _, Nat.le_refl _⟩ dX8_account_34 (fun ra4 H locs hM => ?_)
        refine m_if_ne (tgt := 44) (pc := 37) C ra4 dX8_account_37 (by decide) (fun c6 => ?_) (fun c6 => ?_)
        · have h := if_t h c6
          refine m_lconst (v := 0) (pc := 44) C dX8_account_44 rfl ?_
          refine m_lstore_n (pc := 45) C dX8_account_45 rfl hl (by decide) (lvK1 0 rfl (Nat.ne_of_beq_eq_false rfl) (Nat.ne_of_beq_eq_false rfl) (lvK2 1 rfl (Nat.ne_of_beq_eq_false rfl) rfl lvK0)) (lvN1 (Nat.ne_of_beq_eq_false rfl) (lvN1 (Nat.ne_of_beq_eq_false rfl) lvN0)) (fun ls hl => ?_)
          refine m_iconst (pc := 46) C dX8_account_46 ?_
          refine m_istore (pc := 47) C dX8_account_47 hl (by decide) (lvK1 0 rfl (Nat.ne_of_beq_eq_false rfl) (Nat.ne_of_beq_eq_false rfl) (lvK1 1 rfl (Nat.ne_of_beq_eq_false rfl) (Nat.ne_of_beq_eq_false rfl) (lvK1 2 rfl (Nat.ne_of_beq_eq_false rfl) (Nat.ne_of_beq_eq_false rfl) lvK0))) (fun ls hl => ?_)
          exact k_X8_account_b49 C N N _ _ _ _ _ h rx1 rl_0 rk_0 _ _ _ hM (lv_sub hl [2, 3, 1, 0] rfl)
        · have h := if_f h c6
          refine m_ldc2 (n := -100000002) (pc := 40) C bw_6_96 rfl dX8_account_40 ?_
          cases h
          exact m_lret (pc := 43) C hM rl_m100000002 dX8_account_43
      · have h := if_f h c3
        exact k_X8_account_b16 C N _ _ _ h rx1 _ _ _ hM (lv_sub hl [0, 1] rfl)
theorem hd_X8_account : yX8_account.cls ≠ "java/lang/invoke/MethodHandle" ∧ yX8_account.cls ≠ "java/lang/invoke/VarHandle" ∧ (parseMethodDescriptor yX8_account.desc).map (fun d => d.parameters.length) = some 1 := by decide +kernel

theorem V_X8_account {p : Program} {l : Launch} {e : Env} {R : Room} {s : State} {m : MethodId} {args : Array Value} {below : List Frame} {meth : Method} {c : Code} {H : Heap} {locs : List Loc} {cells slots : Nat} {Q : State → Prop} {cc : ByteArray} {pc nL : Nat} {ls : Array Slot} {rest : List Value} {ret : Option FieldType} {nmm own : String} {E : gE} {μ μ1 : Mm} {index : Nat} (C : gCx p s m args meth c cc nL ret nmm own) (hM : MS E μ s H locs) {N : Nat} {x0 x1 v : Int} (hc : f_X8_account N x0 x1 μ = some (v, μ1)) (rx1 : R32 x1) (hck : μ x0 (-2) = 10) (h1 : Cond.methodLink own index yX8_account ∈ bigL) (hR : 5 ≤ R.frames ∧ 117 ≤ R.locals) (hl : ls.size = nL) (hcat : RC rest 8) (hf : cells + 0 ≤ R.cells ∧ slots + 0 ≤ R.slots) (hdg : decode cc pc = .ok (.invokevirtual index, 3)) (kk : (R64 v) → ∀ (H1 : Heap) (locs1 : List Loc), MS E μ1 s H1 locs1 → W p l e R s m args below meth c H1 locs1 (cells + 0) (slots + 0) Q (F0 m (pc + 3) ls (vl v :: rest))) : W p l e R s m args below meth c H locs cells slots Q (F0 m pc ls (vi x1 :: vr E x0 :: rest)) := g_callV C KF_X8 hM (c_X8_account l E N x0 x1 μ μ1 v hc rx1) hck (gV h1 bw_6_146 bw_6_147 bw_1_13 bw_6_148) ⟨rfl, hd_X8_account⟩ hR rfl hl rfl hcat hf hdg kk
/-! X8_count -/
def f_X8_count_b88 (N : Nat) (x2 : Int) (μ : Mm) : Rs :=
  some (x2, μ)
def f_X8_count_b90 (N : Nat) (x0 : Int) (μ : Mm) : Rs :=
  ck (μ x0 (-2) = 10) <|
  bd (f_X8_number N x0 4 μ) fun a2 μ3 =>
  some (a2, μ3)
def f_X8_count_b106 (N : Nat) (x0 x1 : Int) (μ : Mm) : Rs :=
  bd (f_X8_in N x1 0 3 μ) fun a1 μ2 =>
  if a1 = 0 then
    (bd (f_X8_in N x1 6 10 μ2) fun a4 μ5 =>
     if a4 = 0 then
       (some ((-100000002), μ5))
     else
     nm (w32 (x1 - 1)) fun a7 =>
     ck (μ5 x0 (-2) = 10) <|
     bd (f_X8_number N x0 a7 μ5) fun a9 μ10 =>
     some (a9, μ10))
  else
  ck (μ2 x0 (-2) = 10) <|
  bd (f_X8_number N x0 x1 μ2) fun a12 μ13 =>
  some (a12, μ13)
def f_X8_count_b96 (N : Nat) (x0 : Int) (μ : Mm) : Rs :=
  ck (μ x0 (-2) = 10) <|
  some (μ x0 5, μ)
def f_X8_count_b101 (N : Nat) (x0 : Int) (μ : Mm) : Rs :=
  ck (μ x0 (-2) = 10) <|
  some (μ x0 2, μ)
def f_X8_count_b4 (N : Nat) : Nat → Int → Int → Int → Int → Mm → Rs
  | 0, _, _, _, _, _ => none
  | n + 1, x0, x1, x2, x3, μ =>
    ck (μ x0 (-2) = 10) <|
    ck (μ (μ x0 0) (-2) = 24 ∧ (0 : Int) ≤ 3 ∧ 3 < μ (μ x0 0) (-1)) <|
    if (μ (μ x0 0) 3) ≤ x3 then
      (if x1 = 4 then
         (f_X8_count_b88 N x2 μ)
       else
       if x1 = 5 then
         (f_X8_count_b90 N x0 μ)
       else
       if x1 = 6 then
         (f_X8_count_b106 N x0 x1 μ)
       else
       if x1 = 7 then
         (f_X8_count_b106 N x0 x1 μ)
       else
       if x1 = 8 then
         (f_X8_count_b106 N x0 x1 μ)
       else
       if x1 = 9 then
         (f_X8_count_b106 N x0 x1 μ)
       else
       if x1 = 10 then
         (f_X8_count_b106 N x0 x1 μ)
       else
       if x1 = 11 then
         (f_X8_count_b96 N x0 μ)
       else
       if x1 = 12 then
         (f_X8_count_b101 N x0 μ)
       else
       f_X8_count_b106 N x0 x1 μ)
    else
    ck (μ x0 (-2) = 10) <|
    bd (f_X8_waits N x0 x3 μ) fun a14 μ15 =>
    if a14 = 0 then
      (nm (w32 (x2 + 0)) fun a17 =>
       nm (w32 (x3 + 1)) fun a18 =>
       f_X8_count_b4 N n x0 x1 a17 a18 μ15)
    else
    nm (w32 (x2 + 1)) fun a19 =>
    nm (w32 (x3 + 1)) fun a20 =>
    f_X8_count_b4 N n x0 x1 a19 a20 μ15
def f_X8_count (N : Nat) (x0 x1 : Int) (μ : Mm) : Rs :=
  f_X8_count_b4 N N x0 x1 0 0 μ
set_option maxHeartbeats 4000000 in
set_option maxRecDepth 100000 in
theorem k_X8_count_b88 (C : gCx p s m args meth c cX8_count 4 (some .int) "count" RX8) (N : Nat) {r : Int} {μ' : Mm} : ∀ (x2 : Int) (μ : Mm), f_X8_count_b88 N x2 μ = some (r, μ') → R32 x2 → ∀ (H : Heap) (locs : List Loc) (ls : Array Slot), MS E μ s H locs → lv_has ls 4 [(2, vi x2)] → W p l e ({ frames := 2, cells := 0, slots := 0, locals := 41 } : Room) s m args below meth c H locs 0 0 (MQ below (gQ E (some (vi r)) (R32 r) μ') args s 0 0 (gA E)) (F0 m 88 ls []) := by
  intro x2 μ h rx2 H locs ls hM hl
  unfold f_X8_count_b88 at h
  refine m_iload_n (pc := 88) C dX8_count_88 rfl (lv_at hl 0 rfl) ?_
  cases h
  exact m_iret (pc := 89) C hM rx2 dX8_count_89
set_option maxHeartbeats 4000000 in
set_option maxRecDepth 100000 in
theorem k_X8_count_b90 (C : gCx p s m args meth c cX8_count 4 (some .int) "count" RX8) (N : Nat) {r : Int} {μ' : Mm} : ∀ (x0 : Int) (μ : Mm), f_X8_count_b90 N x0 μ = some (r, μ') → ∀ (H : Heap) (locs : List Loc) (ls : Array Slot), MS E μ s H locs → lv_has ls 4 [(0, vr E x0)] → W p l e ({ frames := 2, cells := 0, slots := 0, locals := 41 } : Room) s m args below meth c H locs 0 0 (MQ below (gQ E (some (vi r)) (R32 r) μ') args s 0 0 (gA E)) (F0 m 90 ls []) := by
  intro x0 μ h H locs ls hM hl
  unfold f_X8_count_b90 at h
  refine m_aload_n (pc := 90) C dX8_count_90 rfl (lv_at hl 0 rfl) ?_
  refine m_iconst (pc := 91) C dX8_count_91 ?_
  obtain ⟨q1, h⟩ := ck_some h
  obtain ⟨a2, μ3, ca2, h⟩ := bd_some h
  refine V_X8_number (pc := 92) C hM ca2 rk_4 q1 bw_5_47 ⟨Nat.le_of_ble_eq_true rfl, Nat.le_of_ble_eq_true rfl⟩ hl.1 rc0 ⟨Nat.le_refl _, Nat.le_refl _⟩ dX8_count_92 (fun ra2 H locs hM => ?_)
  cases h
  exact m_iret (pc := 95) C hM ra2 dX8_count_95
set_option maxHeartbeats 4000000 in
set_option maxRecDepth 100000 in
theorem k_X8_count_b106 (C : gCx p s m args meth c cX8_count 4 (some .int) "count" RX8) (N : Nat) {r : Int} {μ' : Mm} : ∀ (x0 x1 : Int) (μ : Mm), f_X8_count_b106 N x0 x1 μ = some (r, μ') → R32 x1 → ∀ (H : Heap) (locs : List Loc) (ls : Array Slot), MS E μ s H locs → lv_has ls 4 [(0, vr E x0), (1, vi x1)] → W p l e ({ frames := 2, cells := 0, slots := 0, locals := 41 } : Room) s m args below meth c H locs 0 0 (MQ below (gQ E (some (vi r)) (R32 r) μ') args s 0 0 (gA E)) (F0 m 106 ls []) := by
  intro x0 x1 μ h rx1 H locs ls hM hl
  unfold f_X8_count_b106 at h
  refine m_iload_n (pc := 106) C dX8_count_106 rfl (lv_at hl 1 rfl) ?_
  refine m_i2l (pc := 107) C rx1 dX8_count_107 ?_
  refine m_lconst (v := 0) (pc := 108) C dX8_count_108 rfl ?_
  refine m_ldc2 (n := 3) (pc := 109) C bw_6_149 rfl dX8_count_109 ?_
  obtain ⟨a1, μ2, ca1, h⟩ := bd_some h
  refine V_X8_in (pc := 112) C hM ca1 (R32.to64 rx1) rl_0 rl_3 bw_5_43 ⟨Nat.le_of_ble_eq_true rfl, Nat.le_of_ble_eq_true rfl⟩ hl.1 rc0 ⟨Nat.le_refl _, Nat.le_refl _⟩ dX8_count_112 (fun ra1 H locs hM => ?_)
  refine m_if_eq (tgt := 126) (pc := 115) C ra1 dX8_count_115 (by decide) (fun c3 => ?_) (fun c3 => ?_)
  · have h := if_t h c3
    refine m_iload_n (pc := 126) C dX8_count_126 rfl (lv_at hl 1 rfl) ?_
    refine m_i2l (pc := 127) C rx1 dX8_count_127 ?_
    refine m_ldc2 (n := 6) (pc := 128) C bw_6_101 rfl dX8_count_128 ?_
    refine m_ldc2 (n := 10) (pc := 131) C bw_4_226 rfl dX8_count_131 ?_
    obtain ⟨a4, μ5, ca4, h⟩ := bd_some h
    refine V_X8_in (pc := 134) C hM ca4 (R32.to64 rx1) rl_6 rl_10 bw_5_43 ⟨Nat.le_of_ble_eq_true rfl, Nat.le_of_ble_eq_true rfl⟩ hl.1 rc0 ⟨Nat.le_refl _, Nat.le_refl _⟩ dX8_count_134 (fun ra4 H locs hM => ?_)
    refine m_if_eq (tgt := 150) (pc := 137) C ra4 dX8_count_137 (by decide) (fun c6 => ?_) (fun c6 => ?_)
    · have h := if_t h c6
      refine m_ldc (n := -100000002) (pc := 150) C bw_5_77 rfl dX8_count_150 ?_
      cases h
      exact m_iret (pc := 152) C hM rk_m100000002 dX8_count_152
    · have h := if_f h c6
      refine m_aload_n (pc := 140) C dX8_count_140 rfl (lv_at hl 0 rfl) ?_
      refine m_iload_n (pc := 141) C dX8_count_141 rfl (lv_at hl 1 rfl) ?_
      refine m_iconst (pc := 142) C dX8_count_142 ?_
      obtain ⟨a7, ea7, h⟩ := nm_some h
      have ra7 : R32 a7 := by rw [ea7]; exact w32_R _
      refine m_isub (pc := 143) C dX8_count_143 ea7 ?_
      obtain ⟨q8, h⟩ := ck_some h
      obtain ⟨a9, μ10, ca9, h⟩ := bd_some h
      refine V_X8_number (pc := 144) C hM ca9 ra7 q8 bw_5_47 ⟨Nat.le_of_ble_eq_true rfl, Nat.le_of_ble_eq_true rfl⟩ hl.1 rc0 ⟨Nat.le_refl _, Nat.le_refl _⟩ dX8_count_144 (fun ra9 H locs hM => ?_)
      refine m_goto (tgt := 152) (pc := 147) C dX8_count_147 (by decide) ?_
      cases h
      exact m_iret (pc := 152) C hM ra9 dX8_count_152
  · have h := if_f h c3
    refine m_aload_n (pc := 118) C dX8_count_118 rfl (lv_at hl 0 rfl) ?_
    refine m_iload_n (pc := 119) C dX8_count_119 rfl (lv_at hl 1 rfl) ?_
    obtain ⟨q11, h⟩ := ck_some h
    obtain ⟨a12, μ13, ca12, h⟩ := bd_some h
    refine V_X8_number (pc := 120) C hM ca12 rx1 q11 bw_5_47 ⟨Nat.le_of_ble_eq_true rfl, Nat.le_of_ble_eq_true rfl⟩ hl.1 rc0 ⟨Nat.le_refl _, Nat.le_refl _⟩ dX8_count_120 (fun ra12 H locs hM => ?_)
    refine m_goto (tgt := 152) (pc := 123) C dX8_count_123 (by decide) ?_
    cases h
    exact m_iret (pc := 152) C hM ra12 dX8_count_152
set_option maxHeartbeats 4000000 in
set_option maxRecDepth 100000 in
theorem k_X8_count_b96 (C : gCx p s m args meth c cX8_count 4 (some .int) "count" RX8) (N : Nat) {r : Int} {μ' : Mm} : ∀ (x0 : Int) (μ : Mm), f_X8_count_b96 N x0 μ = some (r, μ') → ∀ (H : Heap) (locs : List Loc) (ls : Array Slot), MS E μ s H locs → lv_has ls 4 [(0, vr E x0)] → W p l e ({ frames := 2, cells := 0, slots := 0, locals := 41 } : Room) s m args below meth c H locs 0 0 (MQ below (gQ E (some (vi r)) (R32 r) μ') args s 0 0 (gA E)) (F0 m 96 ls []) := by
  intro x0 μ h H locs ls hM hl
  unfold f_X8_count_b96 at h
  refine m_aload_n (pc := 96) C dX8_count_96 rfl (lv_at hl 0 rfl) ?_
  obtain ⟨q1, h⟩ := ck_some h
  have gq1 := Gr_X8_reason hM q1
  refine G_X8_reason (pc := 97) C hM bw_4_232 q1 dX8_count_97 ?_
  cases h
  exact m_iret (pc := 100) C hM gq1 dX8_count_100
set_option maxHeartbeats 4000000 in
set_option maxRecDepth 100000 in
theorem k_X8_count_b101 (C : gCx p s m args meth c cX8_count 4 (some .int) "count" RX8) (N : Nat) {r : Int} {μ' : Mm} : ∀ (x0 : Int) (μ : Mm), f_X8_count_b101 N x0 μ = some (r, μ') → ∀ (H : Heap) (locs : List Loc) (ls : Array Slot), MS E μ s H locs → lv_has ls 4 [(0, vr E x0)] → W p l e ({ frames := 2, cells := 0, slots := 0, locals := 41 } : Room) s m args below meth c H locs 0 0 (MQ below (gQ E (some (vi r)) (R32 r) μ') args s 0 0 (gA E)) (F0 m 101 ls []) := by
  intro x0 μ h H locs ls hM hl
  unfold f_X8_count_b101 at h
  refine m_aload_n (pc := 101) C dX8_count_101 rfl (lv_at hl 0 rfl) ?_
  obtain ⟨q1, h⟩ := ck_some h
  have gq1 := Gr_X8_kept hM q1
  refine G_X8_kept (pc := 102) C hM bw_4_229 q1 dX8_count_102 ?_
  cases h
  exact m_iret (pc := 105) C hM gq1 dX8_count_105
set_option maxHeartbeats 4000000 in
set_option maxRecDepth 100000 in
theorem k_X8_count_b4 (C : gCx p s m args meth c cX8_count 4 (some .int) "count" RX8) (N : Nat) {r : Int} {μ' : Mm} : ∀ (n : Nat), ∀ (x0 x1 x2 x3 : Int) (μ : Mm), f_X8_count_b4 N n x0 x1 x2 x3 μ = some (r, μ') → R32 x1 → R32 x2 → R32 x3 → ∀ (H : Heap) (locs : List Loc) (ls : Array Slot), MS E μ s H locs → lv_has ls 4 [(0, vr E x0), (1, vi x1), (2, vi x2), (3, vi x3)] → W p l e ({ frames := 2, cells := 0, slots := 0, locals := 41 } : Room) s m args below meth c H locs 0 0 (MQ below (gQ E (some (vi r)) (R32 r) μ') args s 0 0 (gA E)) (F0 m 4 ls []) := by
  intro n
  induction n with
  | zero => intro x0 x1 x2 x3 μ h; simp [f_X8_count_b4] at h
  | succ n ih =>
    intro x0 x1 x2 x3 μ h rx1 rx2 rx3 H locs ls hM hl
    rw [f_X8_count_b4] at h
    refine m_iload_n (pc := 4) C dX8_count_4 rfl (lv_at hl 3 rfl) ?_
    refine m_i2l (pc := 5) C rx3 dX8_count_5 ?_
    refine m_aload_n (pc := 6) C dX8_count_6 rfl (lv_at hl 0 rfl) ?_
    obtain ⟨q1, h⟩ := ck_some h
    refine G_X8_now (pc := 7) C hM bw_4_227 q1 dX8_count_7 ?_
    refine m_iconst (pc := 10) C dX8_count_10 ?_
    obtain ⟨q2, h⟩ := ck_some h
    have gq2 := Ar_lald hM q2.1 q2.2.1 q2.2.2
    refine m_lald (pc := 11) C hM q2.1 q2.2.1 q2.2.2 dX8_count_11 ?_
    refine m_lcmp_ge (tgt := 38) (pc := 12) C (R32.to64 rx3) gq2 dX8_count_12 dX8_count_13 (by decide) (fun c3 => ?_) (fun c3 => ?_)
    · have h := if_t h c3
      refine m_iload_n (pc := 38) C dX8_count_38 rfl (lv_at hl 1 rfl) ?_
      by_cases c4 : x1 = 4
      · have h := if_t h c4
        refine m_tab (pc := 39) (tgt := 88) C rx1 c4 dX8_count_39 (by decide) (by decide) rfl (by decide) ?_
        exact k_X8_count_b88 C N _ _ h rx2 _ _ _ hM (lv_sub hl [2] rfl)
      replace h := if_f h c4
      by_cases c5 : x1 = 5
      · have h := if_t h c5
        refine m_tab (pc := 39) (tgt := 90) C rx1 c5 dX8_count_39 (by decide) (by decide) rfl (by decide) ?_
        exact k_X8_count_b90 C N _ _ h _ _ _ hM (lv_sub hl [0] rfl)
      replace h := if_f h c5
      by_cases c6 : x1 = 6
      · have h := if_t h c6
        refine m_tab (pc := 39) (tgt := 106) C rx1 c6 dX8_count_39 (by decide) (by decide) rfl (by decide) ?_
        exact k_X8_count_b106 C N _ _ _ h rx1 _ _ _ hM (lv_sub hl [0, 1] rfl)
      replace h := if_f h c6
      by_cases c7 : x1 = 7
      · have h := if_t h c7
        refine m_tab (pc := 39) (tgt := 106) C rx1 c7 dX8_count_39 (by decide) (by decide) rfl (by decide) ?_
        exact k_X8_count_b106 C N _ _ _ h rx1 _ _ _ hM (lv_sub hl [0, 1] rfl)
      replace h := if_f h c7
      by_cases c8 : x1 = 8
      · have h := if_t h c8
        refine m_tab (pc := 39) (tgt := 106) C rx1 c8 dX8_count_39 (by decide) (by decide) rfl (by decide) ?_
        exact k_X8_count_b106 C N _ _ _ h rx1 _ _ _ hM (lv_sub hl [0, 1] rfl)
      replace h := if_f h c8
      by_cases c9 : x1 = 9
      · have h := if_t h c9
        refine m_tab (pc := 39) (tgt := 106) C rx1 c9 dX8_count_39 (by decide) (by decide) rfl (by decide) ?_
        exact k_X8_count_b106 C N _ _ _ h rx1 _ _ _ hM (lv_sub hl [0, 1] rfl)
      replace h := if_f h c9
      by_cases c10 : x1 = 10
      · have h := if_t h c10
        refine m_tab (pc := 39) (tgt := 106) C rx1 c10 dX8_count_39 (by decide) (by decide) rfl (by decide) ?_
        exact k_X8_count_b106 C N _ _ _ h rx1 _ _ _ hM (lv_sub hl [0, 1] rfl)
      replace h := if_f h c10
      by_cases c11 : x1 = 11
      · have h := if_t h c11
        refine m_tab (pc := 39) (tgt := 96) C rx1 c11 dX8_count_39 (by decide) (by decide) rfl (by decide) ?_
        exact k_X8_count_b96 C N _ _ h _ _ _ hM (lv_sub hl [0] rfl)
      replace h := if_f h c11
      by_cases c12 : x1 = 12
      · have h := if_t h c12
        refine m_tab (pc := 39) (tgt := 101) C rx1 c12 dX8_count_39 (by decide) (by decide) rfl (by decide) ?_
        exact k_X8_count_b101 C N _ _ h _ _ _ hM (lv_sub hl [0] rfl)
      replace h := if_f h c12
      refine m_tabD (pc := 39) (tgt := 106) C rx1 dX8_count_39 (by omega) (by decide) ?_
      exact k_X8_count_b106 C N _ _ _ h rx1 _ _ _ hM (lv_sub hl [0, 1] rfl)
    · have h := if_f h c3
      refine m_iload_n (pc := 16) C dX8_count_16 rfl (lv_at hl 2 rfl) ?_
      refine m_aload_n (pc := 17) C dX8_count_17 rfl (lv_at hl 0 rfl) ?_
      refine m_iload_n (pc := 18) C dX8_count_18 rfl (lv_at hl 3 rfl) ?_
      obtain ⟨q13, h⟩ := ck_some h
      obtain ⟨a14, μ15, ca14, h⟩ := bd_some h
      refine V_X8_waits (pc := 19) C hM ca14 rx3 q13 bw_5_110 ⟨Nat.le_of_ble_eq_true rfl, Nat.le_of_ble_eq_true rfl⟩ hl.1 (rcI rc0) ⟨Nat.le_refl _, Nat.le_refl _⟩ dX8_count_19 (fun ra14 H locs hM => ?_)
      refine m_if_eq (tgt := 29) (pc := 22) C ra14 dX8_count_22 (by decide) (fun c16 => ?_) (fun c16 => ?_)
      · have h := if_t h c16
        refine m_iconst (pc := 29) C dX8_count_29 ?_
        obtain ⟨a17, ea17, h⟩ := nm_some h
        have ra17 : R32 a17 := by rw [ea17]; exact w32_R _
        refine m_iadd (pc := 30) C dX8_count_30 ea17 ?_
        refine m_istore_n (pc := 31) C dX8_count_31 rfl hl (by decide) (lvK1 0 rfl (Nat.ne_of_beq_eq_false rfl) (Nat.ne_of_beq_eq_false rfl) (lvK2 1 rfl (Nat.ne_of_beq_eq_false rfl) rfl (lvK1 3 rfl (Nat.ne_of_beq_eq_false rfl) (Nat.ne_of_beq_eq_false rfl) lvK0))) (fun ls hl => ?_)
        obtain ⟨a18, ea18, h⟩ := nm_some h
        have ra18 : R32 a18 := by rw [ea18]; exact w32_R _
        refine m_iinc (k := 3) (pc := 32) C dX8_count_32 hl rfl (by decide) ea18 (lvK2 0 rfl (Nat.ne_of_beq_eq_false rfl) rfl (lvK1 1 rfl (Nat.ne_of_beq_eq_false rfl) (Nat.ne_of_beq_eq_false rfl) (lvK1 2 rfl (Nat.ne_of_beq_eq_false rfl) (Nat.ne_of_beq_eq_false rfl) lvK0))) (fun ls hl => ?_)
        refine m_goto (tgt := 4) (pc := 35) C dX8_count_35 (by decide) ?_
        exact ih _ _ _ _ _ h rx1 ra17 ra18 _ _ _ hM (lv_sub hl [2, 3, 1, 0] rfl)
      · have h := if_f h c16
        refine m_iconst (pc := 25) C dX8_count_25 ?_
        refine m_goto (tgt := 30) (pc := 26) C dX8_count_26 (by decide) ?_
        obtain ⟨a19, ea19, h⟩ := nm_some h
        have ra19 : R32 a19 := by rw [ea19]; exact w32_R _
        refine m_iadd (pc := 30) C dX8_count_30 ea19 ?_
        refine m_istore_n (pc := 31) C dX8_count_31 rfl hl (by decide) (lvK1 0 rfl (Nat.ne_of_beq_eq_false rfl) (Nat.ne_of_beq_eq_false rfl) (lvK2 1 rfl (Nat.ne_of_beq_eq_false rfl) rfl (lvK1 3 rfl (Nat.ne_of_beq_eq_false rfl) (Nat.ne_of_beq_eq_false rfl) lvK0))) (fun ls hl => ?_)
        obtain ⟨a20, ea20, h⟩ := nm_some h
        have ra20 : R32 a20 := by rw [ea20]; exact w32_R _
        refine m_iinc (k := 3) (pc := 32) C dX8_count_32 hl rfl (by decide) ea20 (lvK2 0 rfl (Nat.ne_of_beq_eq_false rfl) rfl (lvK1 1 rfl (Nat.ne_of_beq_eq_false rfl) (Nat.ne_of_beq_eq_false rfl) (lvK1 2 rfl (Nat.ne_of_beq_eq_false rfl) (Nat.ne_of_beq_eq_false rfl) lvK0))) (fun ls hl => ?_)
        refine m_goto (tgt := 4) (pc := 35) C dX8_count_35 (by decide) ?_
        exact ih _ _ _ _ _ h rx1 ra19 ra20 _ _ _ hM (lv_sub hl [2, 3, 1, 0] rfl)
set_option maxHeartbeats 4000000 in
set_option maxRecDepth 100000 in
theorem c_X8_count (l : Launch) (E : gE) (N : Nat) (x0 x1 : Int) (μ μ' : Mm) (r : Int) (h : f_X8_count N x0 x1 μ = some (r, μ')) (rx1 : R32 x1) : gMet l E yX8_count cX8_count 4 (some .int) 2 41 [vr E x0, vi x1] (some (vi r)) (R32 r) μ μ' 0 0 := by
  refine g_ofW [1, 1] (by first | (simp only [List.map_cons, List.map_nil, vr_cat]; done) | (simp only [List.map_cons, List.map_nil, vr_cat]; rfl)) (by decide) (by decide) (fun p e s m below meth c ls C hM hl => ?_)
  replace C : gCx p s m _ meth c cX8_count 4 (some .int) "count" RX8 := C
  replace hl : lv_has ls 4 [(0, vr E x0), (1, vi x1)] := hl
  unfold f_X8_count at h
  refine m_iconst (pc := 0) C dX8_count_0 ?_
  refine m_istore_n (pc := 1) C dX8_count_1 rfl hl (by decide) (lvK1 0 rfl (Nat.ne_of_beq_eq_false rfl) (Nat.ne_of_beq_eq_false rfl) (lvK2 1 rfl (Nat.ne_of_beq_eq_false rfl) rfl lvK0)) (fun ls hl => ?_)
  refine m_iconst (pc := 2) C dX8_count_2 ?_
  refine m_istore_n (pc := 3) C dX8_count_3 rfl hl (by decide) (lvK2 0 rfl (Nat.ne_of_beq_eq_false rfl) rfl (lvK1 1 rfl (Nat.ne_of_beq_eq_false rfl) (Nat.ne_of_beq_eq_false rfl) (lvK1 2 rfl (Nat.ne_of_beq_eq_false rfl) (Nat.ne_of_beq_eq_false rfl) lvK0))) (fun ls hl => ?_)
  exact k_X8_count_b4 C N N _ _ _ _ _ h rx1 rk_0 rk_0 _ _ _ hM (lv_sub hl [2, 3, 1, 0] rfl)
theorem hd_X8_count : yX8_count.cls ≠ "java/lang/invoke/MethodHandle" ∧ yX8_count.cls ≠ "java/lang/invoke/VarHandle" ∧ (parseMethodDescriptor yX8_count.desc).map (fun d => d.parameters.length) = some 1 := by decide +kernel

theorem V_X8_count {p : Program} {l : Launch} {e : Env} {R : Room} {s : State} {m : MethodId} {args : Array Value} {below : List Frame} {meth : Method} {c : Code} {H : Heap} {locs : List Loc} {cells slots : Nat} {Q : State → Prop} {cc : ByteArray} {pc nL : Nat} {ls : Array Slot} {rest : List Value} {ret : Option FieldType} {nmm own : String} {E : gE} {μ μ1 : Mm} {index : Nat} (C : gCx p s m args meth c cc nL ret nmm own) (hM : MS E μ s H locs) {N : Nat} {x0 x1 v : Int} (hc : f_X8_count N x0 x1 μ = some (v, μ1)) (rx1 : R32 x1) (hck : μ x0 (-2) = 10) (h1 : Cond.methodLink own index yX8_count ∈ bigL) (hR : 3 ≤ R.frames ∧ 64 ≤ R.locals) (hl : ls.size = nL) (hcat : RC rest 8) (hf : cells + 0 ≤ R.cells ∧ slots + 0 ≤ R.slots) (hdg : decode cc pc = .ok (.invokevirtual index, 3)) (kk : (R32 v) → ∀ (H1 : Heap) (locs1 : List Loc), MS E μ1 s H1 locs1 → W p l e R s m args below meth c H1 locs1 (cells + 0) (slots + 0) Q (F0 m (pc + 3) ls (vi v :: rest))) : W p l e R s m args below meth c H locs cells slots Q (F0 m pc ls (vi x1 :: vr E x0 :: rest)) := g_callV C KF_X8 hM (c_X8_count l E N x0 x1 μ μ1 v hc rx1) hck (gV h1 bw_6_151 bw_6_152 bw_1_13 bw_6_153) ⟨rfl, hd_X8_count⟩ hR rfl hl rfl hcat hf hdg kk
end G17
