section G10
variable {p : Program} {l : Launch} {e : Env} {R : Room} {s : State} {m : MethodId} {args : Array Value} {below : List Frame} {meth : Method} {c : Code} {E : gE}
/-! X7_rate -/
def f_X7_rate (N : Nat) (x0 x1 : Int) (μ : Mm) : Rs :=
  bd (f_X7_outside N x1 0 5 μ) fun a1 μ2 =>
  if a1 = 0 then
    (ck (μ2 x0 (-2) = 9) <|
     ck (μ2 (μ2 x0 0) (-2) = 8) <|
     ck (μ2 (μ2 (μ2 x0 0) 0) (-2) = 7) <|
     ck (μ2 (μ2 (μ2 (μ2 x0 0) 0) 0) (-2) = 23 ∧ (0 : Int) ≤ x1 ∧ x1 < μ2 (μ2 (μ2 (μ2 x0 0) 0) 0) (-1)) <|
     some (μ2 (μ2 (μ2 (μ2 x0 0) 0) 0) x1, μ2))
  else
  some ((-100000001), μ2)
set_option maxHeartbeats 4000000 in
set_option maxRecDepth 100000 in
theorem c_X7_rate (l : Launch) (E : gE) (N : Nat) (x0 x1 : Int) (μ μ' : Mm) (r : Int) (h : f_X7_rate N x0 x1 μ = some (r, μ')) (rx1 : R32 x1) : gMet l E yX7_rate cX7_rate 2 (some .int) 1 22 [vr E x0, vi x1] (some (vi r)) (R32 r) μ μ' 0 0 := by
  refine g_ofW [1, 1] (by first | (simp only [List.map_cons, List.map_nil, vr_cat]; done) | (simp only [List.map_cons, List.map_nil, vr_cat]; rfl)) (by decide) (by decide) (fun p e s m below meth c ls C hM hl => ?_)
  replace C : gCx p s m _ meth c cX7_rate 2 (some .int) "rate" RX7 := C
  replace hl : lv_has ls 2 [(0, vr E x0), (1, vi x1)] := hl
  unfold f_X7_rate at h
  refine m_iload_n (pc := 0) C dX7_rate_0 rfl (lv_at hl 1 rfl) ?_
  refine m_iconst (pc := 1) C dX7_rate_1 ?_
  refine m_iconst (pc := 2) C dX7_rate_2 ?_
  obtain ⟨a1, μ2, ca1, h⟩ := bd_some h
  refine V_X7_outside (pc := 3) C hM ca1 rx1 rk_0 rk_5 bw_2_89 ⟨Nat.le_of_ble_eq_true rfl, Nat.le_of_ble_eq_true rfl⟩ hl.1 rc0 ⟨Nat.le_refl _, Nat.le_refl _⟩ dX7_rate_3 (fun ra1 H locs hM => ?_)
  refine m_if_eq (tgt := 12) (pc := 6) C ra1 dX7_rate_6 (by decide) (fun c3 => ?_) (fun c3 => ?_)
  · have h := if_t h c3
    refine m_aload_n (pc := 12) C dX7_rate_12 rfl (lv_at hl 0 rfl) ?_
    obtain ⟨q4, h⟩ := ck_some h
    refine G_X7_now (pc := 13) C hM bw_2_63 q4 dX7_rate_13 ?_
    obtain ⟨q5, h⟩ := ck_some h
    refine G_X6_settings (pc := 16) C hM bw_1_181 q5 dX7_rate_16 ?_
    obtain ⟨q6, h⟩ := ck_some h
    refine G_X5_rates (pc := 19) C hM bw_1_41 q6 dX7_rate_19 ?_
    refine m_iload_n (pc := 22) C dX7_rate_22 rfl (lv_at hl 1 rfl) ?_
    obtain ⟨q7, h⟩ := ck_some h
    have gq7 := Ar_iald hM q7.1 q7.2.1 q7.2.2
    refine m_iald (pc := 23) C hM q7.1 q7.2.1 q7.2.2 dX7_rate_23 ?_
    cases h
    exact m_iret (pc := 24) C hM gq7 dX7_rate_24
  · have h := if_f h c3
    refine m_ldc (n := -100000001) (pc := 9) C bw_2_92 rfl dX7_rate_9 ?_
    cases h
    exact m_iret (pc := 11) C hM rk_m100000001 dX7_rate_11
theorem hd_X7_rate : yX7_rate.cls ≠ "java/lang/invoke/MethodHandle" ∧ yX7_rate.cls ≠ "java/lang/invoke/VarHandle" ∧ (parseMethodDescriptor yX7_rate.desc).map (fun d => d.parameters.length) = some 1 := by decide +kernel

theorem V_X7_rate {p : Program} {l : Launch} {e : Env} {R : Room} {s : State} {m : MethodId} {args : Array Value} {below : List Frame} {meth : Method} {c : Code} {H : Heap} {locs : List Loc} {cells slots : Nat} {Q : State → Prop} {cc : ByteArray} {pc nL : Nat} {ls : Array Slot} {rest : List Value} {ret : Option FieldType} {nmm own : String} {E : gE} {μ μ1 : Mm} {index : Nat} (C : gCx p s m args meth c cc nL ret nmm own) (hM : MS E μ s H locs) {N : Nat} {x0 x1 v : Int} (hc : f_X7_rate N x0 x1 μ = some (v, μ1)) (rx1 : R32 x1) (hck : μ x0 (-2) = 9) (h1 : Cond.methodLink own index yX7_rate ∈ bigL) (hR : 2 ≤ R.frames ∧ 43 ≤ R.locals) (hl : ls.size = nL) (hcat : RC rest 8) (hf : cells + 0 ≤ R.cells ∧ slots + 0 ≤ R.slots) (hdg : decode cc pc = .ok (.invokevirtual index, 3)) (kk : (R32 v) → ∀ (H1 : Heap) (locs1 : List Loc), MS E μ1 s H1 locs1 → W p l e R s m args below meth c H1 locs1 (cells + 0) (slots + 0) Q (F0 m (pc + 3) ls (vi v :: rest))) : W p l e R s m args below meth c H locs cells slots Q (F0 m pc ls (vi x1 :: vr E x0 :: rest)) := g_callV C KF_X7 hM (c_X7_rate l E N x0 x1 μ μ1 v hc rx1) hck (gV h1 bw_3_27 bw_3_28 bw_1_1 bw_3_29) ⟨rfl, hd_X7_rate⟩ hR rfl hl rfl hcat hf hdg kk
/-! L_low -/
def f_L_low (N : Nat) (x0 x1 : Int) (μ : Mm) : Rs :=
  nm (o_and x0 2147483647) fun a1 =>
  ck (x1 ≠ 0) <|
  nm (o_rem a1 x1) fun a2 =>
  some (a2, μ)
set_option maxHeartbeats 4000000 in
set_option maxRecDepth 100000 in
theorem c_L_low (l : Launch) (E : gE) (N : Nat) (x0 x1 : Int) (μ μ' : Mm) (r : Int) (h : f_L_low N x0 x1 μ = some (r, μ')) (rx0 : R32 x0) (rx1 : R32 x1) : gMet l E yL_low cL_low 2 (some .int) 0 0 [vi x0, vi x1] (some (vi r)) (R32 r) μ μ' 0 0 := by
  refine g_ofW [1, 1] rfl (by decide) (by decide) (fun p e s m below meth c ls C hM hl => ?_)
  replace C : gCx p s m _ meth c cL_low 2 (some .int) "low" RL := C
  replace hl : lv_has ls 2 [(0, vi x0), (1, vi x1)] := hl
  unfold f_L_low at h
  refine m_iload_n (pc := 0) C dL_low_0 rfl (lv_at hl 0 rfl) ?_
  refine m_ldc (n := 2147483647) (pc := 1) C bw_3_20 rfl dL_low_1 ?_
  obtain ⟨a1, ea1, h⟩ := nm_some h
  have ra1 : R32 a1 := by rw [ea1]; exact R32_of _
  refine m_iand (pc := 3) C dL_low_3 ea1 ?_
  refine m_iload_n (pc := 4) C dL_low_4 rfl (lv_at hl 1 rfl) ?_
  obtain ⟨q3, h⟩ := ck_some h
  obtain ⟨a2, ea2, h⟩ := nm_some h
  have ra2 : R32 a2 := by rw [ea2]; exact R32_of _
  refine m_irem (pc := 5) C rx1 q3 dL_low_5 ea2 ?_
  cases h
  exact m_iret (pc := 6) C hM ra2 dL_low_6
theorem hd_L_low : yL_low.cls ≠ "java/lang/invoke/MethodHandle" ∧ yL_low.cls ≠ "java/lang/invoke/VarHandle" ∧ (parseMethodDescriptor yL_low.desc).map (fun d => d.parameters.length) = some 2 := by decide +kernel

theorem V_L_low {p : Program} {l : Launch} {e : Env} {R : Room} {s : State} {m : MethodId} {args : Array Value} {below : List Frame} {meth : Method} {c : Code} {H : Heap} {locs : List Loc} {cells slots : Nat} {Q : State → Prop} {cc : ByteArray} {pc nL : Nat} {ls : Array Slot} {rest : List Value} {ret : Option FieldType} {nmm own : String} {E : gE} {μ μ1 : Mm} {index : Nat} (C : gCx p s m args meth c cc nL ret nmm own) (hM : MS E μ s H locs) {N : Nat} {x0 x1 v : Int} (hc : f_L_low N x0 x1 μ = some (v, μ1)) (rx0 : R32 x0) (rx1 : R32 x1) (h1 : Cond.methodLink own index yL_low ∈ bigL) (hR : 1 ≤ R.frames ∧ 21 ≤ R.locals) (hl : ls.size = nL) (hcat : RC rest 8) (hf : cells + 0 ≤ R.cells ∧ slots + 0 ≤ R.slots) (hdg : decode cc pc = .ok (.invokestatic index, 3)) (kk : (R32 v) → ∀ (H1 : Heap) (locs1 : List Loc), MS E μ1 s H1 locs1 → W p l e R s m args below meth c H1 locs1 (cells + 0) (slots + 0) Q (F0 m (pc + 3) ls (vi v :: rest))) : W p l e R s m args below meth c H locs cells slots Q (F0 m pc ls (vi x1 :: vi x0 :: rest)) := g_callS C hM (c_L_low l E N x0 x1 μ μ1 v hc rx0 rx1) (gS h1 bw_3_18 bw_1_0 bw_3_19) hd_L_low hR rfl hl rfl hcat hf hdg kk
/-! L_digest -/
def f_L_digest_b202 (N : Nat) : Nat → Int → Int → Int → Mm → Rs
  | 0, _, _, _, _ => none
  | n + 1, x0, x1, x3, μ =>
    if 7 ≤ x3 then
      (some (x1, μ))
    else
    nm (w64 (31 * x1)) fun a2 =>
    ck (μ x0 (-2) = 9) <|
    bd (f_X7_account N x0 x3 μ) fun a4 μ5 =>
    nm (w64 (a2 + a4)) fun a6 =>
    nm (w32 (x3 + 1)) fun a7 =>
    f_L_digest_b202 N n x0 a6 a7 μ5
def f_L_digest_b167 (N : Nat) (k155 : Int → Int → Int → Mm → Rs) : Nat → Int → Int → Int → Int → Mm → Rs
  | 0, _, _, _, _, _ => none
  | n + 1, x0, x1, x3, x4, μ =>
    if 5 ≤ x4 then
      (nm (w32 (x3 + 1)) fun a2 =>
       k155 x0 x1 a2 μ)
    else
    nm (w64 (31 * x1)) fun a3 =>
    ck (μ x0 (-2) = 9) <|
    bd (f_X7_exported N x0 x3 x4 μ) fun a5 μ6 =>
    nm (w64 (a3 + a5)) fun a7 =>
    nm (w32 (x4 + 1)) fun a8 =>
    f_L_digest_b167 N k155 n x0 a7 x3 a8 μ6
def f_L_digest_b155 (N : Nat) : Nat → Int → Int → Int → Mm → Rs
  | 0, _, _, _, _ => none
  | n + 1, x0, x1, x3, μ =>
    ck (μ x0 (-2) = 9) <|
    bd (f_X7_count N x0 3 μ) fun a2 μ3 =>
    if a2 ≤ x3 then
      (f_L_digest_b202 N N x0 x1 0 μ3)
    else
    f_L_digest_b167 N (f_L_digest_b155 N n) N x0 x1 x3 0 μ3
def f_L_digest_b119 (N : Nat) (k107 : Int → Int → Int → Mm → Rs) : Nat → Int → Int → Int → Int → Mm → Rs
  | 0, _, _, _, _, _ => none
  | n + 1, x0, x1, x3, x4, μ =>
    if 13 ≤ x4 then
      (nm (w32 (x3 + 1)) fun a2 =>
       k107 x0 x1 a2 μ)
    else
    nm (w64 (31 * x1)) fun a3 =>
    ck (μ x0 (-2) = 9) <|
    bd (f_X7_lot N x0 x3 x4 μ) fun a5 μ6 =>
    nm (w64 (a3 + a5)) fun a7 =>
    nm (w32 (x4 + 1)) fun a8 =>
    f_L_digest_b119 N k107 n x0 a7 x3 a8 μ6
def f_L_digest_b107 (N : Nat) : Nat → Int → Int → Int → Mm → Rs
  | 0, _, _, _, _ => none
  | n + 1, x0, x1, x3, μ =>
    ck (μ x0 (-2) = 9) <|
    bd (f_X7_count N x0 2 μ) fun a2 μ3 =>
    if a2 ≤ x3 then
      (f_L_digest_b155 N N x0 x1 0 μ3)
    else
    f_L_digest_b119 N (f_L_digest_b107 N n) N x0 x1 x3 0 μ3
def f_L_digest_b72 (N : Nat) (k60 : Int → Int → Int → Mm → Rs) : Nat → Int → Int → Int → Int → Mm → Rs
  | 0, _, _, _, _, _ => none
  | n + 1, x0, x1, x3, x4, μ =>
    if 7 ≤ x4 then
      (nm (w32 (x3 + 1)) fun a2 =>
       k60 x0 x1 a2 μ)
    else
    nm (w64 (31 * x1)) fun a3 =>
    ck (μ x0 (-2) = 9) <|
    bd (f_X7_owner N x0 x3 x4 μ) fun a5 μ6 =>
    nm (w64 (a3 + a5)) fun a7 =>
    nm (w32 (x4 + 1)) fun a8 =>
    f_L_digest_b72 N k60 n x0 a7 x3 a8 μ6
def f_L_digest_b60 (N : Nat) : Nat → Int → Int → Int → Mm → Rs
  | 0, _, _, _, _ => none
  | n + 1, x0, x1, x3, μ =>
    ck (μ x0 (-2) = 9) <|
    bd (f_X7_count N x0 1 μ) fun a2 μ3 =>
    if a2 ≤ x3 then
      (f_L_digest_b107 N N x0 x1 0 μ3)
    else
    f_L_digest_b72 N (f_L_digest_b60 N n) N x0 x1 x3 0 μ3
def f_L_digest_b33 (N : Nat) : Nat → Int → Int → Int → Mm → Rs
  | 0, _, _, _, _ => none
  | n + 1, x0, x1, x3, μ =>
    if 6 ≤ x3 then
      (f_L_digest_b60 N N x0 x1 0 μ)
    else
    nm (w64 (31 * x1)) fun a2 =>
    ck (μ x0 (-2) = 9) <|
    bd (f_X7_rate N x0 x3 μ) fun a4 μ5 =>
    nm (w64 (a2 + a4)) fun a6 =>
    nm (w32 (x3 + 1)) fun a7 =>
    f_L_digest_b33 N n x0 a6 a7 μ5
def f_L_digest_b6 (N : Nat) : Nat → Int → Int → Int → Mm → Rs
  | 0, _, _, _, _ => none
  | n + 1, x0, x1, x3, μ =>
    if 11 ≤ x3 then
      (f_L_digest_b33 N N x0 x1 0 μ)
    else
    nm (w64 (31 * x1)) fun a2 =>
    ck (μ x0 (-2) = 9) <|
    bd (f_X7_count N x0 x3 μ) fun a4 μ5 =>
    nm (w64 (a2 + a4)) fun a6 =>
    nm (w32 (x3 + 1)) fun a7 =>
    f_L_digest_b6 N n x0 a6 a7 μ5
def f_L_digest (N : Nat) (x0 : Int) (μ : Mm) : Rs :=
  f_L_digest_b6 N N x0 23 0 μ
set_option maxHeartbeats 4000000 in
set_option maxRecDepth 100000 in
theorem k_L_digest_b202 (C : gCx p s m args meth c cL_digest 5 (some .long) "digest" RL) (N : Nat) {r : Int} {μ' : Mm} : ∀ (n : Nat), ∀ (x0 x1 x3 : Int) (μ : Mm), f_L_digest_b202 N n x0 x1 x3 μ = some (r, μ') → R64 x1 → R32 x3 → ∀ (H : Heap) (locs : List Loc) (ls : Array Slot), MS E μ s H locs → lv_has ls 5 [(0, vr E x0), (1, vl x1), (3, vi x3)] → W p l e ({ frames := 4, cells := 0, slots := 0, locals := 85 } : Room) s m args below meth c H locs 0 0 (MQ below (gQ E (some (vl r)) (R64 r) μ') args s 0 0 (gA E)) (F0 m 202 ls []) := by
  intro n
  induction n with
  | zero => intro x0 x1 x3 μ h; simp [f_L_digest_b202] at h
  | succ n ih =>
    intro x0 x1 x3 μ h rx1 rx3 H locs ls hM hl
    rw [f_L_digest_b202] at h
    refine m_iload_n (pc := 202) C dL_digest_202 rfl (lv_at hl 2 rfl) ?_
    refine m_bipush (pc := 203) C dL_digest_203 rfl ?_
    refine m_icmp_ge (tgt := 226) (pc := 205) C rx3 rk_7 dL_digest_205 (by decide) (fun c1 => ?_) (fun c1 => ?_)
    · have h := if_t h c1
      refine m_lload_n (pc := 226) C dL_digest_226 rfl (lv_at hl 1 rfl) ?_
      cases h
      exact m_lret (pc := 227) C hM rx1 dL_digest_227
    · have h := if_f h c1
      refine m_ldc2 (n := 31) (pc := 208) C bw_3_25 rfl dL_digest_208 ?_
      refine m_lload_n (pc := 211) C dL_digest_211 rfl (lv_at hl 1 rfl) ?_
      obtain ⟨a2, ea2, h⟩ := nm_some h
      have ra2 : R64 a2 := by rw [ea2]; exact w64_R _
      refine m_lmul (pc := 212) C dL_digest_212 ea2 ?_
      refine m_aload_n (pc := 213) C dL_digest_213 rfl (lv_at hl 0 rfl) ?_
      refine m_iload_n (pc := 214) C dL_digest_214 rfl (lv_at hl 2 rfl) ?_
      obtain ⟨q3, h⟩ := ck_some h
      obtain ⟨a4, μ5, ca4, h⟩ := bd_some h
      refine V_X7_account (pc := 215) C hM ca4 rx3 q3 bw_3_63 ⟨Nat.le_of_ble_eq_true rfl, Nat.le_of_ble_eq_true rfl⟩ hl.1 (rcL rc0) ⟨Nat.le_refl _, Nat.le_refl _⟩ dL_digest_215 (fun ra4 H locs hM => ?_)
      obtain ⟨a6, ea6, h⟩ := nm_some h
      have ra6 : R64 a6 := by rw [ea6]; exact w64_R _
      refine m_ladd (pc := 218) C dL_digest_218 ea6 ?_
      refine m_lstore_n (pc := 219) C dL_digest_219 rfl hl (by decide) (lvK2 0 rfl (Nat.ne_of_beq_eq_false rfl) (vr_cat _ _) (lvK1 2 rfl (Nat.ne_of_beq_eq_false rfl) (Nat.ne_of_beq_eq_false rfl) lvK0)) (lvN1 (Nat.ne_of_beq_eq_false rfl) (lvN1 (Nat.ne_of_beq_eq_false rfl) lvN0)) (fun ls hl => ?_)
      obtain ⟨a7, ea7, h⟩ := nm_some h
      have ra7 : R32 a7 := by rw [ea7]; exact w32_R _
      refine m_iinc (k := 2) (pc := 220) C dL_digest_220 hl rfl (by decide) ea7 (lvK1 0 rfl (Nat.ne_of_beq_eq_false rfl) (Nat.ne_of_beq_eq_false rfl) (lvK1 1 rfl (Nat.ne_of_beq_eq_false rfl) (Nat.ne_of_beq_eq_false rfl) lvK0)) (fun ls hl => ?_)
      refine m_goto (tgt := 202) (pc := 223) C dL_digest_223 (by decide) ?_
      exact ih _ _ _ _ h ra6 ra7 _ _ _ hM (lv_sub hl [2, 1, 0] rfl)
set_option maxHeartbeats 4000000 in
set_option maxRecDepth 100000 in
theorem k_L_digest_b167 (C : gCx p s m args meth c cL_digest 5 (some .long) "digest" RL) (N : Nat) {r : Int} {μ' : Mm} (k155 : Int → Int → Int → Mm → Rs) (hk155 : ∀ (x0 x1 x3 : Int) (μ : Mm), k155 x0 x1 x3 μ = some (r, μ') → R64 x1 → R32 x3 → ∀ (H : Heap) (locs : List Loc) (ls : Array Slot), MS E μ s H locs → lv_has ls 5 [(0, vr E x0), (1, vl x1), (3, vi x3)] → W p l e ({ frames := 4, cells := 0, slots := 0, locals := 85 } : Room) s m args below meth c H locs 0 0 (MQ below (gQ E (some (vl r)) (R64 r) μ') args s 0 0 (gA E)) (F0 m 155 ls [])) : ∀ (n : Nat), ∀ (x0 x1 x3 x4 : Int) (μ : Mm), f_L_digest_b167 N k155 n x0 x1 x3 x4 μ = some (r, μ') → R64 x1 → R32 x3 → R32 x4 → ∀ (H : Heap) (locs : List Loc) (ls : Array Slot), MS E μ s H locs → lv_has ls 5 [(0, vr E x0), (1, vl x1), (3, vi x3), (4, vi x4)] → W p l e ({ frames := 4, cells := 0, slots := 0, locals := 85 } : Room) s m args below meth c H locs 0 0 (MQ below (gQ E (some (vl r)) (R64 r) μ') args s 0 0 (gA E)) (F0 m 167 ls []) := by
  intro n
  induction n with
  | zero => intro x0 x1 x3 x4 μ h; simp [f_L_digest_b167] at h
  | succ n ih =>
    intro x0 x1 x3 x4 μ h rx1 rx3 rx4 H locs ls hM hl
    rw [f_L_digest_b167] at h
    refine m_iload (pc := 167) C dL_digest_167 (lv_at hl 3 rfl) ?_
    refine m_iconst (pc := 169) C dL_digest_169 ?_
    refine m_icmp_ge (tgt := 194) (pc := 170) C rx4 rk_5 dL_digest_170 (by decide) (fun c1 => ?_) (fun c1 => ?_)
    · have h := if_t h c1
      obtain ⟨a2, ea2, h⟩ := nm_some h
      have ra2 : R32 a2 := by rw [ea2]; exact w32_R _
      refine m_iinc (k := 2) (pc := 194) C dL_digest_194 hl rfl (by decide) ea2 (lvK1 0 rfl (Nat.ne_of_beq_eq_false rfl) (Nat.ne_of_beq_eq_false rfl) (lvK1 1 rfl (Nat.ne_of_beq_eq_false rfl) (Nat.ne_of_beq_eq_false rfl) lvK0)) (fun ls hl => ?_)
      refine m_goto (tgt := 155) (pc := 197) C dL_digest_197 (by decide) ?_
      exact hk155 _ _ _ _ h rx1 ra2 _ _ _ hM (lv_sub hl [1, 2, 0] rfl)
    · have h := if_f h c1
      refine m_ldc2 (n := 31) (pc := 173) C bw_3_25 rfl dL_digest_173 ?_
      refine m_lload_n (pc := 176) C dL_digest_176 rfl (lv_at hl 1 rfl) ?_
      obtain ⟨a3, ea3, h⟩ := nm_some h
      have ra3 : R64 a3 := by rw [ea3]; exact w64_R _
      refine m_lmul (pc := 177) C dL_digest_177 ea3 ?_
      refine m_aload_n (pc := 178) C dL_digest_178 rfl (lv_at hl 0 rfl) ?_
      refine m_iload_n (pc := 179) C dL_digest_179 rfl (lv_at hl 2 rfl) ?_
      refine m_iload (pc := 180) C dL_digest_180 (lv_at hl 3 rfl) ?_
      obtain ⟨q4, h⟩ := ck_some h
      obtain ⟨a5, μ6, ca5, h⟩ := bd_some h
      refine V_X7_exported (pc := 182) C hM ca5 rx3 rx4 q4 bw_2_226 ⟨Nat.le_of_ble_eq_true rfl, Nat.le_of_ble_eq_true rfl⟩ hl.1 (rcL rc0) ⟨Nat.le_refl _, Nat.le_refl _⟩ dL_digest_182 (fun ra5 H locs hM => ?_)
      refine m_i2l (pc := 185) C ra5 dL_digest_185 ?_
      obtain ⟨a7, ea7, h⟩ := nm_some h
      have ra7 : R64 a7 := by rw [ea7]; exact w64_R _
      refine m_ladd (pc := 186) C dL_digest_186 ea7 ?_
      refine m_lstore_n (pc := 187) C dL_digest_187 rfl hl (by decide) (lvK2 0 rfl (Nat.ne_of_beq_eq_false rfl) (vr_cat _ _) (lvK1 2 rfl (Nat.ne_of_beq_eq_false rfl) (Nat.ne_of_beq_eq_false rfl) (lvK1 3 rfl (Nat.ne_of_beq_eq_false rfl) (Nat.ne_of_beq_eq_false rfl) lvK0))) (lvN1 (Nat.ne_of_beq_eq_false rfl) (lvN1 (Nat.ne_of_beq_eq_false rfl) (lvN1 (Nat.ne_of_beq_eq_false rfl) lvN0))) (fun ls hl => ?_)
      obtain ⟨a8, ea8, h⟩ := nm_some h
      have ra8 : R32 a8 := by rw [ea8]; exact w32_R _
      refine m_iinc (k := 3) (pc := 188) C dL_digest_188 hl rfl (by decide) ea8 (lvK1 0 rfl (Nat.ne_of_beq_eq_false rfl) (Nat.ne_of_beq_eq_false rfl) (lvK1 1 rfl (Nat.ne_of_beq_eq_false rfl) (Nat.ne_of_beq_eq_false rfl) (lvK2 2 rfl (Nat.ne_of_beq_eq_false rfl) rfl lvK0))) (fun ls hl => ?_)
      refine m_goto (tgt := 167) (pc := 191) C dL_digest_191 (by decide) ?_
      exact ih _ _ _ _ _ h ra7 rx3 ra8 _ _ _ hM (lv_sub hl [2, 1, 3, 0] rfl)
set_option maxHeartbeats 4000000 in
set_option maxRecDepth 100000 in
theorem k_L_digest_b155 (C : gCx p s m args meth c cL_digest 5 (some .long) "digest" RL) (N : Nat) {r : Int} {μ' : Mm} : ∀ (n : Nat), ∀ (x0 x1 x3 : Int) (μ : Mm), f_L_digest_b155 N n x0 x1 x3 μ = some (r, μ') → R64 x1 → R32 x3 → ∀ (H : Heap) (locs : List Loc) (ls : Array Slot), MS E μ s H locs → lv_has ls 5 [(0, vr E x0), (1, vl x1), (3, vi x3)] → W p l e ({ frames := 4, cells := 0, slots := 0, locals := 85 } : Room) s m args below meth c H locs 0 0 (MQ below (gQ E (some (vl r)) (R64 r) μ') args s 0 0 (gA E)) (F0 m 155 ls []) := by
  intro n
  induction n with
  | zero => intro x0 x1 x3 μ h; simp [f_L_digest_b155] at h
  | succ n ih =>
    intro x0 x1 x3 μ h rx1 rx3 H locs ls hM hl
    rw [f_L_digest_b155] at h
    refine m_iload_n (pc := 155) C dL_digest_155 rfl (lv_at hl 2 rfl) ?_
    refine m_aload_n (pc := 156) C dL_digest_156 rfl (lv_at hl 0 rfl) ?_
    refine m_iconst (pc := 157) C dL_digest_157 ?_
    obtain ⟨q1, h⟩ := ck_some h
    obtain ⟨a2, μ3, ca2, h⟩ := bd_some h
    refine V_X7_count (pc := 158) C hM ca2 rk_3 q1 bw_3_4 ⟨Nat.le_of_ble_eq_true rfl, Nat.le_of_ble_eq_true rfl⟩ hl.1 (rcI rc0) ⟨Nat.le_refl _, Nat.le_refl _⟩ dL_digest_158 (fun ra2 H locs hM => ?_)
    refine m_icmp_ge (tgt := 200) (pc := 161) C rx3 ra2 dL_digest_161 (by decide) (fun c4 => ?_) (fun c4 => ?_)
    · have h := if_t h c4
      refine m_iconst (pc := 200) C dL_digest_200 ?_
      refine m_istore_n (pc := 201) C dL_digest_201 rfl hl (by decide) (lvK1 0 rfl (Nat.ne_of_beq_eq_false rfl) (Nat.ne_of_beq_eq_false rfl) (lvK1 1 rfl (Nat.ne_of_beq_eq_false rfl) (Nat.ne_of_beq_eq_false rfl) lvK0)) (fun ls hl => ?_)
      exact k_L_digest_b202 C N N _ _ _ _ h rx1 rk_0 _ _ _ hM (lv_sub hl [1, 2, 0] rfl)
    · have h := if_f h c4
      refine m_iconst (pc := 164) C dL_digest_164 ?_
      refine m_istore (pc := 165) C dL_digest_165 hl (by decide) (lvK1 0 rfl (Nat.ne_of_beq_eq_false rfl) (Nat.ne_of_beq_eq_false rfl) (lvK1 1 rfl (Nat.ne_of_beq_eq_false rfl) (Nat.ne_of_beq_eq_false rfl) (lvK2 2 rfl (Nat.ne_of_beq_eq_false rfl) rfl lvK0))) (fun ls hl => ?_)
      exact k_L_digest_b167 C N _ ih N _ _ _ _ _ h rx1 rx3 rk_0 _ _ _ hM (lv_sub hl [1, 2, 3, 0] rfl)
set_option maxHeartbeats 4000000 in
set_option maxRecDepth 100000 in
theorem k_L_digest_b119 (C : gCx p s m args meth c cL_digest 5 (some .long) "digest" RL) (N : Nat) {r : Int} {μ' : Mm} (k107 : Int → Int → Int → Mm → Rs) (hk107 : ∀ (x0 x1 x3 : Int) (μ : Mm), k107 x0 x1 x3 μ = some (r, μ') → R64 x1 → R32 x3 → ∀ (H : Heap) (locs : List Loc) (ls : Array Slot), MS E μ s H locs → lv_has ls 5 [(0, vr E x0), (1, vl x1), (3, vi x3)] → W p l e ({ frames := 4, cells := 0, slots := 0, locals := 85 } : Room) s m args below meth c H locs 0 0 (MQ below (gQ E (some (vl r)) (R64 r) μ') args s 0 0 (gA E)) (F0 m 107 ls [])) : ∀ (n : Nat), ∀ (x0 x1 x3 x4 : Int) (μ : Mm), f_L_digest_b119 N k107 n x0 x1 x3 x4 μ = some (r, μ') → R64 x1 → R32 x3 → R32 x4 → ∀ (H : Heap) (locs : List Loc) (ls : Array Slot), MS E μ s H locs → lv_has ls 5 [(0, vr E x0), (1, vl x1), (3, vi x3), (4, vi x4)] → W p l e ({ frames := 4, cells := 0, slots := 0, locals := 85 } : Room) s m args below meth c H locs 0 0 (MQ below (gQ E (some (vl r)) (R64 r) μ') args s 0 0 (gA E)) (F0 m 119 ls []) := by
  intro n
  induction n with
  | zero => intro x0 x1 x3 x4 μ h; simp [f_L_digest_b119] at h
  | succ n ih =>
    intro x0 x1 x3 x4 μ h rx1 rx3 rx4 H locs ls hM hl
    rw [f_L_digest_b119] at h
    refine m_iload (pc := 119) C dL_digest_119 (lv_at hl 3 rfl) ?_
    refine m_bipush (pc := 121) C dL_digest_121 rfl ?_
    refine m_icmp_ge (tgt := 147) (pc := 123) C rx4 rk_13 dL_digest_123 (by decide) (fun c1 => ?_) (fun c1 => ?_)
    · have h := if_t h c1
      obtain ⟨a2, ea2, h⟩ := nm_some h
      have ra2 : R32 a2 := by rw [ea2]; exact w32_R _
      refine m_iinc (k := 2) (pc := 147) C dL_digest_147 hl rfl (by decide) ea2 (lvK1 0 rfl (Nat.ne_of_beq_eq_false rfl) (Nat.ne_of_beq_eq_false rfl) (lvK1 1 rfl (Nat.ne_of_beq_eq_false rfl) (Nat.ne_of_beq_eq_false rfl) lvK0)) (fun ls hl => ?_)
      refine m_goto (tgt := 107) (pc := 150) C dL_digest_150 (by decide) ?_
      exact hk107 _ _ _ _ h rx1 ra2 _ _ _ hM (lv_sub hl [1, 2, 0] rfl)
    · have h := if_f h c1
      refine m_ldc2 (n := 31) (pc := 126) C bw_3_25 rfl dL_digest_126 ?_
      refine m_lload_n (pc := 129) C dL_digest_129 rfl (lv_at hl 1 rfl) ?_
      obtain ⟨a3, ea3, h⟩ := nm_some h
      have ra3 : R64 a3 := by rw [ea3]; exact w64_R _
      refine m_lmul (pc := 130) C dL_digest_130 ea3 ?_
      refine m_aload_n (pc := 131) C dL_digest_131 rfl (lv_at hl 0 rfl) ?_
      refine m_iload_n (pc := 132) C dL_digest_132 rfl (lv_at hl 2 rfl) ?_
      refine m_iload (pc := 133) C dL_digest_133 (lv_at hl 3 rfl) ?_
      obtain ⟨q4, h⟩ := ck_some h
      obtain ⟨a5, μ6, ca5, h⟩ := bd_some h
      refine V_X7_lot (pc := 135) C hM ca5 rx3 rx4 q4 bw_3_54 ⟨Nat.le_of_ble_eq_true rfl, Nat.le_of_ble_eq_true rfl⟩ hl.1 (rcL rc0) ⟨Nat.le_refl _, Nat.le_refl _⟩ dL_digest_135 (fun ra5 H locs hM => ?_)
      refine m_i2l (pc := 138) C ra5 dL_digest_138 ?_
      obtain ⟨a7, ea7, h⟩ := nm_some h
      have ra7 : R64 a7 := by rw [ea7]; exact w64_R _
      refine m_ladd (pc := 139) C dL_digest_139 ea7 ?_
      refine m_lstore_n (pc := 140) C dL_digest_140 rfl hl (by decide) (lvK2 0 rfl (Nat.ne_of_beq_eq_false rfl) (vr_cat _ _) (lvK1 2 rfl (Nat.ne_of_beq_eq_false rfl) (Nat.ne_of_beq_eq_false rfl) (lvK1 3 rfl (Nat.ne_of_beq_eq_false rfl) (Nat.ne_of_beq_eq_false rfl) lvK0))) (lvN1 (Nat.ne_of_beq_eq_false rfl) (lvN1 (Nat.ne_of_beq_eq_false rfl) (lvN1 (Nat.ne_of_beq_eq_false rfl) lvN0))) (fun ls hl => ?_)
      obtain ⟨a8, ea8, h⟩ := nm_some h
      have ra8 : R32 a8 := by rw [ea8]; exact w32_R _
      refine m_iinc (k := 3) (pc := 141) C dL_digest_141 hl rfl (by decide) ea8 (lvK1 0 rfl (Nat.ne_of_beq_eq_false rfl) (Nat.ne_of_beq_eq_false rfl) (lvK1 1 rfl (Nat.ne_of_beq_eq_false rfl) (Nat.ne_of_beq_eq_false rfl) (lvK2 2 rfl (Nat.ne_of_beq_eq_false rfl) rfl lvK0))) (fun ls hl => ?_)
      refine m_goto (tgt := 119) (pc := 144) C dL_digest_144 (by decide) ?_
      exact ih _ _ _ _ _ h ra7 rx3 ra8 _ _ _ hM (lv_sub hl [2, 1, 3, 0] rfl)
set_option maxHeartbeats 4000000 in
set_option maxRecDepth 100000 in
theorem k_L_digest_b107 (C : gCx p s m args meth c cL_digest 5 (some .long) "digest" RL) (N : Nat) {r : Int} {μ' : Mm} : ∀ (n : Nat), ∀ (x0 x1 x3 : Int) (μ : Mm), f_L_digest_b107 N n x0 x1 x3 μ = some (r, μ') → R64 x1 → R32 x3 → ∀ (H : Heap) (locs : List Loc) (ls : Array Slot), MS E μ s H locs → lv_has ls 5 [(0, vr E x0), (1, vl x1), (3, vi x3)] → W p l e ({ frames := 4, cells := 0, slots := 0, locals := 85 } : Room) s m args below meth c H locs 0 0 (MQ below (gQ E (some (vl r)) (R64 r) μ') args s 0 0 (gA E)) (F0 m 107 ls []) := by
  intro n
  induction n with
  | zero => intro x0 x1 x3 μ h; simp [f_L_digest_b107] at h
  | succ n ih =>
    intro x0 x1 x3 μ h rx1 rx3 H locs ls hM hl
    rw [f_L_digest_b107] at h
    refine m_iload_n (pc := 107) C dL_digest_107 rfl (lv_at hl 2 rfl) ?_
    refine m_aload_n (pc := 108) C dL_digest_108 rfl (lv_at hl 0 rfl) ?_
    refine m_iconst (pc := 109) C dL_digest_109 ?_
    obtain ⟨q1, h⟩ := ck_some h
    obtain ⟨a2, μ3, ca2, h⟩ := bd_some h
    refine V_X7_count (pc := 110) C hM ca2 rk_2 q1 bw_3_4 ⟨Nat.le_of_ble_eq_true rfl, Nat.le_of_ble_eq_true rfl⟩ hl.1 (rcI rc0) ⟨Nat.le_refl _, Nat.le_refl _⟩ dL_digest_110 (fun ra2 H locs hM => ?_)
    refine m_icmp_ge (tgt := 153) (pc := 113) C rx3 ra2 dL_digest_113 (by decide) (fun c4 => ?_) (fun c4 => ?_)
    · have h := if_t h c4
      refine m_iconst (pc := 153) C dL_digest_153 ?_
      refine m_istore_n (pc := 154) C dL_digest_154 rfl hl (by decide) (lvK1 0 rfl (Nat.ne_of_beq_eq_false rfl) (Nat.ne_of_beq_eq_false rfl) (lvK1 1 rfl (Nat.ne_of_beq_eq_false rfl) (Nat.ne_of_beq_eq_false rfl) lvK0)) (fun ls hl => ?_)
      exact k_L_digest_b155 C N N _ _ _ _ h rx1 rk_0 _ _ _ hM (lv_sub hl [1, 2, 0] rfl)
    · have h := if_f h c4
      refine m_iconst (pc := 116) C dL_digest_116 ?_
      refine m_istore (pc := 117) C dL_digest_117 hl (by decide) (lvK1 0 rfl (Nat.ne_of_beq_eq_false rfl) (Nat.ne_of_beq_eq_false rfl) (lvK1 1 rfl (Nat.ne_of_beq_eq_false rfl) (Nat.ne_of_beq_eq_false rfl) (lvK2 2 rfl (Nat.ne_of_beq_eq_false rfl) rfl lvK0))) (fun ls hl => ?_)
      exact k_L_digest_b119 C N _ ih N _ _ _ _ _ h rx1 rx3 rk_0 _ _ _ hM (lv_sub hl [1, 2, 3, 0] rfl)
set_option maxHeartbeats 4000000 in
set_option maxRecDepth 100000 in
theorem k_L_digest_b72 (C : gCx p s m args meth c cL_digest 5 (some .long) "digest" RL) (N : Nat) {r : Int} {μ' : Mm} (k60 : Int → Int → Int → Mm → Rs) (hk60 : ∀ (x0 x1 x3 : Int) (μ : Mm), k60 x0 x1 x3 μ = some (r, μ') → R64 x1 → R32 x3 → ∀ (H : Heap) (locs : List Loc) (ls : Array Slot), MS E μ s H locs → lv_has ls 5 [(0, vr E x0), (1, vl x1), (3, vi x3)] → W p l e ({ frames := 4, cells := 0, slots := 0, locals := 85 } : Room) s m args below meth c H locs 0 0 (MQ below (gQ E (some (vl r)) (R64 r) μ') args s 0 0 (gA E)) (F0 m 60 ls [])) : ∀ (n : Nat), ∀ (x0 x1 x3 x4 : Int) (μ : Mm), f_L_digest_b72 N k60 n x0 x1 x3 x4 μ = some (r, μ') → R64 x1 → R32 x3 → R32 x4 → ∀ (H : Heap) (locs : List Loc) (ls : Array Slot), MS E μ s H locs → lv_has ls 5 [(0, vr E x0), (1, vl x1), (3, vi x3), (4, vi x4)] → W p l e ({ frames := 4, cells := 0, slots := 0, locals := 85 } : Room) s m args below meth c H locs 0 0 (MQ below (gQ E (some (vl r)) (R64 r) μ') args s 0 0 (gA E)) (F0 m 72 ls []) := by
  intro n
  induction n with
  | zero => intro x0 x1 x3 x4 μ h; simp [f_L_digest_b72] at h
  | succ n ih =>
    intro x0 x1 x3 x4 μ h rx1 rx3 rx4 H locs ls hM hl
    rw [f_L_digest_b72] at h
    refine m_iload (pc := 72) C dL_digest_72 (lv_at hl 3 rfl) ?_
    refine m_bipush (pc := 74) C dL_digest_74 rfl ?_
    refine m_icmp_ge (tgt := 99) (pc := 76) C rx4 rk_7 dL_digest_76 (by decide) (fun c1 => ?_) (fun c1 => ?_)
    · have h := if_t h c1
      obtain ⟨a2, ea2, h⟩ := nm_some h
      have ra2 : R32 a2 := by rw [ea2]; exact w32_R _
      refine m_iinc (k := 2) (pc := 99) C dL_digest_99 hl rfl (by decide) ea2 (lvK1 0 rfl (Nat.ne_of_beq_eq_false rfl) (Nat.ne_of_beq_eq_false rfl) (lvK1 1 rfl (Nat.ne_of_beq_eq_false rfl) (Nat.ne_of_beq_eq_false rfl) lvK0)) (fun ls hl => ?_)
      refine m_goto (tgt := 60) (pc := 102) C dL_digest_102 (by decide) ?_
      exact hk60 _ _ _ _ h rx1 ra2 _ _ _ hM (lv_sub hl [1, 2, 0] rfl)
    · have h := if_f h c1
      refine m_ldc2 (n := 31) (pc := 79) C bw_3_25 rfl dL_digest_79 ?_
      refine m_lload_n (pc := 82) C dL_digest_82 rfl (lv_at hl 1 rfl) ?_
      obtain ⟨a3, ea3, h⟩ := nm_some h
      have ra3 : R64 a3 := by rw [ea3]; exact w64_R _
      refine m_lmul (pc := 83) C dL_digest_83 ea3 ?_
      refine m_aload_n (pc := 84) C dL_digest_84 rfl (lv_at hl 0 rfl) ?_
      refine m_iload_n (pc := 85) C dL_digest_85 rfl (lv_at hl 2 rfl) ?_
      refine m_iload (pc := 86) C dL_digest_86 (lv_at hl 3 rfl) ?_
      obtain ⟨q4, h⟩ := ck_some h
      obtain ⟨a5, μ6, ca5, h⟩ := bd_some h
      refine V_X7_owner (pc := 88) C hM ca5 rx3 rx4 q4 bw_3_30 ⟨Nat.le_of_ble_eq_true rfl, Nat.le_of_ble_eq_true rfl⟩ hl.1 (rcL rc0) ⟨Nat.le_refl _, Nat.le_refl _⟩ dL_digest_88 (fun ra5 H locs hM => ?_)
      obtain ⟨a7, ea7, h⟩ := nm_some h
      have ra7 : R64 a7 := by rw [ea7]; exact w64_R _
      refine m_ladd (pc := 91) C dL_digest_91 ea7 ?_
      refine m_lstore_n (pc := 92) C dL_digest_92 rfl hl (by decide) (lvK2 0 rfl (Nat.ne_of_beq_eq_false rfl) (vr_cat _ _) (lvK1 2 rfl (Nat.ne_of_beq_eq_false rfl) (Nat.ne_of_beq_eq_false rfl) (lvK1 3 rfl (Nat.ne_of_beq_eq_false rfl) (Nat.ne_of_beq_eq_false rfl) lvK0))) (lvN1 (Nat.ne_of_beq_eq_false rfl) (lvN1 (Nat.ne_of_beq_eq_false rfl) (lvN1 (Nat.ne_of_beq_eq_false rfl) lvN0))) (fun ls hl => ?_)
      obtain ⟨a8, ea8, h⟩ := nm_some h
      have ra8 : R32 a8 := by rw [ea8]; exact w32_R _
      refine m_iinc (k := 3) (pc := 93) C dL_digest_93 hl rfl (by decide) ea8 (lvK1 0 rfl (Nat.ne_of_beq_eq_false rfl) (Nat.ne_of_beq_eq_false rfl) (lvK1 1 rfl (Nat.ne_of_beq_eq_false rfl) (Nat.ne_of_beq_eq_false rfl) (lvK2 2 rfl (Nat.ne_of_beq_eq_false rfl) rfl lvK0))) (fun ls hl => ?_)
      refine m_goto (tgt := 72) (pc := 96) C dL_digest_96 (by decide) ?_
      exact ih _ _ _ _ _ h ra7 rx3 ra8 _ _ _ hM (lv_sub hl [2, 1, 3, 0] rfl)
set_option maxHeartbeats 4000000 in
set_option maxRecDepth 100000 in
theorem k_L_digest_b60 (C : gCx p s m args meth c cL_digest 5 (some .long) "digest" RL) (N : Nat) {r : Int} {μ' : Mm} : ∀ (n : Nat), ∀ (x0 x1 x3 : Int) (μ : Mm), f_L_digest_b60 N n x0 x1 x3 μ = some (r, μ') → R64 x1 → R32 x3 → ∀ (H : Heap) (locs : List Loc) (ls : Array Slot), MS E μ s H locs → lv_has ls 5 [(0, vr E x0), (1, vl x1), (3, vi x3)] → W p l e ({ frames := 4, cells := 0, slots := 0, locals := 85 } : Room) s m args below meth c H locs 0 0 (MQ below (gQ E (some (vl r)) (R64 r) μ') args s 0 0 (gA E)) (F0 m 60 ls []) := by
  intro n
  induction n with
  | zero => intro x0 x1 x3 μ h; simp [f_L_digest_b60] at h
  | succ n ih =>
    intro x0 x1 x3 μ h rx1 rx3 H locs ls hM hl
    rw [f_L_digest_b60] at h
    refine m_iload_n (pc := 60) C dL_digest_60 rfl (lv_at hl 2 rfl) ?_
    refine m_aload_n (pc := 61) C dL_digest_61 rfl (lv_at hl 0 rfl) ?_
    refine m_iconst (pc := 62) C dL_digest_62 ?_
    obtain ⟨q1, h⟩ := ck_some h
    obtain ⟨a2, μ3, ca2, h⟩ := bd_some h
    refine V_X7_count (pc := 63) C hM ca2 rk_1 q1 bw_3_4 ⟨Nat.le_of_ble_eq_true rfl, Nat.le_of_ble_eq_true rfl⟩ hl.1 (rcI rc0) ⟨Nat.le_refl _, Nat.le_refl _⟩ dL_digest_63 (fun ra2 H locs hM => ?_)
    refine m_icmp_ge (tgt := 105) (pc := 66) C rx3 ra2 dL_digest_66 (by decide) (fun c4 => ?_) (fun c4 => ?_)
    · have h := if_t h c4
      refine m_iconst (pc := 105) C dL_digest_105 ?_
      refine m_istore_n (pc := 106) C dL_digest_106 rfl hl (by decide) (lvK1 0 rfl (Nat.ne_of_beq_eq_false rfl) (Nat.ne_of_beq_eq_false rfl) (lvK1 1 rfl (Nat.ne_of_beq_eq_false rfl) (Nat.ne_of_beq_eq_false rfl) lvK0)) (fun ls hl => ?_)
      exact k_L_digest_b107 C N N _ _ _ _ h rx1 rk_0 _ _ _ hM (lv_sub hl [1, 2, 0] rfl)
    · have h := if_f h c4
      refine m_iconst (pc := 69) C dL_digest_69 ?_
      refine m_istore (pc := 70) C dL_digest_70 hl (by decide) (lvK1 0 rfl (Nat.ne_of_beq_eq_false rfl) (Nat.ne_of_beq_eq_false rfl) (lvK1 1 rfl (Nat.ne_of_beq_eq_false rfl) (Nat.ne_of_beq_eq_false rfl) (lvK2 2 rfl (Nat.ne_of_beq_eq_false rfl) rfl lvK0))) (fun ls hl => ?_)
      exact k_L_digest_b72 C N _ ih N _ _ _ _ _ h rx1 rx3 rk_0 _ _ _ hM (lv_sub hl [1, 2, 3, 0] rfl)
set_option maxHeartbeats 4000000 in
set_option maxRecDepth 100000 in
theorem k_L_digest_b33 (C : gCx p s m args meth c cL_digest 5 (some .long) "digest" RL) (N : Nat) {r : Int} {μ' : Mm} : ∀ (n : Nat), ∀ (x0 x1 x3 : Int) (μ : Mm), f_L_digest_b33 N n x0 x1 x3 μ = some (r, μ') → R64 x1 → R32 x3 → ∀ (H : Heap) (locs : List Loc) (ls : Array Slot), MS E μ s H locs → lv_has ls 5 [(0, vr E x0), (1, vl x1), (3, vi x3)] → W p l e ({ frames := 4, cells := 0, slots := 0, locals := 85 } : Room) s m args below meth c H locs 0 0 (MQ below (gQ E (some (vl r)) (R64 r) μ') args s 0 0 (gA E)) (F0 m 33 ls []) := by
  intro n
  induction n with
  | zero => intro x0 x1 x3 μ h; simp [f_L_digest_b33] at h
  | succ n ih =>
    intro x0 x1 x3 μ h rx1 rx3 H locs ls hM hl
    rw [f_L_digest_b33] at h
    refine m_iload_n (pc := 33) C dL_digest_33 rfl (lv_at hl 2 rfl) ?_
    refine m_bipush (pc := 34) C dL_digest_34 rfl ?_
    refine m_icmp_ge (tgt := 58) (pc := 36) C rx3 rk_6 dL_digest_36 (by decide) (fun c1 => ?_) (fun c1 => ?_)
    · have h := if_t h c1
      refine m_iconst (pc := 58) C dL_digest_58 ?_
      refine m_istore_n (pc := 59) C dL_digest_59 rfl hl (by decide) (lvK1 0 rfl (Nat.ne_of_beq_eq_false rfl) (Nat.ne_of_beq_eq_false rfl) (lvK1 1 rfl (Nat.ne_of_beq_eq_false rfl) (Nat.ne_of_beq_eq_false rfl) lvK0)) (fun ls hl => ?_)
      exact k_L_digest_b60 C N N _ _ _ _ h rx1 rk_0 _ _ _ hM (lv_sub hl [1, 2, 0] rfl)
    · have h := if_f h c1
      refine m_ldc2 (n := 31) (pc := 39) C bw_3_25 rfl dL_digest_39 ?_
      refine m_lload_n (pc := 42) C dL_digest_42 rfl (lv_at hl 1 rfl) ?_
      obtain ⟨a2, ea2, h⟩ := nm_some h
      have ra2 : R64 a2 := by rw [ea2]; exact w64_R _
      refine m_lmul (pc := 43) C dL_digest_43 ea2 ?_
      refine m_aload_n (pc := 44) C dL_digest_44 rfl (lv_at hl 0 rfl) ?_
      refine m_iload_n (pc := 45) C dL_digest_45 rfl (lv_at hl 2 rfl) ?_
      obtain ⟨q3, h⟩ := ck_some h
      obtain ⟨a4, μ5, ca4, h⟩ := bd_some h
      refine V_X7_rate (pc := 46) C hM ca4 rx3 q3 bw_3_26 ⟨Nat.le_of_ble_eq_true rfl, Nat.le_of_ble_eq_true rfl⟩ hl.1 (rcL rc0) ⟨Nat.le_refl _, Nat.le_refl _⟩ dL_digest_46 (fun ra4 H locs hM => ?_)
      refine m_i2l (pc := 49) C ra4 dL_digest_49 ?_
      obtain ⟨a6, ea6, h⟩ := nm_some h
      have ra6 : R64 a6 := by rw [ea6]; exact w64_R _
      refine m_ladd (pc := 50) C dL_digest_50 ea6 ?_
      refine m_lstore_n (pc := 51) C dL_digest_51 rfl hl (by decide) (lvK2 0 rfl (Nat.ne_of_beq_eq_false rfl) (vr_cat _ _) (lvK1 2 rfl (Nat.ne_of_beq_eq_false rfl) (Nat.ne_of_beq_eq_false rfl) lvK0)) (lvN1 (Nat.ne_of_beq_eq_false rfl) (lvN1 (Nat.ne_of_beq_eq_false rfl) lvN0)) (fun ls hl => ?_)
      obtain ⟨a7, ea7, h⟩ := nm_some h
      have ra7 : R32 a7 := by rw [ea7]; exact w32_R _
      refine m_iinc (k := 2) (pc := 52) C dL_digest_52 hl rfl (by decide) ea7 (lvK1 0 rfl (Nat.ne_of_beq_eq_false rfl) (Nat.ne_of_beq_eq_false rfl) (lvK1 1 rfl (Nat.ne_of_beq_eq_false rfl) (Nat.ne_of_beq_eq_false rfl) lvK0)) (fun ls hl => ?_)
      refine m_goto (tgt := 33) (pc := 55) C dL_digest_55 (by decide) ?_
      exact ih _ _ _ _ h ra6 ra7 _ _ _ hM (lv_sub hl [2, 1, 0] rfl)
set_option maxHeartbeats 4000000 in
set_option maxRecDepth 100000 in
theorem k_L_digest_b6 (C : gCx p s m args meth c cL_digest 5 (some .long) "digest" RL) (N : Nat) {r : Int} {μ' : Mm} : ∀ (n : Nat), ∀ (x0 x1 x3 : Int) (μ : Mm), f_L_digest_b6 N n x0 x1 x3 μ = some (r, μ') → R64 x1 → R32 x3 → ∀ (H : Heap) (locs : List Loc) (ls : Array Slot), MS E μ s H locs → lv_has ls 5 [(0, vr E x0), (1, vl x1), (3, vi x3)] → W p l e ({ frames := 4, cells := 0, slots := 0, locals := 85 } : Room) s m args below meth c H locs 0 0 (MQ below (gQ E (some (vl r)) (R64 r) μ') args s 0 0 (gA E)) (F0 m 6 ls []) := by
  intro n
  induction n with
  | zero => intro x0 x1 x3 μ h; simp [f_L_digest_b6] at h
  | succ n ih =>
    intro x0 x1 x3 μ h rx1 rx3 H locs ls hM hl
    rw [f_L_digest_b6] at h
    refine m_iload_n (pc := 6) C dL_digest_6 rfl (lv_at hl 2 rfl) ?_
    refine m_bipush (pc := 7) C dL_digest_7 rfl ?_
    refine m_icmp_ge (tgt := 31) (pc := 9) C rx3 rk_11 dL_digest_9 (by decide) (fun c1 => ?_) (fun c1 => ?_)
    · have h := if_t h c1
      refine m_iconst (pc := 31) C dL_digest_31 ?_
      refine m_istore_n (pc := 32) C dL_digest_32 rfl hl (by decide) (lvK1 0 rfl (Nat.ne_of_beq_eq_false rfl) (Nat.ne_of_beq_eq_false rfl) (lvK1 1 rfl (Nat.ne_of_beq_eq_false rfl) (Nat.ne_of_beq_eq_false rfl) lvK0)) (fun ls hl => ?_)
      exact k_L_digest_b33 C N N _ _ _ _ h rx1 rk_0 _ _ _ hM (lv_sub hl [1, 2, 0] rfl)
    · have h := if_f h c1
      refine m_ldc2 (n := 31) (pc := 12) C bw_3_25 rfl dL_digest_12 ?_
      refine m_lload_n (pc := 15) C dL_digest_15 rfl (lv_at hl 1 rfl) ?_
      obtain ⟨a2, ea2, h⟩ := nm_some h
      have ra2 : R64 a2 := by rw [ea2]; exact w64_R _
      refine m_lmul (pc := 16) C dL_digest_16 ea2 ?_
      refine m_aload_n (pc := 17) C dL_digest_17 rfl (lv_at hl 0 rfl) ?_
      refine m_iload_n (pc := 18) C dL_digest_18 rfl (lv_at hl 2 rfl) ?_
      obtain ⟨q3, h⟩ := ck_some h
      obtain ⟨a4, μ5, ca4, h⟩ := bd_some h
      refine V_X7_count (pc := 19) C hM ca4 rx3 q3 bw_3_4 ⟨Nat.le_of_ble_eq_true rfl, Nat.le_of_ble_eq_true rfl⟩ hl.1 (rcL rc0) ⟨Nat.le_refl _, Nat.le_refl _⟩ dL_digest_19 (fun ra4 H locs hM => ?_)
      refine m_i2l (pc := 22) C ra4 dL_digest_22 ?_
      obtain ⟨a6, ea6, h⟩ := nm_some h
      have ra6 : R64 a6 := by rw [ea6]; exact w64_R _
      refine m_ladd (pc := 23) C dL_digest_23 ea6 ?_
      refine m_lstore_n (pc := 24) C dL_digest_24 rfl hl (by decide) (lvK2 0 rfl (Nat.ne_of_beq_eq_false rfl) (vr_cat _ _) (lvK1 2 rfl (Nat.ne_of_beq_eq_false rfl) (Nat.ne_of_beq_eq_false rfl) lvK0)) (lvN1 (Nat.ne_of_beq_eq_false rfl) (lvN1 (Nat.ne_of_beq_eq_false rfl) lvN0)) (fun ls hl => ?_)
      obtain ⟨a7, ea7, h⟩ := nm_some h
      have ra7 : R32 a7 := by rw [ea7]; exact w32_R _
      refine m_iinc (k := 2) (pc := 25) C dL_digest_25 hl rfl (by decide) ea7 (lvK1 0 rfl (Nat.ne_of_beq_eq_false rfl) (Nat.ne_of_beq_eq_false rfl) (lvK1 1 rfl (Nat.ne_of_beq_eq_false rfl) (Nat.ne_of_beq_eq_false rfl) lvK0)) (fun ls hl => ?_)
      refine m_goto (tgt := 6) (pc := 28) C dL_digest_28 (by decide) ?_
      exact ih _ _ _ _ h ra6 ra7 _ _ _ hM (lv_sub hl [2, 1, 0] rfl)
set_option maxHeartbeats 4000000 in
set_option maxRecDepth 100000 in
theorem c_L_digest (l : Launch) (E : gE) (N : Nat) (x0 : Int) (μ μ' : Mm) (r : Int) (h : f_L_digest N x0 μ = some (r, μ')) : gMet l E yL_digest cL_digest 5 (some .long) 4 85 [vr E x0] (some (vl r)) (R64 r) μ μ' 0 0 := by
  refine g_ofW [1] (by first | (simp only [List.map_cons, List.map_nil, vr_cat]; done) | (simp only [List.map_cons, List.map_nil, vr_cat]; rfl)) (by decide) (by decide) (fun p e s m below meth c ls C hM hl => ?_)
  replace C : gCx p s m _ meth c cL_digest 5 (some .long) "digest" RL := C
  replace hl : lv_has ls 5 [(0, vr E x0)] := hl
  unfold f_L_digest at h
  refine m_ldc2 (n := 23) (pc := 0) C bw_3_24 rfl dL_digest_0 ?_
  refine m_lstore_n (pc := 3) C dL_digest_3 rfl hl (by decide) (lvK2 0 rfl (Nat.ne_of_beq_eq_false rfl) (vr_cat _ _) lvK0) (lvN1 (Nat.ne_of_beq_eq_false rfl) lvN0) (fun ls hl => ?_)
  refine m_iconst (pc := 4) C dL_digest_4 ?_
  refine m_istore_n (pc := 5) C dL_digest_5 rfl hl (by decide) (lvK1 0 rfl (Nat.ne_of_beq_eq_false rfl) (Nat.ne_of_beq_eq_false rfl) (lvK1 1 rfl (Nat.ne_of_beq_eq_false rfl) (Nat.ne_of_beq_eq_false rfl) lvK0)) (fun ls hl => ?_)
  exact k_L_digest_b6 C N N _ _ _ _ h rl_23 rk_0 _ _ _ hM (lv_sub hl [2, 1, 0] rfl)
theorem hd_L_digest : yL_digest.cls ≠ "java/lang/invoke/MethodHandle" ∧ yL_digest.cls ≠ "java/lang/invoke/VarHandle" ∧ (parseMethodDescriptor yL_digest.desc).map (fun d => d.parameters.length) = some 1 := by decide +kernel

theorem V_L_digest {p : Program} {l : Launch} {e : Env} {R : Room} {s : State} {m : MethodId} {args : Array Value} {below : List Frame} {meth : Method} {c : Code} {H : Heap} {locs : List Loc} {cells slots : Nat} {Q : State → Prop} {cc : ByteArray} {pc nL : Nat} {ls : Array Slot} {rest : List Value} {ret : Option FieldType} {nmm own : String} {E : gE} {μ μ1 : Mm} {index : Nat} (C : gCx p s m args meth c cc nL ret nmm own) (hM : MS E μ s H locs) {N : Nat} {x0 v : Int} (hc : f_L_digest N x0 μ = some (v, μ1)) (h1 : Cond.methodLink own index yL_digest ∈ bigL) (hR : 5 ≤ R.frames ∧ 109 ≤ R.locals) (hl : ls.size = nL) (hcat : RC rest 8) (hf : cells + 0 ≤ R.cells ∧ slots + 0 ≤ R.slots) (hdg : decode cc pc = .ok (.invokestatic index, 3)) (kk : (R64 v) → ∀ (H1 : Heap) (locs1 : List Loc), MS E μ1 s H1 locs1 → W p l e R s m args below meth c H1 locs1 (cells + 0) (slots + 0) Q (F0 m (pc + 3) ls (vl v :: rest))) : W p l e R s m args below meth c H locs cells slots Q (F0 m pc ls (vr E x0 :: rest)) := g_callS C hM (c_L_digest l E N x0 μ μ1 v hc) (gS h1 bw_3_22 bw_1_0 bw_3_23) hd_L_digest hR rfl hl rfl hcat hf hdg kk
/-! L_lots -/
def f_L_lots_b359 (N : Nat) (k13 : Int → Int → Int → Int → Int → Int → Mm → Rs) (x0 x1 x3 x5 x7 x9 : Int) (μ : Mm) : Rs :=
  ck (μ x0 (-2) = 9) <|
  bd (f_X7_lot N x0 x9 13 μ) fun a2 μ3 =>
  if a2 = ((-100000002)) then
    (nm (w32 (x9 + 1)) fun a5 =>
     k13 x0 x1 x3 x5 x7 a5 μ3)
  else
  some (0, μ3)
def f_L_lots_b141 (N : Nat) (k13 : Int → Int → Int → Int → Int → Int → Mm → Rs) (k84 : Int → Int → Int → Int → Int → Int → Int → Int → Int → Mm → Rs) (x0 x1 x3 x5 x7 x9 x11 x12 x13 y0 y1 : Int) (μ : Mm) : Rs :=
  nm (w32 (y0 + y1)) fun a1 =>
  if x13 = 0 then
    (nm (w32 (x11 + 0)) fun a3 =>
     nm (w32 (x12 + 1)) fun a4 =>
     k84 x0 x1 x3 x5 x7 x9 a1 a3 a4 μ)
  else
  ck (μ x0 (-2) = 9) <|
  bd (f_X7_exported N x0 x12 2 μ) fun a6 μ7 =>
  nm (w32 (x11 + a6)) fun a8 =>
  nm (w32 (x12 + 1)) fun a9 =>
  k84 x0 x1 x3 x5 x7 x9 a1 a8 a9 μ7
def f_L_lots_b121 (N : Nat) (k13 : Int → Int → Int → Int → Int → Int → Mm → Rs) (k84 : Int → Int → Int → Int → Int → Int → Int → Int → Int → Mm → Rs) (x0 x1 x3 x5 x7 x9 x10 x11 x12 y0 : Int) (μ : Mm) : Rs :=
  if y0 = 0 then
    (f_L_lots_b141 N k13 k84 x0 x1 x3 x5 x7 x9 x11 x12 y0 x10 0 μ)
  else
  ck (μ x0 (-2) = 9) <|
  bd (f_X7_exported N x0 x12 1 μ) fun a3 μ4 =>
  f_L_lots_b141 N k13 k84 x0 x1 x3 x5 x7 x9 x11 x12 y0 x10 a3 μ4
def f_L_lots_b120 (N : Nat) (k13 : Int → Int → Int → Int → Int → Int → Mm → Rs) (k84 : Int → Int → Int → Int → Int → Int → Int → Int → Int → Mm → Rs) (x0 x1 x3 x5 x7 x9 x10 x11 x12 : Int) (μ : Mm) : Rs :=
  f_L_lots_b121 N k13 k84 x0 x1 x3 x5 x7 x9 x10 x11 x12 0 μ
def f_L_lots_b84 (N : Nat) (k13 : Int → Int → Int → Int → Int → Int → Mm → Rs) : Nat → Int → Int → Int → Int → Int → Int → Int → Int → Int → Mm → Rs
  | 0, _, _, _, _, _, _, _, _, _, _ => none
  | n + 1, x0, x1, x3, x5, x7, x9, x10, x11, x12, μ =>
    ck (μ x0 (-2) = 9) <|
    bd (f_X7_count N x0 3 μ) fun a2 μ3 =>
    if a2 ≤ x12 then
      (ck (μ3 x0 (-2) = 9) <|
       bd (f_X7_lot N x0 x9 7 μ3) fun a6 μ7 =>
       ck (μ7 x0 (-2) = 9) <|
       bd (f_X7_lot N x0 x9 2 μ7) fun a9 μ10 =>
       nm (w64 (a9 - a6)) fun a11 =>
       ck (μ10 x0 (-2) = 9) <|
       bd (f_X7_lot N x0 x9 6 μ10) fun a13 μ14 =>
       ck (μ14 x0 (-2) = 9) <|
       bd (f_X7_lot N x0 x9 6 μ14) fun a16 μ17 =>
       nm (w64 (a16 * a11)) fun a18 =>
       ck (μ17 x0 (-2) = 9) <|
       bd (f_X7_lot N x0 x9 2 μ17) fun a20 μ21 =>
       ck (a20 ≠ 0) <|
       nm (w64 (Int.tdiv a18 a20)) fun a22 =>
       nm (w64 (a13 - a22)) fun a24 =>
       ck (μ21 x0 (-2) = 9) <|
       bd (f_X7_lot N x0 x9 6 μ21) fun a26 μ27 =>
       ck (μ27 x0 (-2) = 9) <|
       bd (f_X7_lot N x0 x9 8 μ27) fun a29 μ30 =>
       ck (μ30 x0 (-2) = 9) <|
       bd (f_X7_lot N x0 x9 9 μ30) fun a32 μ33 =>
       nm (w32 (a29 + a32)) fun a34 =>
       ck (μ33 x0 (-2) = 9) <|
       bd (f_X7_lot N x0 x9 10 μ33) fun a36 μ37 =>
       nm (w32 (a34 + a36)) fun a38 =>
       if ¬ a26 = a38 then
         (some (0, μ37))
       else
       if a6 < 0 then
         (some (0, μ37))
       else
       ck (μ37 x0 (-2) = 9) <|
       bd (f_X7_lot N x0 x9 2 μ37) fun a42 μ43 =>
       if a42 < a6 then
         (some (0, μ43))
       else
       ck (μ43 x0 (-2) = 9) <|
       bd (f_X7_lot N x0 x9 12 μ43) fun a46 μ47 =>
       if ¬ a46 = x10 then
         (some (0, μ47))
       else
       ck (μ47 x0 (-2) = 9) <|
       bd (f_X7_lot N x0 x9 8 μ47) fun a50 μ51 =>
       nm (w64 (a24 + x11)) fun a52 =>
       if ¬ a50 = a52 then
         (some (0, μ51))
       else
       ck (μ51 x0 (-2) = 9) <|
       bd (f_X7_lot N x0 x9 0 μ51) fun a55 μ56 =>
       if a55 < 0 then
         (some (0, μ56))
       else
       ck (μ56 x0 (-2) = 9) <|
       bd (f_X7_lot N x0 x9 0 μ56) fun a59 μ60 =>
       ck (μ60 x0 (-2) = 9) <|
       bd (f_X7_count N x0 1 μ60) fun a62 μ63 =>
       if a62 ≤ a59 then
         (some (0, μ63))
       else
       if a6 ≤ 0 then
         (f_L_lots_b359 N k13 x0 x1 x3 x5 x7 x9 μ63)
       else
       ck (μ63 x0 (-2) = 9) <|
       bd (f_X7_lot N x0 x9 5 μ63) fun a67 μ68 =>
       ck (μ68 x0 (-2) = 9) <|
       bd (f_X7_count N x0 0 μ68) fun a70 μ71 =>
       if a67 < a70 then
         (some (0, μ71))
       else
       f_L_lots_b359 N k13 x0 x1 x3 x5 x7 x9 μ71)
    else
    ck (μ3 x0 (-2) = 9) <|
    bd (f_X7_exported N x0 x12 0 μ3) fun a74 μ75 =>
    if ¬ a74 = x9 then
      (f_L_lots_b120 N k13 (f_L_lots_b84 N k13 n) x0 x1 x3 x5 x7 x9 x10 x11 x12 μ75)
    else
    ck (μ75 x0 (-2) = 9) <|
    bd (f_X7_exported N x0 x12 4 μ75) fun a78 μ79 =>
    if ¬ a78 = 0 then
      (f_L_lots_b120 N k13 (f_L_lots_b84 N k13 n) x0 x1 x3 x5 x7 x9 x10 x11 x12 μ79)
    else
    f_L_lots_b121 N k13 (f_L_lots_b84 N k13 n) x0 x1 x3 x5 x7 x9 x10 x11 x12 1 μ79
def f_L_lots_b13 (N : Nat) : Nat → Int → Int → Int → Int → Int → Int → Mm → Rs
  | 0, _, _, _, _, _, _, _ => none
  | n + 1, x0, x1, x3, x5, x7, x9, μ =>
    ck (μ x0 (-2) = 9) <|
    bd (f_X7_count N x0 2 μ) fun a2 μ3 =>
    if a2 ≤ x9 then
      (ck (μ3 x0 (-2) = 9) <|
       bd (f_X7_account N x0 0 μ3) fun a6 μ7 =>
       if ¬ a6 = x1 then
         (some (0, μ7))
       else
       ck (μ7 x0 (-2) = 9) <|
       bd (f_X7_account N x0 1 μ7) fun a10 μ11 =>
       if ¬ a10 = x3 then
         (some (0, μ11))
       else
       ck (μ11 x0 (-2) = 9) <|
       bd (f_X7_account N x0 2 μ11) fun a14 μ15 =>
       if ¬ a14 = x5 then
         (some (0, μ15))
       else
       ck (μ15 x0 (-2) = 9) <|
       bd (f_X7_account N x0 3 μ15) fun a18 μ19 =>
       if ¬ a18 = x7 then
         (some (0, μ19))
       else
       ck (μ19 x0 (-2) = 9) <|
       bd (f_X7_account N x0 7 μ19) fun a22 μ23 =>
       if ¬ a22 = ((-100000002)) then
         (some (0, μ23))
       else
       ck (μ23 x0 (-2) = 9) <|
       bd (f_X7_count N x0 2 μ23) fun a26 μ27 =>
       ck (μ27 x0 (-2) = 9) <|
       bd (f_X7_lot N x0 a26 0 μ27) fun a29 μ30 =>
       if ¬ a29 = ((-100000001)) then
         (some (0, μ30))
       else
       some (1, μ30))
    else
    ck (μ3 x0 (-2) = 9) <|
    bd (f_X7_lot N x0 x9 6 μ3) fun a33 μ34 =>
    nm (w64 (x1 + a33)) fun a35 =>
    ck (μ34 x0 (-2) = 9) <|
    bd (f_X7_lot N x0 x9 8 μ34) fun a37 μ38 =>
    nm (w64 (x3 + a37)) fun a39 =>
    ck (μ38 x0 (-2) = 9) <|
    bd (f_X7_lot N x0 x9 9 μ38) fun a41 μ42 =>
    nm (w64 (x5 + a41)) fun a43 =>
    ck (μ42 x0 (-2) = 9) <|
    bd (f_X7_lot N x0 x9 10 μ42) fun a45 μ46 =>
    nm (w64 (x7 + a45)) fun a47 =>
    f_L_lots_b84 N (f_L_lots_b13 N n) N x0 a35 a39 a43 a47 x9 0 0 0 μ46
def f_L_lots (N : Nat) (x0 : Int) (μ : Mm) : Rs :=
  f_L_lots_b13 N N x0 0 0 0 0 0 μ
set_option maxHeartbeats 4000000 in
set_option maxRecDepth 100000 in
theorem k_L_lots_b359 (C : gCx p s m args meth c cL_lots 17 (some .boolean) "lots" RL) (N : Nat) {r : Int} {μ' : Mm} (k13 : Int → Int → Int → Int → Int → Int → Mm → Rs) (hk13 : ∀ (x0 x1 x3 x5 x7 x9 : Int) (μ : Mm), k13 x0 x1 x3 x5 x7 x9 μ = some (r, μ') → R64 x1 → R64 x3 → R64 x5 → R64 x7 → R32 x9 → ∀ (H : Heap) (locs : List Loc) (ls : Array Slot), MS E μ s H locs → lv_has ls 17 [(0, vr E x0), (1, vl x1), (3, vl x3), (5, vl x5), (7, vl x7), (9, vi x9)] → W p l e ({ frames := 4, cells := 0, slots := 0, locals := 85 } : Room) s m args below meth c H locs 0 0 (MQ below (gQ E (some (vi r)) (R32 r) μ') args s 0 0 (gA E)) (F0 m 13 ls [])) : ∀ (x0 x1 x3 x5 x7 x9 : Int) (μ : Mm), f_L_lots_b359 N k13 x0 x1 x3 x5 x7 x9 μ = some (r, μ') → R64 x1 → R64 x3 → R64 x5 → R64 x7 → R32 x9 → ∀ (H : Heap) (locs : List Loc) (ls : Array Slot), MS E μ s H locs → lv_has ls 17 [(0, vr E x0), (1, vl x1), (3, vl x3), (5, vl x5), (7, vl x7), (9, vi x9)] → W p l e ({ frames := 4, cells := 0, slots := 0, locals := 85 } : Room) s m args below meth c H locs 0 0 (MQ below (gQ E (some (vi r)) (R32 r) μ') args s 0 0 (gA E)) (F0 m 359 ls []) := by
  intro x0 x1 x3 x5 x7 x9 μ h rx1 rx3 rx5 rx7 rx9 H locs ls hM hl
  unfold f_L_lots_b359 at h
  refine m_aload_n (pc := 359) C dL_lots_359 rfl (lv_at hl 0 rfl) ?_
  refine m_iload (pc := 360) C dL_lots_360 (lv_at hl 5 rfl) ?_
  refine m_bipush (pc := 362) C dL_lots_362 rfl ?_
  obtain ⟨q1, h⟩ := ck_some h
  obtain ⟨a2, μ3, ca2, h⟩ := bd_some h
  refine V_X7_lot (pc := 364) C hM ca2 rx9 rk_13 q1 bw_3_54 ⟨Nat.le_of_ble_eq_true rfl, Nat.le_of_ble_eq_true rfl⟩ hl.1 rc0 ⟨Nat.le_refl _, Nat.le_refl _⟩ dL_lots_364 (fun ra2 H locs hM => ?_)
  refine m_ldc (n := -100000002) (pc := 367) C bw_3_83 rfl dL_lots_367 ?_
  refine m_icmp_eq (tgt := 374) (pc := 369) C ra2 rk_m100000002 dL_lots_369 (by decide) (fun c4 => ?_) (fun c4 => ?_)
  · have h := if_t h c4
    obtain ⟨a5, ea5, h⟩ := nm_some h
    have ra5 : R32 a5 := by rw [ea5]; exact w32_R _
    refine m_iinc (k := 5) (pc := 374) C dL_lots_374 hl rfl (by decide) ea5 (lvK1 0 rfl (Nat.ne_of_beq_eq_false rfl) (Nat.ne_of_beq_eq_false rfl) (lvK1 1 rfl (Nat.ne_of_beq_eq_false rfl) (Nat.ne_of_beq_eq_false rfl) (lvK1 2 rfl (Nat.ne_of_beq_eq_false rfl) (Nat.ne_of_beq_eq_false rfl) (lvK1 3 rfl (Nat.ne_of_beq_eq_false rfl) (Nat.ne_of_beq_eq_false rfl) (lvK1 4 rfl (Nat.ne_of_beq_eq_false rfl) (Nat.ne_of_beq_eq_false rfl) lvK0))))) (fun ls hl => ?_)
    refine m_goto (tgt := 13) (pc := 377) C dL_lots_377 (by decide) ?_
    exact hk13 _ _ _ _ _ _ _ h rx1 rx3 rx5 rx7 ra5 _ _ _ hM (lv_sub hl [1, 2, 3, 4, 5, 0] rfl)
  · have h := if_f h c4
    refine m_iconst (pc := 372) C dL_lots_372 ?_
    cases h
    exact m_zret (pc := 373) C rfl hM rk_0 dL_lots_373
set_option maxHeartbeats 4000000 in
set_option maxRecDepth 100000 in
theorem k_L_lots_b141 (C : gCx p s m args meth c cL_lots 17 (some .boolean) "lots" RL) (N : Nat) {r : Int} {μ' : Mm} (k13 : Int → Int → Int → Int → Int → Int → Mm → Rs) (hk13 : ∀ (x0 x1 x3 x5 x7 x9 : Int) (μ : Mm), k13 x0 x1 x3 x5 x7 x9 μ = some (r, μ') → R64 x1 → R64 x3 → R64 x5 → R64 x7 → R32 x9 → ∀ (H : Heap) (locs : List Loc) (ls : Array Slot), MS E μ s H locs → lv_has ls 17 [(0, vr E x0), (1, vl x1), (3, vl x3), (5, vl x5), (7, vl x7), (9, vi x9)] → W p l e ({ frames := 4, cells := 0, slots := 0, locals := 85 } : Room) s m args below meth c H locs 0 0 (MQ below (gQ E (some (vi r)) (R32 r) μ') args s 0 0 (gA E)) (F0 m 13 ls [])) (k84 : Int → Int → Int → Int → Int → Int → Int → Int → Int → Mm → Rs) (hk84 : ∀ (x0 x1 x3 x5 x7 x9 x10 x11 x12 : Int) (μ : Mm), k84 x0 x1 x3 x5 x7 x9 x10 x11 x12 μ = some (r, μ') → R64 x1 → R64 x3 → R64 x5 → R64 x7 → R32 x9 → R32 x10 → R32 x11 → R32 x12 → ∀ (H : Heap) (locs : List Loc) (ls : Array Slot), MS E μ s H locs → lv_has ls 17 [(0, vr E x0), (1, vl x1), (3, vl x3), (5, vl x5), (7, vl x7), (9, vi x9), (10, vi x10), (11, vi x11), (12, vi x12)] → W p l e ({ frames := 4, cells := 0, slots := 0, locals := 85 } : Room) s m args below meth c H locs 0 0 (MQ below (gQ E (some (vi r)) (R32 r) μ') args s 0 0 (gA E)) (F0 m 84 ls [])) : ∀ (x0 x1 x3 x5 x7 x9 x11 x12 x13 y0 y1 : Int) (μ : Mm), f_L_lots_b141 N k13 k84 x0 x1 x3 x5 x7 x9 x11 x12 x13 y0 y1 μ = some (r, μ') → R64 x1 → R64 x3 → R64 x5 → R64 x7 → R32 x9 → R32 x11 → R32 x12 → R32 x13 → R32 y0 → R32 y1 → ∀ (H : Heap) (locs : List Loc) (ls : Array Slot), MS E μ s H locs → lv_has ls 17 [(0, vr E x0), (1, vl x1), (3, vl x3), (5, vl x5), (7, vl x7), (9, vi x9), (11, vi x11), (12, vi x12), (13, vi x13)] → W p l e ({ frames := 4, cells := 0, slots := 0, locals := 85 } : Room) s m args below meth c H locs 0 0 (MQ below (gQ E (some (vi r)) (R32 r) μ') args s 0 0 (gA E)) (F0 m 141 ls [vi y1, vi y0]) := by
  intro x0 x1 x3 x5 x7 x9 x11 x12 x13 y0 y1 μ h rx1 rx3 rx5 rx7 rx9 rx11 rx12 rx13 ry0 ry1 H locs ls hM hl
  unfold f_L_lots_b141 at h
  obtain ⟨a1, ea1, h⟩ := nm_some h
  have ra1 : R32 a1 := by rw [ea1]; exact w32_R _
  refine m_iadd (pc := 141) C dL_lots_141 ea1 ?_
  refine m_istore (pc := 142) C dL_lots_142 hl (by decide) (lvK1 0 rfl (Nat.ne_of_beq_eq_false rfl) (Nat.ne_of_beq_eq_false rfl) (lvK1 1 rfl (Nat.ne_of_beq_eq_false rfl) (Nat.ne_of_beq_eq_false rfl) (lvK1 2 rfl (Nat.ne_of_beq_eq_false rfl) (Nat.ne_of_beq_eq_false rfl) (lvK1 3 rfl (Nat.ne_of_beq_eq_false rfl) (Nat.ne_of_beq_eq_false rfl) (lvK1 4 rfl (Nat.ne_of_beq_eq_false rfl) (Nat.ne_of_beq_eq_false rfl) (lvK2 5 rfl (Nat.ne_of_beq_eq_false rfl) rfl (lvK1 6 rfl (Nat.ne_of_beq_eq_false rfl) (Nat.ne_of_beq_eq_false rfl) (lvK1 7 rfl (Nat.ne_of_beq_eq_false rfl) (Nat.ne_of_beq_eq_false rfl) (lvK1 8 rfl (Nat.ne_of_beq_eq_false rfl) (Nat.ne_of_beq_eq_false rfl) lvK0))))))))) (fun ls hl => ?_)
  refine m_iload (pc := 144) C dL_lots_144 (lv_at hl 7 rfl) ?_
  refine m_iload (pc := 146) C dL_lots_146 (lv_at hl 9 rfl) ?_
  refine m_if_eq (tgt := 161) (pc := 148) C rx13 dL_lots_148 (by decide) (fun c2 => ?_) (fun c2 => ?_)
  · have h := if_t h c2
    refine m_iconst (pc := 161) C dL_lots_161 ?_
    obtain ⟨a3, ea3, h⟩ := nm_some h
    have ra3 : R32 a3 := by rw [ea3]; exact w32_R _
    refine m_iadd (pc := 162) C dL_lots_162 ea3 ?_
    refine m_istore (pc := 163) C dL_lots_163 hl (by decide) (lvK2 0 rfl (Nat.ne_of_beq_eq_false rfl) rfl (lvK1 1 rfl (Nat.ne_of_beq_eq_false rfl) (Nat.ne_of_beq_eq_false rfl) (lvK1 2 rfl (Nat.ne_of_beq_eq_false rfl) (Nat.ne_of_beq_eq_false rfl) (lvK1 3 rfl (Nat.ne_of_beq_eq_false rfl) (Nat.ne_of_beq_eq_false rfl) (lvK1 4 rfl (Nat.ne_of_beq_eq_false rfl) (Nat.ne_of_beq_eq_false rfl) (lvK1 5 rfl (Nat.ne_of_beq_eq_false rfl) (Nat.ne_of_beq_eq_false rfl) (lvK1 6 rfl (Nat.ne_of_beq_eq_false rfl) (Nat.ne_of_beq_eq_false rfl) (lvK1 8 rfl (Nat.ne_of_beq_eq_false rfl) (Nat.ne_of_beq_eq_false rfl) lvK0)))))))) (fun ls hl => ?_)
    obtain ⟨a4, ea4, h⟩ := nm_some h
    have ra4 : R32 a4 := by rw [ea4]; exact w32_R _
    refine m_iinc (k := 8) (pc := 165) C dL_lots_165 hl rfl (by decide) ea4 (lvK2 0 rfl (Nat.ne_of_beq_eq_false rfl) rfl (lvK1 1 rfl (Nat.ne_of_beq_eq_false rfl) (Nat.ne_of_beq_eq_false rfl) (lvK1 2 rfl (Nat.ne_of_beq_eq_false rfl) (Nat.ne_of_beq_eq_false rfl) (lvK1 3 rfl (Nat.ne_of_beq_eq_false rfl) (Nat.ne_of_beq_eq_false rfl) (lvK1 4 rfl (Nat.ne_of_beq_eq_false rfl) (Nat.ne_of_beq_eq_false rfl) (lvK1 5 rfl (Nat.ne_of_beq_eq_false rfl) (Nat.ne_of_beq_eq_false rfl) (lvK1 6 rfl (Nat.ne_of_beq_eq_false rfl) (Nat.ne_of_beq_eq_false rfl) (lvK1 7 rfl (Nat.ne_of_beq_eq_false rfl) (Nat.ne_of_beq_eq_false rfl) lvK0)))))))) (fun ls hl => ?_)
    refine m_goto (tgt := 84) (pc := 168) C dL_lots_168 (by decide) ?_
    exact hk84 _ _ _ _ _ _ _ _ _ _ h rx1 rx3 rx5 rx7 rx9 ra1 ra3 ra4 _ _ _ hM (lv_sub hl [3, 4, 5, 6, 7, 8, 2, 1, 0] rfl)
  · have h := if_f h c2
    refine m_aload_n (pc := 151) C dL_lots_151 rfl (lv_at hl 1 rfl) ?_
    refine m_iload (pc := 152) C dL_lots_152 (lv_at hl 8 rfl) ?_
    refine m_iconst (pc := 154) C dL_lots_154 ?_
    obtain ⟨q5, h⟩ := ck_some h
    obtain ⟨a6, μ7, ca6, h⟩ := bd_some h
    refine V_X7_exported (pc := 155) C hM ca6 rx12 rk_2 q5 bw_2_226 ⟨Nat.le_of_ble_eq_true rfl, Nat.le_of_ble_eq_true rfl⟩ hl.1 (rcI rc0) ⟨Nat.le_refl _, Nat.le_refl _⟩ dL_lots_155 (fun ra6 H locs hM => ?_)
    refine m_goto (tgt := 162) (pc := 158) C dL_lots_158 (by decide) ?_
    obtain ⟨a8, ea8, h⟩ := nm_some h
    have ra8 : R32 a8 := by rw [ea8]; exact w32_R _
    refine m_iadd (pc := 162) C dL_lots_162 ea8 ?_
    refine m_istore (pc := 163) C dL_lots_163 hl (by decide) (lvK2 0 rfl (Nat.ne_of_beq_eq_false rfl) rfl (lvK1 1 rfl (Nat.ne_of_beq_eq_false rfl) (Nat.ne_of_beq_eq_false rfl) (lvK1 2 rfl (Nat.ne_of_beq_eq_false rfl) (Nat.ne_of_beq_eq_false rfl) (lvK1 3 rfl (Nat.ne_of_beq_eq_false rfl) (Nat.ne_of_beq_eq_false rfl) (lvK1 4 rfl (Nat.ne_of_beq_eq_false rfl) (Nat.ne_of_beq_eq_false rfl) (lvK1 5 rfl (Nat.ne_of_beq_eq_false rfl) (Nat.ne_of_beq_eq_false rfl) (lvK1 6 rfl (Nat.ne_of_beq_eq_false rfl) (Nat.ne_of_beq_eq_false rfl) (lvK1 8 rfl (Nat.ne_of_beq_eq_false rfl) (Nat.ne_of_beq_eq_false rfl) lvK0)))))))) (fun ls hl => ?_)
    obtain ⟨a9, ea9, h⟩ := nm_some h
    have ra9 : R32 a9 := by rw [ea9]; exact w32_R _
    refine m_iinc (k := 8) (pc := 165) C dL_lots_165 hl rfl (by decide) ea9 (lvK2 0 rfl (Nat.ne_of_beq_eq_false rfl) rfl (lvK1 1 rfl (Nat.ne_of_beq_eq_false rfl) (Nat.ne_of_beq_eq_false rfl) (lvK1 2 rfl (Nat.ne_of_beq_eq_false rfl) (Nat.ne_of_beq_eq_false rfl) (lvK1 3 rfl (Nat.ne_of_beq_eq_false rfl) (Nat.ne_of_beq_eq_false rfl) (lvK1 4 rfl (Nat.ne_of_beq_eq_false rfl) (Nat.ne_of_beq_eq_false rfl) (lvK1 5 rfl (Nat.ne_of_beq_eq_false rfl) (Nat.ne_of_beq_eq_false rfl) (lvK1 6 rfl (Nat.ne_of_beq_eq_false rfl) (Nat.ne_of_beq_eq_false rfl) (lvK1 7 rfl (Nat.ne_of_beq_eq_false rfl) (Nat.ne_of_beq_eq_false rfl) lvK0)))))))) (fun ls hl => ?_)
    refine m_goto (tgt := 84) (pc := 168) C dL_lots_168 (by decide) ?_
    exact hk84 _ _ _ _ _ _ _ _ _ _ h rx1 rx3 rx5 rx7 rx9 ra1 ra8 ra9 _ _ _ hM (lv_sub hl [3, 4, 5, 6, 7, 8, 2, 1, 0] rfl)
set_option maxHeartbeats 4000000 in
set_option maxRecDepth 100000 in
theorem k_L_lots_b121 (C : gCx p s m args meth c cL_lots 17 (some .boolean) "lots" RL) (N : Nat) {r : Int} {μ' : Mm} (k13 : Int → Int → Int → Int → Int → Int → Mm → Rs) (hk13 : ∀ (x0 x1 x3 x5 x7 x9 : Int) (μ : Mm), k13 x0 x1 x3 x5 x7 x9 μ = some (r, μ') → R64 x1 → R64 x3 → R64 x5 → R64 x7 → R32 x9 → ∀ (H : Heap) (locs : List Loc) (ls : Array Slot), MS E μ s H locs → lv_has ls 17 [(0, vr E x0), (1, vl x1), (3, vl x3), (5, vl x5), (7, vl x7), (9, vi x9)] → W p l e ({ frames := 4, cells := 0, slots := 0, locals := 85 } : Room) s m args below meth c H locs 0 0 (MQ below (gQ E (some (vi r)) (R32 r) μ') args s 0 0 (gA E)) (F0 m 13 ls [])) (k84 : Int → Int → Int → Int → Int → Int → Int → Int → Int → Mm → Rs) (hk84 : ∀ (x0 x1 x3 x5 x7 x9 x10 x11 x12 : Int) (μ : Mm), k84 x0 x1 x3 x5 x7 x9 x10 x11 x12 μ = some (r, μ') → R64 x1 → R64 x3 → R64 x5 → R64 x7 → R32 x9 → R32 x10 → R32 x11 → R32 x12 → ∀ (H : Heap) (locs : List Loc) (ls : Array Slot), MS E μ s H locs → lv_has ls 17 [(0, vr E x0), (1, vl x1), (3, vl x3), (5, vl x5), (7, vl x7), (9, vi x9), (10, vi x10), (11, vi x11), (12, vi x12)] → W p l e ({ frames := 4, cells := 0, slots := 0, locals := 85 } : Room) s m args below meth c H locs 0 0 (MQ below (gQ E (some (vi r)) (R32 r) μ') args s 0 0 (gA E)) (F0 m 84 ls [])) : ∀ (x0 x1 x3 x5 x7 x9 x10 x11 x12 y0 : Int) (μ : Mm), f_L_lots_b121 N k13 k84 x0 x1 x3 x5 x7 x9 x10 x11 x12 y0 μ = some (r, μ') → R64 x1 → R64 x3 → R64 x5 → R64 x7 → R32 x9 → R32 x10 → R32 x11 → R32 x12 → R32 y0 → ∀ (H : Heap) (locs : List Loc) (ls : Array Slot), MS E μ s H locs → lv_has ls 17 [(0, vr E x0), (1, vl x1), (3, vl x3), (5, vl x5), (7, vl x7), (9, vi x9), (10, vi x10), (11, vi x11), (12, vi x12)] → W p l e ({ frames := 4, cells := 0, slots := 0, locals := 85 } : Room) s m args below meth c H locs 0 0 (MQ below (gQ E (some (vi r)) (R32 r) μ') args s 0 0 (gA E)) (F0 m 121 ls [vi y0]) := by
  intro x0 x1 x3 x5 x7 x9 x10 x11 x12 y0 μ h rx1 rx3 rx5 rx7 rx9 rx10 rx11 rx12 ry0 H locs ls hM hl
  unfold f_L_lots_b121 at h
  refine m_istore (pc := 121) C dL_lots_121 hl (by decide) (lvK1 0 rfl (Nat.ne_of_beq_eq_false rfl) (Nat.ne_of_beq_eq_false rfl) (lvK1 1 rfl (Nat.ne_of_beq_eq_false rfl) (Nat.ne_of_beq_eq_false rfl) (lvK1 2 rfl (Nat.ne_of_beq_eq_false rfl) (Nat.ne_of_beq_eq_false rfl) (lvK1 3 rfl (Nat.ne_of_beq_eq_false rfl) (Nat.ne_of_beq_eq_false rfl) (lvK1 4 rfl (Nat.ne_of_beq_eq_false rfl) (Nat.ne_of_beq_eq_false rfl) (lvK1 5 rfl (Nat.ne_of_beq_eq_false rfl) (Nat.ne_of_beq_eq_false rfl) (lvK1 6 rfl (Nat.ne_of_beq_eq_false rfl) (Nat.ne_of_beq_eq_false rfl) (lvK1 7 rfl (Nat.ne_of_beq_eq_false rfl) (Nat.ne_of_beq_eq_false rfl) (lvK2 8 rfl (Nat.ne_of_beq_eq_false rfl) rfl lvK0))))))))) (fun ls hl => ?_)
  refine m_iload (pc := 123) C dL_lots_123 (lv_at hl 7 rfl) ?_
  refine m_iload (pc := 125) C dL_lots_125 (lv_at hl 0 rfl) ?_
  refine m_if_eq (tgt := 140) (pc := 127) C ry0 dL_lots_127 (by decide) (fun c1 => ?_) (fun c1 => ?_)
  · have h := if_t h c1
    refine m_iconst (pc := 140) C dL_lots_140 ?_
    exact k_L_lots_b141 C N _ hk13 _ hk84 _ _ _ _ _ _ _ _ _ _ _ _ h rx1 rx3 rx5 rx7 rx9 rx11 rx12 ry0 rx10 rk_0 _ _ _ hM (lv_sub hl [1, 2, 3, 4, 5, 6, 8, 9, 0] rfl)
  · have h := if_f h c1
    refine m_aload_n (pc := 130) C dL_lots_130 rfl (lv_at hl 1 rfl) ?_
    refine m_iload (pc := 131) C dL_lots_131 (lv_at hl 9 rfl) ?_
    refine m_iconst (pc := 133) C dL_lots_133 ?_
    obtain ⟨q2, h⟩ := ck_some h
    obtain ⟨a3, μ4, ca3, h⟩ := bd_some h
    refine V_X7_exported (pc := 134) C hM ca3 rx12 rk_1 q2 bw_2_226 ⟨Nat.le_of_ble_eq_true rfl, Nat.le_of_ble_eq_true rfl⟩ hl.1 (rcI rc0) ⟨Nat.le_refl _, Nat.le_refl _⟩ dL_lots_134 (fun ra3 H locs hM => ?_)
    refine m_goto (tgt := 141) (pc := 137) C dL_lots_137 (by decide) ?_
    exact k_L_lots_b141 C N _ hk13 _ hk84 _ _ _ _ _ _ _ _ _ _ _ _ h rx1 rx3 rx5 rx7 rx9 rx11 rx12 ry0 rx10 ra3 _ _ _ hM (lv_sub hl [1, 2, 3, 4, 5, 6, 8, 9, 0] rfl)
set_option maxHeartbeats 4000000 in
set_option maxRecDepth 100000 in
theorem k_L_lots_b120 (C : gCx p s m args meth c cL_lots 17 (some .boolean) "lots" RL) (N : Nat) {r : Int} {μ' : Mm} (k13 : Int → Int → Int → Int → Int → Int → Mm → Rs) (hk13 : ∀ (x0 x1 x3 x5 x7 x9 : Int) (μ : Mm), k13 x0 x1 x3 x5 x7 x9 μ = some (r, μ') → R64 x1 → R64 x3 → R64 x5 → R64 x7 → R32 x9 → ∀ (H : Heap) (locs : List Loc) (ls : Array Slot), MS E μ s H locs → lv_has ls 17 [(0, vr E x0), (1, vl x1), (3, vl x3), (5, vl x5), (7, vl x7), (9, vi x9)] → W p l e ({ frames := 4, cells := 0, slots := 0, locals := 85 } : Room) s m args below meth c H locs 0 0 (MQ below (gQ E (some (vi r)) (R32 r) μ') args s 0 0 (gA E)) (F0 m 13 ls [])) (k84 : Int → Int → Int → Int → Int → Int → Int → Int → Int → Mm → Rs) (hk84 : ∀ (x0 x1 x3 x5 x7 x9 x10 x11 x12 : Int) (μ : Mm), k84 x0 x1 x3 x5 x7 x9 x10 x11 x12 μ = some (r, μ') → R64 x1 → R64 x3 → R64 x5 → R64 x7 → R32 x9 → R32 x10 → R32 x11 → R32 x12 → ∀ (H : Heap) (locs : List Loc) (ls : Array Slot), MS E μ s H locs → lv_has ls 17 [(0, vr E x0), (1, vl x1), (3, vl x3), (5, vl x5), (7, vl x7), (9, vi x9), (10, vi x10), (11, vi x11), (12, vi x12)] → W p l e ({ frames := 4, cells := 0, slots := 0, locals := 85 } : Room) s m args below meth c H locs 0 0 (MQ below (gQ E (some (vi r)) (R32 r) μ') args s 0 0 (gA E)) (F0 m 84 ls [])) : ∀ (x0 x1 x3 x5 x7 x9 x10 x11 x12 : Int) (μ : Mm), f_L_lots_b120 N k13 k84 x0 x1 x3 x5 x7 x9 x10 x11 x12 μ = some (r, μ') → R64 x1 → R64 x3 → R64 x5 → R64 x7 → R32 x9 → R32 x10 → R32 x11 → R32 x12 → ∀ (H : Heap) (locs : List Loc) (ls : Array Slot), MS E μ s H locs → lv_has ls 17 [(0, vr E x0), (1, vl x1), (3, vl x3), (5, vl x5), (7, vl x7), (9, vi x9), (10, vi x10), (11, vi x11), (12, vi x12)] → W p l e ({ frames := 4, cells := 0, slots := 0, locals := 85 } : Room) s m args below meth c H locs 0 0 (MQ below (gQ E (some (vi r)) (R32 r) μ') args s 0 0 (gA E)) (F0 m 120 ls []) := by
  intro x0 x1 x3 x5 x7 x9 x10 x11 x12 μ h rx1 rx3 rx5 rx7 rx9 rx10 rx11 rx12 H locs ls hM hl
  unfold f_L_lots_b120 at h
  refine m_iconst (pc := 120) C dL_lots_120 ?_
  exact k_L_lots_b121 C N _ hk13 _ hk84 _ _ _ _ _ _ _ _ _ _ _ h rx1 rx3 rx5 rx7 rx9 rx10 rx11 rx12 rk_0 _ _ _ hM (lv_sub hl [0, 1, 2, 3, 4, 5, 6, 7, 8] rfl)
set_option maxHeartbeats 4000000 in
set_option maxRecDepth 100000 in
theorem k_L_lots_b84 (C : gCx p s m args meth c cL_lots 17 (some .boolean) "lots" RL) (N : Nat) {r : Int} {μ' : Mm} (k13 : Int → Int → Int → Int → Int → Int → Mm → Rs) (hk13 : ∀ (x0 x1 x3 x5 x7 x9 : Int) (μ : Mm), k13 x0 x1 x3 x5 x7 x9 μ = some (r, μ') → R64 x1 → R64 x3 → R64 x5 → R64 x7 → R32 x9 → ∀ (H : Heap) (locs : List Loc) (ls : Array Slot), MS E μ s H locs → lv_has ls 17 [(0, vr E x0), (1, vl x1), (3, vl x3), (5, vl x5), (7, vl x7), (9, vi x9)] → W p l e ({ frames := 4, cells := 0, slots := 0, locals := 85 } : Room) s m args below meth c H locs 0 0 (MQ below (gQ E (some (vi r)) (R32 r) μ') args s 0 0 (gA E)) (F0 m 13 ls [])) : ∀ (n : Nat), ∀ (x0 x1 x3 x5 x7 x9 x10 x11 x12 : Int) (μ : Mm), f_L_lots_b84 N k13 n x0 x1 x3 x5 x7 x9 x10 x11 x12 μ = some (r, μ') → R64 x1 → R64 x3 → R64 x5 → R64 x7 → R32 x9 → R32 x10 → R32 x11 → R32 x12 → ∀ (H : Heap) (locs : List Loc) (ls : Array Slot), MS E μ s H locs → lv_has ls 17 [(0, vr E x0), (1, vl x1), (3, vl x3), (5, vl x5), (7, vl x7), (9, vi x9), (10, vi x10), (11, vi x11), (12, vi x12)] → W p l e ({ frames := 4, cells := 0, slots := 0, locals := 85 } : Room) s m args below meth c H locs 0 0 (MQ below (gQ E (some (vi r)) (R32 r) μ') args s 0 0 (gA E)) (F0 m 84 ls []) := by
  intro n
  induction n with
  | zero => intro x0 x1 x3 x5 x7 x9 x10 x11 x12 μ h; simp [f_L_lots_b84] at h
  | succ n ih =>
    intro x0 x1 x3 x5 x7 x9 x10 x11 x12 μ h rx1 rx3 rx5 rx7 rx9 rx10 rx11 rx12 H locs ls hM hl
    rw [f_L_lots_b84] at h
    refine m_iload (pc := 84) C dL_lots_84 (lv_at hl 8 rfl) ?_
    refine m_aload_n (pc := 86) C dL_lots_86 rfl (lv_at hl 0 rfl) ?_
    refine m_iconst (pc := 87) C dL_lots_87 ?_
    obtain ⟨q1, h⟩ := ck_some h
    obtain ⟨a2, μ3, ca2, h⟩ := bd_some h
    refine V_X7_count (pc := 88) C hM ca2 rk_3 q1 bw_3_4 ⟨Nat.le_of_ble_eq_true rfl, Nat.le_of_ble_eq_true rfl⟩ hl.1 (rcI rc0) ⟨Nat.le_refl _, Nat.le_refl _⟩ dL_lots_88 (fun ra2 H locs hM => ?_)
    refine m_icmp_ge (tgt := 171) (pc := 91) C rx12 ra2 dL_lots_91 (by decide) (fun c4 => ?_) (fun c4 => ?_)
    · have h := if_t h c4
      refine m_aload_n (pc := 171) C dL_lots_171 rfl (lv_at hl 0 rfl) ?_
      refine m_iload (pc := 172) C dL_lots_172 (lv_at hl 5 rfl) ?_
      refine m_bipush (pc := 174) C dL_lots_174 rfl ?_
      obtain ⟨q5, h⟩ := ck_some h
      obtain ⟨a6, μ7, ca6, h⟩ := bd_some h
      refine V_X7_lot (pc := 176) C hM ca6 rx9 rk_7 q5 bw_3_54 ⟨Nat.le_of_ble_eq_true rfl, Nat.le_of_ble_eq_true rfl⟩ hl.1 rc0 ⟨Nat.le_refl _, Nat.le_refl _⟩ dL_lots_176 (fun ra6 H locs hM => ?_)
      refine m_istore (pc := 179) C dL_lots_179 hl (by decide) (lvK1 0 rfl (Nat.ne_of_beq_eq_false rfl) (Nat.ne_of_beq_eq_false rfl) (lvK1 1 rfl (Nat.ne_of_beq_eq_false rfl) (Nat.ne_of_beq_eq_false rfl) (lvK1 2 rfl (Nat.ne_of_beq_eq_false rfl) (Nat.ne_of_beq_eq_false rfl) (lvK1 3 rfl (Nat.ne_of_beq_eq_false rfl) (Nat.ne_of_beq_eq_false rfl) (lvK1 4 rfl (Nat.ne_of_beq_eq_false rfl) (Nat.ne_of_beq_eq_false rfl) (lvK1 5 rfl (Nat.ne_of_beq_eq_false rfl) (Nat.ne_of_beq_eq_false rfl) (lvK1 6 rfl (Nat.ne_of_beq_eq_false rfl) (Nat.ne_of_beq_eq_false rfl) (lvK2 7 rfl (Nat.ne_of_beq_eq_false rfl) rfl lvK0)))))))) (fun ls hl => ?_)
      refine m_aload_n (pc := 181) C dL_lots_181 rfl (lv_at hl 1 rfl) ?_
      refine m_iload (pc := 182) C dL_lots_182 (lv_at hl 6 rfl) ?_
      refine m_iconst (pc := 184) C dL_lots_184 ?_
      obtain ⟨q8, h⟩ := ck_some h
      obtain ⟨a9, μ10, ca9, h⟩ := bd_some h
      refine V_X7_lot (pc := 185) C hM ca9 rx9 rk_2 q8 bw_3_54 ⟨Nat.le_of_ble_eq_true rfl, Nat.le_of_ble_eq_true rfl⟩ hl.1 rc0 ⟨Nat.le_refl _, Nat.le_refl _⟩ dL_lots_185 (fun ra9 H locs hM => ?_)
      refine m_i2l (pc := 188) C ra9 dL_lots_188 ?_
      refine m_iload (pc := 189) C dL_lots_189 (lv_at hl 0 rfl) ?_
      refine m_i2l (pc := 191) C ra6 dL_lots_191 ?_
      obtain ⟨a11, ea11, h⟩ := nm_some h
      have ra11 : R64 a11 := by rw [ea11]; exact w64_R _
      refine m_lsub (pc := 192) C dL_lots_192 ea11 ?_
      refine m_lstore (pc := 193) C dL_lots_193 hl (by decide) (lvK2 0 rfl (Nat.ne_of_beq_eq_false rfl) rfl (lvK1 1 rfl (Nat.ne_of_beq_eq_false rfl) (Nat.ne_of_beq_eq_false rfl) (lvK1 2 rfl (Nat.ne_of_beq_eq_false rfl) (Nat.ne_of_beq_eq_false rfl) (lvK1 3 rfl (Nat.ne_of_beq_eq_false rfl) (Nat.ne_of_beq_eq_false rfl) (lvK1 4 rfl (Nat.ne_of_beq_eq_false rfl) (Nat.ne_of_beq_eq_false rfl) (lvK1 5 rfl (Nat.ne_of_beq_eq_false rfl) (Nat.ne_of_beq_eq_false rfl) (lvK1 6 rfl (Nat.ne_of_beq_eq_false rfl) (Nat.ne_of_beq_eq_false rfl) (lvK1 7 rfl (Nat.ne_of_beq_eq_false rfl) (Nat.ne_of_beq_eq_false rfl) (lvK1 8 rfl (Nat.ne_of_beq_eq_false rfl) (Nat.ne_of_beq_eq_false rfl) lvK0))))))))) (lvN1 (Nat.ne_of_beq_eq_false rfl) (lvN1 (Nat.ne_of_beq_eq_false rfl) (lvN1 (Nat.ne_of_beq_eq_false rfl) (lvN1 (Nat.ne_of_beq_eq_false rfl) (lvN1 (Nat.ne_of_beq_eq_false rfl) (lvN1 (Nat.ne_of_beq_eq_false rfl) (lvN1 (Nat.ne_of_beq_eq_false rfl) (lvN1 (Nat.ne_of_beq_eq_false rfl) (lvN1 (Nat.ne_of_beq_eq_false rfl) lvN0))))))))) (fun ls hl => ?_)
      refine m_aload_n (pc := 195) C dL_lots_195 rfl (lv_at hl 2 rfl) ?_
      refine m_iload (pc := 196) C dL_lots_196 (lv_at hl 7 rfl) ?_
      refine m_bipush (pc := 198) C dL_lots_198 rfl ?_
      obtain ⟨q12, h⟩ := ck_some h
      obtain ⟨a13, μ14, ca13, h⟩ := bd_some h
      refine V_X7_lot (pc := 200) C hM ca13 rx9 rk_6 q12 bw_3_54 ⟨Nat.le_of_ble_eq_true rfl, Nat.le_of_ble_eq_true rfl⟩ hl.1 rc0 ⟨Nat.le_refl _, Nat.le_refl _⟩ dL_lots_200 (fun ra13 H locs hM => ?_)
      refine m_i2l (pc := 203) C ra13 dL_lots_203 ?_
      refine m_aload_n (pc := 204) C dL_lots_204 rfl (lv_at hl 2 rfl) ?_
      refine m_iload (pc := 205) C dL_lots_205 (lv_at hl 7 rfl) ?_
      refine m_bipush (pc := 207) C dL_lots_207 rfl ?_
      obtain ⟨q15, h⟩ := ck_some h
      obtain ⟨a16, μ17, ca16, h⟩ := bd_some h
      refine V_X7_lot (pc := 209) C hM ca16 rx9 rk_6 q15 bw_3_54 ⟨Nat.le_of_ble_eq_true rfl, Nat.le_of_ble_eq_true rfl⟩ hl.1 (rcL rc0) ⟨Nat.le_refl _, Nat.le_refl _⟩ dL_lots_209 (fun ra16 H locs hM => ?_)
      refine m_i2l (pc := 212) C ra16 dL_lots_212 ?_
      refine m_lload (pc := 213) C dL_lots_213 (lv_at hl 0 rfl) ?_
      obtain ⟨a18, ea18, h⟩ := nm_some h
      have ra18 : R64 a18 := by rw [ea18]; exact w64_R _
      refine m_lmul (pc := 215) C dL_lots_215 ea18 ?_
      refine m_aload_n (pc := 216) C dL_lots_216 rfl (lv_at hl 2 rfl) ?_
      refine m_iload (pc := 217) C dL_lots_217 (lv_at hl 7 rfl) ?_
      refine m_iconst (pc := 219) C dL_lots_219 ?_
      obtain ⟨q19, h⟩ := ck_some h
      obtain ⟨a20, μ21, ca20, h⟩ := bd_some h
      refine V_X7_lot (pc := 220) C hM ca20 rx9 rk_2 q19 bw_3_54 ⟨Nat.le_of_ble_eq_true rfl, Nat.le_of_ble_eq_true rfl⟩ hl.1 (rcL (rcL rc0)) ⟨Nat.le_refl _, Nat.le_refl _⟩ dL_lots_220 (fun ra20 H locs hM => ?_)
      refine m_i2l (pc := 223) C ra20 dL_lots_223 ?_
      obtain ⟨q23, h⟩ := ck_some h
      obtain ⟨a22, ea22, h⟩ := nm_some h
      have ra22 : R64 a22 := by rw [ea22]; exact w64_R _
      refine m_ldiv (pc := 224) C ra18 (R32.to64 ra20) q23 dL_lots_224 ea22 ?_
      obtain ⟨a24, ea24, h⟩ := nm_some h
      have ra24 : R64 a24 := by rw [ea24]; exact w64_R _
      refine m_lsub (pc := 225) C dL_lots_225 ea24 ?_
      refine m_lstore (pc := 226) C dL_lots_226 hl (by decide) (lvK1 1 rfl (Nat.ne_of_beq_eq_false rfl) (Nat.ne_of_beq_eq_false rfl) (lvK1 2 rfl (Nat.ne_of_beq_eq_false rfl) (Nat.ne_of_beq_eq_false rfl) (lvK1 3 rfl (Nat.ne_of_beq_eq_false rfl) (Nat.ne_of_beq_eq_false rfl) (lvK1 4 rfl (Nat.ne_of_beq_eq_false rfl) (Nat.ne_of_beq_eq_false rfl) (lvK1 5 rfl (Nat.ne_of_beq_eq_false rfl) (Nat.ne_of_beq_eq_false rfl) (lvK1 6 rfl (Nat.ne_of_beq_eq_false rfl) (Nat.ne_of_beq_eq_false rfl) (lvK1 7 rfl (Nat.ne_of_beq_eq_false rfl) (Nat.ne_of_beq_eq_false rfl) (lvK1 8 rfl (Nat.ne_of_beq_eq_false rfl) (Nat.ne_of_beq_eq_false rfl) (lvK1 9 rfl (Nat.ne_of_beq_eq_false rfl) (Nat.ne_of_beq_eq_false rfl) lvK0))))))))) (lvN1 (Nat.ne_of_beq_eq_false rfl) (lvN1 (Nat.ne_of_beq_eq_false rfl) (lvN1 (Nat.ne_of_beq_eq_false rfl) (lvN1 (Nat.ne_of_beq_eq_false rfl) (lvN1 (Nat.ne_of_beq_eq_false rfl) (lvN1 (Nat.ne_of_beq_eq_false rfl) (lvN1 (Nat.ne_of_beq_eq_false rfl) (lvN1 (Nat.ne_of_beq_eq_false rfl) (lvN1 (Nat.ne_of_beq_eq_false rfl) lvN0))))))))) (fun ls hl => ?_)
      refine m_aload_n (pc := 228) C dL_lots_228 rfl (lv_at hl 2 rfl) ?_
      refine m_iload (pc := 229) C dL_lots_229 (lv_at hl 7 rfl) ?_
      refine m_bipush (pc := 231) C dL_lots_231 rfl ?_
      obtain ⟨q25, h⟩ := ck_some h
      obtain ⟨a26, μ27, ca26, h⟩ := bd_some h
      refine V_X7_lot (pc := 233) C hM ca26 rx9 rk_6 q25 bw_3_54 ⟨Nat.le_of_ble_eq_true rfl, Nat.le_of_ble_eq_true rfl⟩ hl.1 rc0 ⟨Nat.le_refl _, Nat.le_refl _⟩ dL_lots_233 (fun ra26 H locs hM => ?_)
      refine m_aload_n (pc := 236) C dL_lots_236 rfl (lv_at hl 2 rfl) ?_
      refine m_iload (pc := 237) C dL_lots_237 (lv_at hl 7 rfl) ?_
      refine m_bipush (pc := 239) C dL_lots_239 rfl ?_
      obtain ⟨q28, h⟩ := ck_some h
      obtain ⟨a29, μ30, ca29, h⟩ := bd_some h
      refine V_X7_lot (pc := 241) C hM ca29 rx9 rk_8 q28 bw_3_54 ⟨Nat.le_of_ble_eq_true rfl, Nat.le_of_ble_eq_true rfl⟩ hl.1 (rcI rc0) ⟨Nat.le_refl _, Nat.le_refl _⟩ dL_lots_241 (fun ra29 H locs hM => ?_)
      refine m_aload_n (pc := 244) C dL_lots_244 rfl (lv_at hl 2 rfl) ?_
      refine m_iload (pc := 245) C dL_lots_245 (lv_at hl 7 rfl) ?_
      refine m_bipush (pc := 247) C dL_lots_247 rfl ?_
      obtain ⟨q31, h⟩ := ck_some h
      obtain ⟨a32, μ33, ca32, h⟩ := bd_some h
      refine V_X7_lot (pc := 249) C hM ca32 rx9 rk_9 q31 bw_3_54 ⟨Nat.le_of_ble_eq_true rfl, Nat.le_of_ble_eq_true rfl⟩ hl.1 (rcI (rcI rc0)) ⟨Nat.le_refl _, Nat.le_refl _⟩ dL_lots_249 (fun ra32 H locs hM => ?_)
      obtain ⟨a34, ea34, h⟩ := nm_some h
      have ra34 : R32 a34 := by rw [ea34]; exact w32_R _
      refine m_iadd (pc := 252) C dL_lots_252 ea34 ?_
      refine m_aload_n (pc := 253) C dL_lots_253 rfl (lv_at hl 2 rfl) ?_
      refine m_iload (pc := 254) C dL_lots_254 (lv_at hl 7 rfl) ?_
      refine m_bipush (pc := 256) C dL_lots_256 rfl ?_
      obtain ⟨q35, h⟩ := ck_some h
      obtain ⟨a36, μ37, ca36, h⟩ := bd_some h
      refine V_X7_lot (pc := 258) C hM ca36 rx9 rk_10 q35 bw_3_54 ⟨Nat.le_of_ble_eq_true rfl, Nat.le_of_ble_eq_true rfl⟩ hl.1 (rcI (rcI rc0)) ⟨Nat.le_refl _, Nat.le_refl _⟩ dL_lots_258 (fun ra36 H locs hM => ?_)
      obtain ⟨a38, ea38, h⟩ := nm_some h
      have ra38 : R32 a38 := by rw [ea38]; exact w32_R _
      refine m_iadd (pc := 261) C dL_lots_261 ea38 ?_
      refine m_icmp_ne (tgt := 372) (pc := 262) C ra26 ra38 dL_lots_262 (by decide) (fun c39 => ?_) (fun c39 => ?_)
      · have h := if_t h c39
        refine m_iconst (pc := 372) C dL_lots_372 ?_
        cases h
        exact m_zret (pc := 373) C rfl hM rk_0 dL_lots_373
      · have h := if_f h c39
        refine m_iload (pc := 265) C dL_lots_265 (lv_at hl 1 rfl) ?_
        refine m_if_lt (tgt := 372) (pc := 267) C ra6 dL_lots_267 (by decide) (fun c40 => ?_) (fun c40 => ?_)
        · have h := if_t h c40
          refine m_iconst (pc := 372) C dL_lots_372 ?_
          cases h
          exact m_zret (pc := 373) C rfl hM rk_0 dL_lots_373
        · have h := if_f h c40
          refine m_iload (pc := 270) C dL_lots_270 (lv_at hl 1 rfl) ?_
          refine m_aload_n (pc := 272) C dL_lots_272 rfl (lv_at hl 2 rfl) ?_
          refine m_iload (pc := 273) C dL_lots_273 (lv_at hl 7 rfl) ?_
          refine m_iconst (pc := 275) C dL_lots_275 ?_
          obtain ⟨q41, h⟩ := ck_some h
          obtain ⟨a42, μ43, ca42, h⟩ := bd_some h
          refine V_X7_lot (pc := 276) C hM ca42 rx9 rk_2 q41 bw_3_54 ⟨Nat.le_of_ble_eq_true rfl, Nat.le_of_ble_eq_true rfl⟩ hl.1 (rcI rc0) ⟨Nat.le_refl _, Nat.le_refl _⟩ dL_lots_276 (fun ra42 H locs hM => ?_)
          refine m_icmp_gt (tgt := 372) (pc := 279) C ra6 ra42 dL_lots_279 (by decide) (fun c44 => ?_) (fun c44 => ?_)
          · have h := if_t h c44
            refine m_iconst (pc := 372) C dL_lots_372 ?_
            cases h
            exact m_zret (pc := 373) C rfl hM rk_0 dL_lots_373
          · have h := if_f h c44
            refine m_aload_n (pc := 282) C dL_lots_282 rfl (lv_at hl 2 rfl) ?_
            refine m_iload (pc := 283) C dL_lots_283 (lv_at hl 7 rfl) ?_
            refine m_bipush (pc := 285) C dL_lots_285 rfl ?_
            obtain ⟨q45, h⟩ := ck_some h
            obtain ⟨a46, μ47, ca46, h⟩ := bd_some h
            refine V_X7_lot (pc := 287) C hM ca46 rx9 rk_12 q45 bw_3_54 ⟨Nat.le_of_ble_eq_true rfl, Nat.le_of_ble_eq_true rfl⟩ hl.1 rc0 ⟨Nat.le_refl _, Nat.le_refl _⟩ dL_lots_287 (fun ra46 H locs hM => ?_)
            refine m_iload (pc := 290) C dL_lots_290 (lv_at hl 8 rfl) ?_
            refine m_icmp_ne (tgt := 372) (pc := 292) C ra46 rx10 dL_lots_292 (by decide) (fun c48 => ?_) (fun c48 => ?_)
            · have h := if_t h c48
              refine m_iconst (pc := 372) C dL_lots_372 ?_
              cases h
              exact m_zret (pc := 373) C rfl hM rk_0 dL_lots_373
            · have h := if_f h c48
              refine m_aload_n (pc := 295) C dL_lots_295 rfl (lv_at hl 2 rfl) ?_
              refine m_iload (pc := 296) C dL_lots_296 (lv_at hl 7 rfl) ?_
              refine m_bipush (pc := 298) C dL_lots_298 rfl ?_
              obtain ⟨q49, h⟩ := ck_some h
              obtain ⟨a50, μ51, ca50, h⟩ := bd_some h
              refine V_X7_lot (pc := 300) C hM ca50 rx9 rk_8 q49 bw_3_54 ⟨Nat.le_of_ble_eq_true rfl, Nat.le_of_ble_eq_true rfl⟩ hl.1 rc0 ⟨Nat.le_refl _, Nat.le_refl _⟩ dL_lots_300 (fun ra50 H locs hM => ?_)
              refine m_i2l (pc := 303) C ra50 dL_lots_303 ?_
              refine m_lload (pc := 304) C dL_lots_304 (lv_at hl 0 rfl) ?_
              refine m_iload (pc := 306) C dL_lots_306 (lv_at hl 9 rfl) ?_
              refine m_i2l (pc := 308) C rx11 dL_lots_308 ?_
              obtain ⟨a52, ea52, h⟩ := nm_some h
              have ra52 : R64 a52 := by rw [ea52]; exact w64_R _
              refine m_ladd (pc := 309) C dL_lots_309 ea52 ?_
              refine m_lcmp_ne (tgt := 372) (pc := 310) C (R32.to64 ra50) ra52 dL_lots_310 dL_lots_311 (by decide) (fun c53 => ?_) (fun c53 => ?_)
              · have h := if_t h c53
                refine m_iconst (pc := 372) C dL_lots_372 ?_
                cases h
                exact m_zret (pc := 373) C rfl hM rk_0 dL_lots_373
              · have h := if_f h c53
                refine m_aload_n (pc := 314) C dL_lots_314 rfl (lv_at hl 2 rfl) ?_
                refine m_iload (pc := 315) C dL_lots_315 (lv_at hl 7 rfl) ?_
                refine m_iconst (pc := 317) C dL_lots_317 ?_
                obtain ⟨q54, h⟩ := ck_some h
                obtain ⟨a55, μ56, ca55, h⟩ := bd_some h
                refine V_X7_lot (pc := 318) C hM ca55 rx9 rk_0 q54 bw_3_54 ⟨Nat.le_of_ble_eq_true rfl, Nat.le_of_ble_eq_true rfl⟩ hl.1 rc0 ⟨Nat.le_refl _, Nat.le_refl _⟩ dL_lots_318 (fun ra55 H locs hM => ?_)
                refine m_if_lt (tgt := 372) (pc := 321) C ra55 dL_lots_321 (by decide) (fun c57 => ?_) (fun c57 => ?_)
                · have h := if_t h c57
                  refine m_iconst (pc := 372) C dL_lots_372 ?_
                  cases h
                  exact m_zret (pc := 373) C rfl hM rk_0 dL_lots_373
                · have h := if_f h c57
                  refine m_aload_n (pc := 324) C dL_lots_324 rfl (lv_at hl 2 rfl) ?_
                  refine m_iload (pc := 325) C dL_lots_325 (lv_at hl 7 rfl) ?_
                  refine m_iconst (pc := 327) C dL_lots_327 ?_
                  obtain ⟨q58, h⟩ := ck_some h
                  obtain ⟨a59, μ60, ca59, h⟩ := bd_some h
                  refine V_X7_lot (pc := 328) C hM ca59 rx9 rk_0 q58 bw_3_54 ⟨Nat.le_of_ble_eq_true rfl, Nat.le_of_ble_eq_true rfl⟩ hl.1 rc0 ⟨Nat.le_refl _, Nat.le_refl _⟩ dL_lots_328 (fun ra59 H locs hM => ?_)
                  refine m_aload_n (pc := 331) C dL_lots_331 rfl (lv_at hl 2 rfl) ?_
                  refine m_iconst (pc := 332) C dL_lots_332 ?_
                  obtain ⟨q61, h⟩ := ck_some h
                  obtain ⟨a62, μ63, ca62, h⟩ := bd_some h
                  refine V_X7_count (pc := 333) C hM ca62 rk_1 q61 bw_3_4 ⟨Nat.le_of_ble_eq_true rfl, Nat.le_of_ble_eq_true rfl⟩ hl.1 (rcI rc0) ⟨Nat.le_refl _, Nat.le_refl _⟩ dL_lots_333 (fun ra62 H locs hM => ?_)
                  refine m_icmp_ge (tgt := 372) (pc := 336) C ra59 ra62 dL_lots_336 (by decide) (fun c64 => ?_) (fun c64 => ?_)
                  · have h := if_t h c64
                    refine m_iconst (pc := 372) C dL_lots_372 ?_
                    cases h
                    exact m_zret (pc := 373) C rfl hM rk_0 dL_lots_373
                  · have h := if_f h c64
                    refine m_iload (pc := 339) C dL_lots_339 (lv_at hl 1 rfl) ?_
                    refine m_if_le (tgt := 359) (pc := 341) C ra6 dL_lots_341 (by decide) (fun c65 => ?_) (fun c65 => ?_)
                    · have h := if_t h c65
                      exact k_L_lots_b359 C N _ hk13 _ _ _ _ _ _ _ h rx1 rx3 rx5 rx7 rx9 _ _ _ hM (lv_sub hl [2, 3, 4, 5, 6, 7] rfl)
                    · have h := if_f h c65
                      refine m_aload_n (pc := 344) C dL_lots_344 rfl (lv_at hl 2 rfl) ?_
                      refine m_iload (pc := 345) C dL_lots_345 (lv_at hl 7 rfl) ?_
                      refine m_iconst (pc := 347) C dL_lots_347 ?_
                      obtain ⟨q66, h⟩ := ck_some h
                      obtain ⟨a67, μ68, ca67, h⟩ := bd_some h
                      refine V_X7_lot (pc := 348) C hM ca67 rx9 rk_5 q66 bw_3_54 ⟨Nat.le_of_ble_eq_true rfl, Nat.le_of_ble_eq_true rfl⟩ hl.1 rc0 ⟨Nat.le_refl _, Nat.le_refl _⟩ dL_lots_348 (fun ra67 H locs hM => ?_)
                      refine m_aload_n (pc := 351) C dL_lots_351 rfl (lv_at hl 2 rfl) ?_
                      refine m_iconst (pc := 352) C dL_lots_352 ?_
                      obtain ⟨q69, h⟩ := ck_some h
                      obtain ⟨a70, μ71, ca70, h⟩ := bd_some h
                      refine V_X7_count (pc := 353) C hM ca70 rk_0 q69 bw_3_4 ⟨Nat.le_of_ble_eq_true rfl, Nat.le_of_ble_eq_true rfl⟩ hl.1 (rcI rc0) ⟨Nat.le_refl _, Nat.le_refl _⟩ dL_lots_353 (fun ra70 H locs hM => ?_)
                      refine m_icmp_lt (tgt := 372) (pc := 356) C ra67 ra70 dL_lots_356 (by decide) (fun c72 => ?_) (fun c72 => ?_)
                      · have h := if_t h c72
                        refine m_iconst (pc := 372) C dL_lots_372 ?_
                        cases h
                        exact m_zret (pc := 373) C rfl hM rk_0 dL_lots_373
                      · have h := if_f h c72
                        exact k_L_lots_b359 C N _ hk13 _ _ _ _ _ _ _ h rx1 rx3 rx5 rx7 rx9 _ _ _ hM (lv_sub hl [2, 3, 4, 5, 6, 7] rfl)
    · have h := if_f h c4
      refine m_aload_n (pc := 94) C dL_lots_94 rfl (lv_at hl 0 rfl) ?_
      refine m_iload (pc := 95) C dL_lots_95 (lv_at hl 8 rfl) ?_
      refine m_iconst (pc := 97) C dL_lots_97 ?_
      obtain ⟨q73, h⟩ := ck_some h
      obtain ⟨a74, μ75, ca74, h⟩ := bd_some h
      refine V_X7_exported (pc := 98) C hM ca74 rx12 rk_0 q73 bw_2_226 ⟨Nat.le_of_ble_eq_true rfl, Nat.le_of_ble_eq_true rfl⟩ hl.1 rc0 ⟨Nat.le_refl _, Nat.le_refl _⟩ dL_lots_98 (fun ra74 H locs hM => ?_)
      refine m_iload (pc := 101) C dL_lots_101 (lv_at hl 5 rfl) ?_
      refine m_icmp_ne (tgt := 120) (pc := 103) C ra74 rx9 dL_lots_103 (by decide) (fun c76 => ?_) (fun c76 => ?_)
      · have h := if_t h c76
        exact k_L_lots_b120 C N _ hk13 _ ih _ _ _ _ _ _ _ _ _ _ h rx1 rx3 rx5 rx7 rx9 rx10 rx11 rx12 _ _ _ hM (lv_sub hl [0, 1, 2, 3, 4, 5, 6, 7, 8] rfl)
      · have h := if_f h c76
        refine m_aload_n (pc := 106) C dL_lots_106 rfl (lv_at hl 0 rfl) ?_
        refine m_iload (pc := 107) C dL_lots_107 (lv_at hl 8 rfl) ?_
        refine m_iconst (pc := 109) C dL_lots_109 ?_
        obtain ⟨q77, h⟩ := ck_some h
        obtain ⟨a78, μ79, ca78, h⟩ := bd_some h
        refine V_X7_exported (pc := 110) C hM ca78 rx12 rk_4 q77 bw_2_226 ⟨Nat.le_of_ble_eq_true rfl, Nat.le_of_ble_eq_true rfl⟩ hl.1 rc0 ⟨Nat.le_refl _, Nat.le_refl _⟩ dL_lots_110 (fun ra78 H locs hM => ?_)
        refine m_if_ne (tgt := 120) (pc := 113) C ra78 dL_lots_113 (by decide) (fun c80 => ?_) (fun c80 => ?_)
        · have h := if_t h c80
          exact k_L_lots_b120 C N _ hk13 _ ih _ _ _ _ _ _ _ _ _ _ h rx1 rx3 rx5 rx7 rx9 rx10 rx11 rx12 _ _ _ hM (lv_sub hl [0, 1, 2, 3, 4, 5, 6, 7, 8] rfl)
        · have h := if_f h c80
          refine m_iconst (pc := 116) C dL_lots_116 ?_
          refine m_goto (tgt := 121) (pc := 117) C dL_lots_117 (by decide) ?_
          exact k_L_lots_b121 C N _ hk13 _ ih _ _ _ _ _ _ _ _ _ _ _ h rx1 rx3 rx5 rx7 rx9 rx10 rx11 rx12 rk_1 _ _ _ hM (lv_sub hl [0, 1, 2, 3, 4, 5, 6, 7, 8] rfl)
set_option maxHeartbeats 4000000 in
set_option maxRecDepth 100000 in
theorem k_L_lots_b13 (C : gCx p s m args meth c cL_lots 17 (some .boolean) "lots" RL) (N : Nat) {r : Int} {μ' : Mm} : ∀ (n : Nat), ∀ (x0 x1 x3 x5 x7 x9 : Int) (μ : Mm), f_L_lots_b13 N n x0 x1 x3 x5 x7 x9 μ = some (r, μ') → R64 x1 → R64 x3 → R64 x5 → R64 x7 → R32 x9 → ∀ (H : Heap) (locs : List Loc) (ls : Array Slot), MS E μ s H locs → lv_has ls 17 [(0, vr E x0), (1, vl x1), (3, vl x3), (5, vl x5), (7, vl x7), (9, vi x9)] → W p l e ({ frames := 4, cells := 0, slots := 0, locals := 85 } : Room) s m args below meth c H locs 0 0 (MQ below (gQ E (some (vi r)) (R32 r) μ') args s 0 0 (gA E)) (F0 m 13 ls []) := by
  intro n
  induction n with
  | zero => intro x0 x1 x3 x5 x7 x9 μ h; simp [f_L_lots_b13] at h
  | succ n ih =>
    intro x0 x1 x3 x5 x7 x9 μ h rx1 rx3 rx5 rx7 rx9 H locs ls hM hl
    rw [f_L_lots_b13] at h
    refine m_iload (pc := 13) C dL_lots_13 (lv_at hl 5 rfl) ?_
    refine m_aload_n (pc := 15) C dL_lots_15 rfl (lv_at hl 0 rfl) ?_
    refine m_iconst (pc := 16) C dL_lots_16 ?_
    obtain ⟨q1, h⟩ := ck_some h
    obtain ⟨a2, μ3, ca2, h⟩ := bd_some h
    refine V_X7_count (pc := 17) C hM ca2 rk_2 q1 bw_3_4 ⟨Nat.le_of_ble_eq_true rfl, Nat.le_of_ble_eq_true rfl⟩ hl.1 (rcI rc0) ⟨Nat.le_refl _, Nat.le_refl _⟩ dL_lots_17 (fun ra2 H locs hM => ?_)
    refine m_icmp_ge (tgt := 380) (pc := 20) C rx9 ra2 dL_lots_20 (by decide) (fun c4 => ?_) (fun c4 => ?_)
    · have h := if_t h c4
      refine m_aload_n (pc := 380) C dL_lots_380 rfl (lv_at hl 0 rfl) ?_
      refine m_iconst (pc := 381) C dL_lots_381 ?_
      obtain ⟨q5, h⟩ := ck_some h
      obtain ⟨a6, μ7, ca6, h⟩ := bd_some h
      refine V_X7_account (pc := 382) C hM ca6 rk_0 q5 bw_3_63 ⟨Nat.le_of_ble_eq_true rfl, Nat.le_of_ble_eq_true rfl⟩ hl.1 rc0 ⟨Nat.le_refl _, Nat.le_refl _⟩ dL_lots_382 (fun ra6 H locs hM => ?_)
      refine m_lload_n (pc := 385) C dL_lots_385 rfl (lv_at hl 1 rfl) ?_
      refine m_lcmp_ne (tgt := 454) (pc := 386) C ra6 rx1 dL_lots_386 dL_lots_387 (by decide) (fun c8 => ?_) (fun c8 => ?_)
      · have h := if_t h c8
        refine m_iconst (pc := 454) C dL_lots_454 ?_
        cases h
        exact m_zret (pc := 455) C rfl hM rk_0 dL_lots_455
      · have h := if_f h c8
        refine m_aload_n (pc := 390) C dL_lots_390 rfl (lv_at hl 0 rfl) ?_
        refine m_iconst (pc := 391) C dL_lots_391 ?_
        obtain ⟨q9, h⟩ := ck_some h
        obtain ⟨a10, μ11, ca10, h⟩ := bd_some h
        refine V_X7_account (pc := 392) C hM ca10 rk_1 q9 bw_3_63 ⟨Nat.le_of_ble_eq_true rfl, Nat.le_of_ble_eq_true rfl⟩ hl.1 rc0 ⟨Nat.le_refl _, Nat.le_refl _⟩ dL_lots_392 (fun ra10 H locs hM => ?_)
        refine m_lload_n (pc := 395) C dL_lots_395 rfl (lv_at hl 2 rfl) ?_
        refine m_lcmp_ne (tgt := 454) (pc := 396) C ra10 rx3 dL_lots_396 dL_lots_397 (by decide) (fun c12 => ?_) (fun c12 => ?_)
        · have h := if_t h c12
          refine m_iconst (pc := 454) C dL_lots_454 ?_
          cases h
          exact m_zret (pc := 455) C rfl hM rk_0 dL_lots_455
        · have h := if_f h c12
          refine m_aload_n (pc := 400) C dL_lots_400 rfl (lv_at hl 0 rfl) ?_
          refine m_iconst (pc := 401) C dL_lots_401 ?_
          obtain ⟨q13, h⟩ := ck_some h
          obtain ⟨a14, μ15, ca14, h⟩ := bd_some h
          refine V_X7_account (pc := 402) C hM ca14 rk_2 q13 bw_3_63 ⟨Nat.le_of_ble_eq_true rfl, Nat.le_of_ble_eq_true rfl⟩ hl.1 rc0 ⟨Nat.le_refl _, Nat.le_refl _⟩ dL_lots_402 (fun ra14 H locs hM => ?_)
          refine m_lload (pc := 405) C dL_lots_405 (lv_at hl 3 rfl) ?_
          refine m_lcmp_ne (tgt := 454) (pc := 407) C ra14 rx5 dL_lots_407 dL_lots_408 (by decide) (fun c16 => ?_) (fun c16 => ?_)
          · have h := if_t h c16
            refine m_iconst (pc := 454) C dL_lots_454 ?_
            cases h
            exact m_zret (pc := 455) C rfl hM rk_0 dL_lots_455
          · have h := if_f h c16
            refine m_aload_n (pc := 411) C dL_lots_411 rfl (lv_at hl 0 rfl) ?_
            refine m_iconst (pc := 412) C dL_lots_412 ?_
            obtain ⟨q17, h⟩ := ck_some h
            obtain ⟨a18, μ19, ca18, h⟩ := bd_some h
            refine V_X7_account (pc := 413) C hM ca18 rk_3 q17 bw_3_63 ⟨Nat.le_of_ble_eq_true rfl, Nat.le_of_ble_eq_true rfl⟩ hl.1 rc0 ⟨Nat.le_refl _, Nat.le_refl _⟩ dL_lots_413 (fun ra18 H locs hM => ?_)
            refine m_lload (pc := 416) C dL_lots_416 (lv_at hl 4 rfl) ?_
            refine m_lcmp_ne (tgt := 454) (pc := 418) C ra18 rx7 dL_lots_418 dL_lots_419 (by decide) (fun c20 => ?_) (fun c20 => ?_)
            · have h := if_t h c20
              refine m_iconst (pc := 454) C dL_lots_454 ?_
              cases h
              exact m_zret (pc := 455) C rfl hM rk_0 dL_lots_455
            · have h := if_f h c20
              refine m_aload_n (pc := 422) C dL_lots_422 rfl (lv_at hl 0 rfl) ?_
              refine m_bipush (pc := 423) C dL_lots_423 rfl ?_
              obtain ⟨q21, h⟩ := ck_some h
              obtain ⟨a22, μ23, ca22, h⟩ := bd_some h
              refine V_X7_account (pc := 425) C hM ca22 rk_7 q21 bw_3_63 ⟨Nat.le_of_ble_eq_true rfl, Nat.le_of_ble_eq_true rfl⟩ hl.1 rc0 ⟨Nat.le_refl _, Nat.le_refl _⟩ dL_lots_425 (fun ra22 H locs hM => ?_)
              refine m_ldc2 (n := -100000002) (pc := 428) C bw_3_84 rfl dL_lots_428 ?_
              refine m_lcmp_ne (tgt := 454) (pc := 431) C ra22 rl_m100000002 dL_lots_431 dL_lots_432 (by decide) (fun c24 => ?_) (fun c24 => ?_)
              · have h := if_t h c24
                refine m_iconst (pc := 454) C dL_lots_454 ?_
                cases h
                exact m_zret (pc := 455) C rfl hM rk_0 dL_lots_455
              · have h := if_f h c24
                refine m_aload_n (pc := 435) C dL_lots_435 rfl (lv_at hl 0 rfl) ?_
                refine m_aload_n (pc := 436) C dL_lots_436 rfl (lv_at hl 0 rfl) ?_
                refine m_iconst (pc := 437) C dL_lots_437 ?_
                obtain ⟨q25, h⟩ := ck_some h
                obtain ⟨a26, μ27, ca26, h⟩ := bd_some h
                refine V_X7_count (pc := 438) C hM ca26 rk_2 q25 bw_3_4 ⟨Nat.le_of_ble_eq_true rfl, Nat.le_of_ble_eq_true rfl⟩ hl.1 (rcR rc0) ⟨Nat.le_refl _, Nat.le_refl _⟩ dL_lots_438 (fun ra26 H locs hM => ?_)
                refine m_iconst (pc := 441) C dL_lots_441 ?_
                obtain ⟨q28, h⟩ := ck_some h
                obtain ⟨a29, μ30, ca29, h⟩ := bd_some h
                refine V_X7_lot (pc := 442) C hM ca29 ra26 rk_0 q28 bw_3_54 ⟨Nat.le_of_ble_eq_true rfl, Nat.le_of_ble_eq_true rfl⟩ hl.1 rc0 ⟨Nat.le_refl _, Nat.le_refl _⟩ dL_lots_442 (fun ra29 H locs hM => ?_)
                refine m_ldc (n := -100000001) (pc := 445) C bw_3_85 rfl dL_lots_445 ?_
                refine m_icmp_ne (tgt := 454) (pc := 447) C ra29 rk_m100000001 dL_lots_447 (by decide) (fun c31 => ?_) (fun c31 => ?_)
                · have h := if_t h c31
                  refine m_iconst (pc := 454) C dL_lots_454 ?_
                  cases h
                  exact m_zret (pc := 455) C rfl hM rk_0 dL_lots_455
                · have h := if_f h c31
                  refine m_iconst (pc := 450) C dL_lots_450 ?_
                  refine m_goto (tgt := 455) (pc := 451) C dL_lots_451 (by decide) ?_
                  cases h
                  exact m_zret (pc := 455) C rfl hM rk_1 dL_lots_455
    · have h := if_f h c4
      refine m_lload_n (pc := 23) C dL_lots_23 rfl (lv_at hl 1 rfl) ?_
      refine m_aload_n (pc := 24) C dL_lots_24 rfl (lv_at hl 0 rfl) ?_
      refine m_iload (pc := 25) C dL_lots_25 (lv_at hl 5 rfl) ?_
      refine m_bipush (pc := 27) C dL_lots_27 rfl ?_
      obtain ⟨q32, h⟩ := ck_some h
      obtain ⟨a33, μ34, ca33, h⟩ := bd_some h
      refine V_X7_lot (pc := 29) C hM ca33 rx9 rk_6 q32 bw_3_54 ⟨Nat.le_of_ble_eq_true rfl, Nat.le_of_ble_eq_true rfl⟩ hl.1 (rcL rc0) ⟨Nat.le_refl _, Nat.le_refl _⟩ dL_lots_29 (fun ra33 H locs hM => ?_)
      refine m_i2l (pc := 32) C ra33 dL_lots_32 ?_
      obtain ⟨a35, ea35, h⟩ := nm_some h
      have ra35 : R64 a35 := by rw [ea35]; exact w64_R _
      refine m_ladd (pc := 33) C dL_lots_33 ea35 ?_
      refine m_lstore_n (pc := 34) C dL_lots_34 rfl hl (by decide) (lvK2 0 rfl (Nat.ne_of_beq_eq_false rfl) (vr_cat _ _) (lvK1 2 rfl (Nat.ne_of_beq_eq_false rfl) (Nat.ne_of_beq_eq_false rfl) (lvK1 3 rfl (Nat.ne_of_beq_eq_false rfl) (Nat.ne_of_beq_eq_false rfl) (lvK1 4 rfl (Nat.ne_of_beq_eq_false rfl) (Nat.ne_of_beq_eq_false rfl) (lvK1 5 rfl (Nat.ne_of_beq_eq_false rfl) (Nat.ne_of_beq_eq_false rfl) lvK0))))) (lvN1 (Nat.ne_of_beq_eq_false rfl) (lvN1 (Nat.ne_of_beq_eq_false rfl) (lvN1 (Nat.ne_of_beq_eq_false rfl) (lvN1 (Nat.ne_of_beq_eq_false rfl) (lvN1 (Nat.ne_of_beq_eq_false rfl) lvN0))))) (fun ls hl => ?_)
      refine m_lload_n (pc := 35) C dL_lots_35 rfl (lv_at hl 2 rfl) ?_
      refine m_aload_n (pc := 36) C dL_lots_36 rfl (lv_at hl 1 rfl) ?_
      refine m_iload (pc := 37) C dL_lots_37 (lv_at hl 5 rfl) ?_
      refine m_bipush (pc := 39) C dL_lots_39 rfl ?_
      obtain ⟨q36, h⟩ := ck_some h
      obtain ⟨a37, μ38, ca37, h⟩ := bd_some h
      refine V_X7_lot (pc := 41) C hM ca37 rx9 rk_8 q36 bw_3_54 ⟨Nat.le_of_ble_eq_true rfl, Nat.le_of_ble_eq_true rfl⟩ hl.1 (rcL rc0) ⟨Nat.le_refl _, Nat.le_refl _⟩ dL_lots_41 (fun ra37 H locs hM => ?_)
      refine m_i2l (pc := 44) C ra37 dL_lots_44 ?_
      obtain ⟨a39, ea39, h⟩ := nm_some h
      have ra39 : R64 a39 := by rw [ea39]; exact w64_R _
      refine m_ladd (pc := 45) C dL_lots_45 ea39 ?_
      refine m_lstore_n (pc := 46) C dL_lots_46 rfl hl (by decide) (lvK1 0 rfl (Nat.ne_of_beq_eq_false rfl) (Nat.ne_of_beq_eq_false rfl) (lvK1 1 rfl (Nat.ne_of_beq_eq_false rfl) (Nat.ne_of_beq_eq_false rfl) (lvK1 3 rfl (Nat.ne_of_beq_eq_false rfl) (Nat.ne_of_beq_eq_false rfl) (lvK1 4 rfl (Nat.ne_of_beq_eq_false rfl) (Nat.ne_of_beq_eq_false rfl) (lvK1 5 rfl (Nat.ne_of_beq_eq_false rfl) (Nat.ne_of_beq_eq_false rfl) lvK0))))) (lvN1 (Nat.ne_of_beq_eq_false rfl) (lvN1 (Nat.ne_of_beq_eq_false rfl) (lvN1 (Nat.ne_of_beq_eq_false rfl) (lvN1 (Nat.ne_of_beq_eq_false rfl) (lvN1 (Nat.ne_of_beq_eq_false rfl) lvN0))))) (fun ls hl => ?_)
      refine m_lload (pc := 47) C dL_lots_47 (lv_at hl 3 rfl) ?_
      refine m_aload_n (pc := 49) C dL_lots_49 rfl (lv_at hl 2 rfl) ?_
      refine m_iload (pc := 50) C dL_lots_50 (lv_at hl 5 rfl) ?_
      refine m_bipush (pc := 52) C dL_lots_52 rfl ?_
      obtain ⟨q40, h⟩ := ck_some h
      obtain ⟨a41, μ42, ca41, h⟩ := bd_some h
      refine V_X7_lot (pc := 54) C hM ca41 rx9 rk_9 q40 bw_3_54 ⟨Nat.le_of_ble_eq_true rfl, Nat.le_of_ble_eq_true rfl⟩ hl.1 (rcL rc0) ⟨Nat.le_refl _, Nat.le_refl _⟩ dL_lots_54 (fun ra41 H locs hM => ?_)
      refine m_i2l (pc := 57) C ra41 dL_lots_57 ?_
      obtain ⟨a43, ea43, h⟩ := nm_some h
      have ra43 : R64 a43 := by rw [ea43]; exact w64_R _
      refine m_ladd (pc := 58) C dL_lots_58 ea43 ?_
      refine m_lstore (pc := 59) C dL_lots_59 hl (by decide) (lvK1 0 rfl (Nat.ne_of_beq_eq_false rfl) (Nat.ne_of_beq_eq_false rfl) (lvK1 1 rfl (Nat.ne_of_beq_eq_false rfl) (Nat.ne_of_beq_eq_false rfl) (lvK1 2 rfl (Nat.ne_of_beq_eq_false rfl) (Nat.ne_of_beq_eq_false rfl) (lvK1 4 rfl (Nat.ne_of_beq_eq_false rfl) (Nat.ne_of_beq_eq_false rfl) (lvK1 5 rfl (Nat.ne_of_beq_eq_false rfl) (Nat.ne_of_beq_eq_false rfl) lvK0))))) (lvN1 (Nat.ne_of_beq_eq_false rfl) (lvN1 (Nat.ne_of_beq_eq_false rfl) (lvN1 (Nat.ne_of_beq_eq_false rfl) (lvN1 (Nat.ne_of_beq_eq_false rfl) (lvN1 (Nat.ne_of_beq_eq_false rfl) lvN0))))) (fun ls hl => ?_)
      refine m_lload (pc := 61) C dL_lots_61 (lv_at hl 4 rfl) ?_
      refine m_aload_n (pc := 63) C dL_lots_63 rfl (lv_at hl 3 rfl) ?_
      refine m_iload (pc := 64) C dL_lots_64 (lv_at hl 5 rfl) ?_
      refine m_bipush (pc := 66) C dL_lots_66 rfl ?_
      obtain ⟨q44, h⟩ := ck_some h
      obtain ⟨a45, μ46, ca45, h⟩ := bd_some h
      refine V_X7_lot (pc := 68) C hM ca45 rx9 rk_10 q44 bw_3_54 ⟨Nat.le_of_ble_eq_true rfl, Nat.le_of_ble_eq_true rfl⟩ hl.1 (rcL rc0) ⟨Nat.le_refl _, Nat.le_refl _⟩ dL_lots_68 (fun ra45 H locs hM => ?_)
      refine m_i2l (pc := 71) C ra45 dL_lots_71 ?_
      obtain ⟨a47, ea47, h⟩ := nm_some h
      have ra47 : R64 a47 := by rw [ea47]; exact w64_R _
      refine m_ladd (pc := 72) C dL_lots_72 ea47 ?_
      refine m_lstore (pc := 73) C dL_lots_73 hl (by decide) (lvK1 0 rfl (Nat.ne_of_beq_eq_false rfl) (Nat.ne_of_beq_eq_false rfl) (lvK1 1 rfl (Nat.ne_of_beq_eq_false rfl) (Nat.ne_of_beq_eq_false rfl) (lvK1 2 rfl (Nat.ne_of_beq_eq_false rfl) (Nat.ne_of_beq_eq_false rfl) (lvK1 3 rfl (Nat.ne_of_beq_eq_false rfl) (Nat.ne_of_beq_eq_false rfl) (lvK1 5 rfl (Nat.ne_of_beq_eq_false rfl) (Nat.ne_of_beq_eq_false rfl) lvK0))))) (lvN1 (Nat.ne_of_beq_eq_false rfl) (lvN1 (Nat.ne_of_beq_eq_false rfl) (lvN1 (Nat.ne_of_beq_eq_false rfl) (lvN1 (Nat.ne_of_beq_eq_false rfl) (lvN1 (Nat.ne_of_beq_eq_false rfl) lvN0))))) (fun ls hl => ?_)
      refine m_iconst (pc := 75) C dL_lots_75 ?_
      refine m_istore (pc := 76) C dL_lots_76 hl (by decide) (lvK1 0 rfl (Nat.ne_of_beq_eq_false rfl) (Nat.ne_of_beq_eq_false rfl) (lvK1 1 rfl (Nat.ne_of_beq_eq_false rfl) (Nat.ne_of_beq_eq_false rfl) (lvK1 2 rfl (Nat.ne_of_beq_eq_false rfl) (Nat.ne_of_beq_eq_false rfl) (lvK1 3 rfl (Nat.ne_of_beq_eq_false rfl) (Nat.ne_of_beq_eq_false rfl) (lvK1 4 rfl (Nat.ne_of_beq_eq_false rfl) (Nat.ne_of_beq_eq_false rfl) (lvK2 5 rfl (Nat.ne_of_beq_eq_false rfl) rfl lvK0)))))) (fun ls hl => ?_)
      refine m_iconst (pc := 78) C dL_lots_78 ?_
      refine m_istore (pc := 79) C dL_lots_79 hl (by decide) (lvK2 0 rfl (Nat.ne_of_beq_eq_false rfl) rfl (lvK1 1 rfl (Nat.ne_of_beq_eq_false rfl) (Nat.ne_of_beq_eq_false rfl) (lvK1 2 rfl (Nat.ne_of_beq_eq_false rfl) (Nat.ne_of_beq_eq_false rfl) (lvK1 3 rfl (Nat.ne_of_beq_eq_false rfl) (Nat.ne_of_beq_eq_false rfl) (lvK1 4 rfl (Nat.ne_of_beq_eq_false rfl) (Nat.ne_of_beq_eq_false rfl) (lvK1 5 rfl (Nat.ne_of_beq_eq_false rfl) (Nat.ne_of_beq_eq_false rfl) (lvK1 6 rfl (Nat.ne_of_beq_eq_false rfl) (Nat.ne_of_beq_eq_false rfl) lvK0))))))) (fun ls hl => ?_)
      refine m_iconst (pc := 81) C dL_lots_81 ?_
      refine m_istore (pc := 82) C dL_lots_82 hl (by decide) (lvK2 0 rfl (Nat.ne_of_beq_eq_false rfl) rfl (lvK1 1 rfl (Nat.ne_of_beq_eq_false rfl) (Nat.ne_of_beq_eq_false rfl) (lvK1 2 rfl (Nat.ne_of_beq_eq_false rfl) (Nat.ne_of_beq_eq_false rfl) (lvK1 3 rfl (Nat.ne_of_beq_eq_false rfl) (Nat.ne_of_beq_eq_false rfl) (lvK1 4 rfl (Nat.ne_of_beq_eq_false rfl) (Nat.ne_of_beq_eq_false rfl) (lvK1 5 rfl (Nat.ne_of_beq_eq_false rfl) (Nat.ne_of_beq_eq_false rfl) (lvK1 6 rfl (Nat.ne_of_beq_eq_false rfl) (Nat.ne_of_beq_eq_false rfl) (lvK1 7 rfl (Nat.ne_of_beq_eq_false rfl) (Nat.ne_of_beq_eq_false rfl) lvK0)))))))) (fun ls hl => ?_)
      exact k_L_lots_b84 C N _ ih N _ _ _ _ _ _ _ _ _ _ h ra35 ra39 ra43 ra47 rx9 rk_0 rk_0 rk_0 _ _ _ hM (lv_sub hl [7, 6, 5, 4, 3, 8, 2, 1, 0] rfl)
set_option maxHeartbeats 4000000 in
set_option maxRecDepth 100000 in
theorem c_L_lots (l : Launch) (E : gE) (N : Nat) (x0 : Int) (μ μ' : Mm) (r : Int) (h : f_L_lots N x0 μ = some (r, μ')) : gMet l E yL_lots cL_lots 17 (some .boolean) 4 85 [vr E x0] (some (vi r)) (R32 r) μ μ' 0 0 := by
  refine g_ofW [1] (by first | (simp only [List.map_cons, List.map_nil, vr_cat]; done) | (simp only [List.map_cons, List.map_nil, vr_cat]; rfl)) (by decide) (by decide) (fun p e s m below meth c ls C hM hl => ?_)
  replace C : gCx p s m _ meth c cL_lots 17 (some .boolean) "lots" RL := C
  replace hl : lv_has ls 17 [(0, vr E x0)] := hl
  unfold f_L_lots at h
  refine m_lconst (v := 0) (pc := 0) C dL_lots_0 rfl ?_
  refine m_lstore_n (pc := 1) C dL_lots_1 rfl hl (by decide) (lvK2 0 rfl (Nat.ne_of_beq_eq_false rfl) (vr_cat _ _) lvK0) (lvN1 (Nat.ne_of_beq_eq_false rfl) lvN0) (fun ls hl => ?_)
  refine m_lconst (v := 0) (pc := 2) C dL_lots_2 rfl ?_
  refine m_lstore_n (pc := 3) C dL_lots_3 rfl hl (by decide) (lvK1 0 rfl (Nat.ne_of_beq_eq_false rfl) (Nat.ne_of_beq_eq_false rfl) (lvK1 1 rfl (Nat.ne_of_beq_eq_false rfl) (Nat.ne_of_beq_eq_false rfl) lvK0)) (lvN1 (Nat.ne_of_beq_eq_false rfl) (lvN1 (Nat.ne_of_beq_eq_false rfl) lvN0)) (fun ls hl => ?_)
  refine m_lconst (v := 0) (pc := 4) C dL_lots_4 rfl ?_
  refine m_lstore (pc := 5) C dL_lots_5 hl (by decide) (lvK1 0 rfl (Nat.ne_of_beq_eq_false rfl) (Nat.ne_of_beq_eq_false rfl) (lvK1 1 rfl (Nat.ne_of_beq_eq_false rfl) (Nat.ne_of_beq_eq_false rfl) (lvK1 2 rfl (Nat.ne_of_beq_eq_false rfl) (Nat.ne_of_beq_eq_false rfl) lvK0))) (lvN1 (Nat.ne_of_beq_eq_false rfl) (lvN1 (Nat.ne_of_beq_eq_false rfl) (lvN1 (Nat.ne_of_beq_eq_false rfl) lvN0))) (fun ls hl => ?_)
  refine m_lconst (v := 0) (pc := 7) C dL_lots_7 rfl ?_
  refine m_lstore (pc := 8) C dL_lots_8 hl (by decide) (lvK1 0 rfl (Nat.ne_of_beq_eq_false rfl) (Nat.ne_of_beq_eq_false rfl) (lvK1 1 rfl (Nat.ne_of_beq_eq_false rfl) (Nat.ne_of_beq_eq_false rfl) (lvK1 2 rfl (Nat.ne_of_beq_eq_false rfl) (Nat.ne_of_beq_eq_false rfl) (lvK1 3 rfl (Nat.ne_of_beq_eq_false rfl) (Nat.ne_of_beq_eq_false rfl) lvK0)))) (lvN1 (Nat.ne_of_beq_eq_false rfl) (lvN1 (Nat.ne_of_beq_eq_false rfl) (lvN1 (Nat.ne_of_beq_eq_false rfl) (lvN1 (Nat.ne_of_beq_eq_false rfl) lvN0)))) (fun ls hl => ?_)
  refine m_iconst (pc := 10) C dL_lots_10 ?_
  refine m_istore (pc := 11) C dL_lots_11 hl (by decide) (lvK1 0 rfl (Nat.ne_of_beq_eq_false rfl) (Nat.ne_of_beq_eq_false rfl) (lvK1 1 rfl (Nat.ne_of_beq_eq_false rfl) (Nat.ne_of_beq_eq_false rfl) (lvK1 2 rfl (Nat.ne_of_beq_eq_false rfl) (Nat.ne_of_beq_eq_false rfl) (lvK1 3 rfl (Nat.ne_of_beq_eq_false rfl) (Nat.ne_of_beq_eq_false rfl) (lvK1 4 rfl (Nat.ne_of_beq_eq_false rfl) (Nat.ne_of_beq_eq_false rfl) lvK0))))) (fun ls hl => ?_)
  exact k_L_lots_b13 C N N _ _ _ _ _ _ _ h rl_0 rl_0 rl_0 rl_0 rk_0 _ _ _ hM (lv_sub hl [5, 4, 3, 2, 1, 0] rfl)
theorem hd_L_lots : yL_lots.cls ≠ "java/lang/invoke/MethodHandle" ∧ yL_lots.cls ≠ "java/lang/invoke/VarHandle" ∧ (parseMethodDescriptor yL_lots.desc).map (fun d => d.parameters.length) = some 1 := by decide +kernel

theorem V_L_lots {p : Program} {l : Launch} {e : Env} {R : Room} {s : State} {m : MethodId} {args : Array Value} {below : List Frame} {meth : Method} {c : Code} {H : Heap} {locs : List Loc} {cells slots : Nat} {Q : State → Prop} {cc : ByteArray} {pc nL : Nat} {ls : Array Slot} {rest : List Value} {ret : Option FieldType} {nmm own : String} {E : gE} {μ μ1 : Mm} {index : Nat} (C : gCx p s m args meth c cc nL ret nmm own) (hM : MS E μ s H locs) {N : Nat} {x0 v : Int} (hc : f_L_lots N x0 μ = some (v, μ1)) (h1 : Cond.methodLink own index yL_lots ∈ bigL) (hR : 5 ≤ R.frames ∧ 121 ≤ R.locals) (hl : ls.size = nL) (hcat : RC rest 8) (hf : cells + 0 ≤ R.cells ∧ slots + 0 ≤ R.slots) (hdg : decode cc pc = .ok (.invokestatic index, 3)) (kk : (R32 v) → ∀ (H1 : Heap) (locs1 : List Loc), MS E μ1 s H1 locs1 → W p l e R s m args below meth c H1 locs1 (cells + 0) (slots + 0) Q (F0 m (pc + 3) ls (vi v :: rest))) : W p l e R s m args below meth c H locs cells slots Q (F0 m pc ls (vr E x0 :: rest)) := g_callS C hM (c_L_lots l E N x0 μ μ1 v hc) (gS h1 bw_3_81 bw_1_0 bw_3_82) hd_L_lots hR rfl hl rfl hcat hf hdg kk
end G10
