section G10
variable {p : Program} {l : Launch} {e : Env} {R : Room} {s : State} {m : MethodId} {args : Array Value} {below : List Frame} {meth : Method} {c : Code} {E : gE}
/-! X7_rate -/
def f_X7_rate (N : Nat) (x0 x1 : Int) (μ : Mm) : Rs :=
  bd (f_X7_outside N x1 0 5 μ) fun a1 μ2 =>
  if a1 = 0 then
    (ck (μ2 x0 (-2) = 9) <|
     ck (μ2 (μ2 x0 0) (-2) = 8) <|
     ck (μ2 (μ2 (μ2 x0 0) 0) (-2) = 7) <|
     ck (μ2 (μ2 (μ2 (μ2 x0 0) 0) 0) (-2) = 23 ∧ (0 : Int) ≤ x1 ∧ x1 < μ2 (μ2 (μ2 (μ2 x0 0) 0) 0) (-1)) <|
     some (μ2 (μ2 (μ2 (μ2 x0 0) 0) 0) x1, μ2))
  else
  some ((-100000001), μ2)
set_option maxHeartbeats 4000000 in
set_option maxRecDepth 100000 in
theorem c_X7_rate (l : Launch) (E : gE) (N : Nat) (x0 x1 : Int) (μ μ' : Mm) (r : Int) (h : f_X7_rate N x0 x1 μ = some (r, μ')) (rx1 : R32 x1) : gMet l E yX7_rate cX7_rate 2 (some .int) 1 22 [vr E x0, vi x1] (some (vi r)) (R32 r) μ μ' 0 0 := by
  refine g_ofW [1, 1] (by first | (simp only [List.map_cons, List.map_nil, vr_cat]; done) | (simp only [List.map_cons, List.map_nil, vr_cat]; rfl)) (by decide) (by decide) (fun p e s m below meth c ls C hM hl => ?_)
  replace C : gCx p s m _ meth c cX7_rate 2 (some .int) "rate" RX7 := C
  replace hl : lv_has ls 2 [(0, vr E x0), (1, vi x1)] := hl
  unfold f_X7_rate at h
  refine m_iload_n (pc := 0) C dX7_rate_0 rfl (lv_at hl 1 rfl) ?_
  refine m_iconst (pc := 1) C dX7_rate_1 ?_
  refine m_iconst (pc := 2) C dX7_rate_2 ?_
  obtain ⟨a1, μ2, ca1, h⟩ := bd_some h
  refine V_X7_outside (pc := 3) C hM ca1 rx1 rk_0 rk_5 bw_2_136 ⟨Nat.le_of_ble_eq_true rfl, Nat.le_of_ble_eq_true rfl⟩ hl.1 rc0 ⟨Nat.le_refl _, Nat.le_refl _⟩ dX7_rate_3 (fun ra1 H locs hM => ?_)
  refine m_if_eq (tgt := 12) (pc := 6) C ra1 dX7_rate_6 (by decide) (fun c3 => ?_) (fun c3 => ?_)
  · have h := if_t h c3
    refine m_aload_n (pc := 12) C dX7_rate_12 rfl (lv_at hl 0 rfl) ?_
    obtain ⟨q4, h⟩ := ck_some h
    refine G_X7_now (pc := 13) C hM bw_2_64 q4 dX7_rate_13 ?_
    obtain ⟨q5, h⟩ := ck_some h
    refine G_X6_settings (pc := 16) C hM bw_1_182 q5 dX7_rate_16 ?_
    obtain ⟨q6, h⟩ := ck_some h
    refine G_X5_rates (pc := 19) C hM bw_1_42 q6 dX7_rate_19 ?_
    refine m_iload_n (pc := 22) C dX7_rate_22 rfl (lv_at hl 1 rfl) ?_
    obtain ⟨q7, h⟩ := ck_some h
    have gq7 := Ar_iald hM q7.1 q7.2.1 q7.2.2
    refine m_iald (pc := 23) C hM q7.1 q7.2.1 q7.2.2 dX7_rate_23 ?_
    cases h
    exact m_iret (pc := 24) C hM gq7 dX7_rate_24
  · have h := if_f h c3
    refine m_ldc (n := -100000001) (pc := 9) C bw_2_134 rfl dX7_rate_9 ?_
    cases h
    exact m_iret (pc := 11) C hM rk_m100000001 dX7_rate_11
theorem hd_X7_rate : yX7_rate.cls ≠ "java/lang/invoke/MethodHandle" ∧ yX7_rate.cls ≠ "java/lang/invoke/VarHandle" ∧ (parseMethodDescriptor yX7_rate.desc).map (fun d => d.parameters.length) = some 1 := by decide +kernel

theorem V_X7_rate {p : Program} {l : Launch} {e : Env} {R : Room} {s : State} {m : MethodId} {args : Array Value} {below : List Frame} {meth : Method} {c : Code} {H : Heap} {locs : List Loc} {cells slots : Nat} {Q : State → Prop} {cc : ByteArray} {pc nL : Nat} {ls : Array Slot} {rest : List Value} {ret : Option FieldType} {nmm own : String} {E : gE} {μ μ1 : Mm} {index : Nat} (C : gCx p s m args meth c cc nL ret nmm own) (hM : MS E μ s H locs) {N : Nat} {x0 x1 v : Int} (hc : f_X7_rate N x0 x1 μ = some (v, μ1)) (rx1 : R32 x1) (hck : μ x0 (-2) = 9) (h1 : Cond.methodLink own index yX7_rate ∈ bigL) (hR : 2 ≤ R.frames ∧ 43 ≤ R.locals) (hl : ls.size = nL) (hcat : RC rest 8) (hf : cells + 0 ≤ R.cells ∧ slots + 0 ≤ R.slots) (hdg : decode cc pc = .ok (.invokevirtual index, 3)) (kk : (R32 v) → ∀ (H1 : Heap) (locs1 : List Loc), MS E μ1 s H1 locs1 → W p l e R s m args below meth c H1 locs1 (cells + 0) (slots + 0) Q (F0 m (pc + 3) ls (vi v :: rest))) : W p l e R s m args below meth c H locs cells slots Q (F0 m pc ls (vi x1 :: vr E x0 :: rest)) := g_callV C KF_X7 hM (c_X7_rate l E N x0 x1 μ μ1 v hc rx1) hck (gV h1 bw_4_214 bw_4_215 bw_1_1 bw_4_216) ⟨rfl, hd_X7_rate⟩ hR rfl hl rfl hcat hf hdg kk
/-! X8_init -/
def f_X8_init_b114 (N : Nat) : Nat → Int → Int → Int → Int → Mm → Rs
  | 0, _, _, _, _, _ => none
  | n + 1, x0, x1, bc, bs, μ =>
    if 6 ≤ x1 then
      (some (0, μ))
    else
    ck (μ x0 (-2) = 10) <|
    nm (w32 (14 + x1)) fun a3 =>
    ck (μ (μ x0 0) (-2) = 24 ∧ (0 : Int) ≤ a3 ∧ a3 < μ (μ x0 0) (-1)) <|
    nm (mset μ (μ x0 0) a3 100) fun μ5 =>
    nm (w32 (x1 + 1)) fun a6 =>
    f_X8_init_b114 N n x0 a6 bc bs μ5
def f_X8_init (N : Nat) (x0 : Int) (μ : Mm) : Rs :=
  ck ((1 : Int) ≤ x0) <|
  ck ((1 : Int) ≤ 7 ∧ (0 : Int) ≤ 520 ∧ (520 : Int) ≤ 5022 ∧ (520 : Int) ≤ 4096) <|
  nm (μ 0 0 + 1) fun o4 =>
  nm (mnew μ 24 520 520) fun μ3 =>
  ck (μ3 x0 (-2) = 10) <|
  nm (mset μ3 x0 0 o4) fun μ6 =>
  ck ((1 : Int) ≤ (7 - 1) ∧ (0 : Int) ≤ 3120 ∧ (3120 : Int) ≤ (5022 - 520) ∧ (3120 : Int) ≤ 4096) <|
  nm (μ6 0 0 + 1) fun o9 =>
  nm (mnew μ6 24 3120 3120) fun μ8 =>
  ck (μ8 x0 (-2) = 10) <|
  nm (mset μ8 x0 1 o9) fun μ11 =>
  ck ((1 : Int) ≤ (7 - 1 - 1) ∧ (0 : Int) ≤ 1040 ∧ (1040 : Int) ≤ (5022 - 520 - 3120) ∧ (1040 : Int) ≤ 4096) <|
  nm (μ11 0 0 + 1) fun o14 =>
  nm (mnew μ11 24 1040 1040) fun μ13 =>
  ck (μ13 x0 (-2) = 10) <|
  nm (mset μ13 x0 3 o14) fun μ16 =>
  ck ((1 : Int) ≤ (7 - 1 - 1 - 1) ∧ (0 : Int) ≤ 2 ∧ (2 : Int) ≤ (5022 - 520 - 3120 - 1040) ∧ (2 : Int) ≤ 4096) <|
  nm (μ16 0 0 + 1) fun o19 =>
  nm (mnew μ16 25 2 2) fun μ18 =>
  ck (μ18 x0 (-2) = 10) <|
  nm (mset μ18 x0 4 o19) fun μ21 =>
  ck ((1 : Int) ≤ (7 - 1 - 1 - 1 - 1) ∧ (0 : Int) ≤ 80 ∧ (80 : Int) ≤ (5022 - 520 - 3120 - 1040 - 2) ∧ (80 : Int) ≤ 4096) <|
  nm (μ21 0 0 + 1) fun o24 =>
  nm (mnew μ21 22 80 80) fun μ23 =>
  ck (μ23 x0 (-2) = 10) <|
  nm (mset μ23 x0 7 o24) fun μ26 =>
  ck ((1 : Int) ≤ (7 - 1 - 1 - 1 - 1 - 1) ∧ (0 : Int) ≤ 200 ∧ (200 : Int) ≤ (5022 - 520 - 3120 - 1040 - 2 - 80) ∧ (200 : Int) ≤ 4096) <|
  nm (μ26 0 0 + 1) fun o29 =>
  nm (mnew μ26 23 200 200) fun μ28 =>
  ck (μ28 x0 (-2) = 10) <|
  nm (mset μ28 x0 12 o29) fun μ31 =>
  ck ((1 : Int) ≤ (7 - 1 - 1 - 1 - 1 - 1 - 1) ∧ (0 : Int) ≤ 60 ∧ (60 : Int) ≤ (5022 - 520 - 3120 - 1040 - 2 - 80 - 200) ∧ (60 : Int) ≤ 4096) <|
  nm (μ31 0 0 + 1) fun o34 =>
  nm (mnew μ31 23 60 60) fun μ33 =>
  ck (μ33 x0 (-2) = 10) <|
  nm (mset μ33 x0 14 o34) fun μ36 =>
  ck (μ36 x0 (-2) = 10) <|
  ck (μ36 (μ36 x0 0) (-2) = 24 ∧ (0 : Int) ≤ 5 ∧ 5 < μ36 (μ36 x0 0) (-1)) <|
  nm (mset μ36 (μ36 x0 0) 5 100) fun μ39 =>
  ck (μ39 x0 (-2) = 10) <|
  ck (μ39 (μ39 x0 0) (-2) = 24 ∧ (0 : Int) ≤ 6 ∧ 6 < μ39 (μ39 x0 0) (-1)) <|
  nm (mset μ39 (μ39 x0 0) 6 30) fun μ42 =>
  ck (μ42 x0 (-2) = 10) <|
  ck (μ42 (μ42 x0 0) (-2) = 24 ∧ (0 : Int) ≤ 7 ∧ 7 < μ42 (μ42 x0 0) (-1)) <|
  nm (mset μ42 (μ42 x0 0) 7 20) fun μ45 =>
  ck (μ45 x0 (-2) = 10) <|
  ck (μ45 (μ45 x0 0) (-2) = 24 ∧ (0 : Int) ≤ 8 ∧ 8 < μ45 (μ45 x0 0) (-1)) <|
  nm (mset μ45 (μ45 x0 0) 8 20) fun μ48 =>
  ck (μ48 x0 (-2) = 10) <|
  ck (μ48 (μ48 x0 0) (-2) = 24 ∧ (0 : Int) ≤ 9 ∧ 9 < μ48 (μ48 x0 0) (-1)) <|
  nm (mset μ48 (μ48 x0 0) 9 10) fun μ51 =>
  f_X8_init_b114 N N x0 0 (7 - 1 - 1 - 1 - 1 - 1 - 1 - 1) (5022 - 520 - 3120 - 1040 - 2 - 80 - 200 - 60) μ51
set_option maxHeartbeats 4000000 in
set_option maxRecDepth 100000 in
theorem k_X8_init_b114 (C : gCx p s m args meth c cX8_init 2 none "<init>" RX8) (N : Nat) {r : Int} {μ' : Mm} : ∀ (n : Nat), ∀ (x0 x1 bc bs : Int) (μ : Mm), f_X8_init_b114 N n x0 x1 bc bs μ = some (r, μ') → R32 x1 → ∀ (H : Heap) (locs : List Loc) (ls : Array Slot) (cells slots : Nat), (cells : Int) + bc ≤ 7 ∧ 0 ≤ bc ∧ (slots : Int) + bs ≤ 5022 ∧ 0 ≤ bs → MS E μ s H locs → lv_has ls 2 [(0, vr E x0), (1, vi x1)] → W p l e ({ frames := 1, cells := 7, slots := 5022, locals := 20 } : Room) s m args below meth c H locs cells slots (MQ below (gQ E none True μ') args s 7 5022 (gA E)) (F0 m 114 ls []) := by
  intro n
  induction n with
  | zero => intro x0 x1 bc bs μ h; simp [f_X8_init_b114] at h
  | succ n ih =>
    intro x0 x1 bc bs μ h rx1 H locs ls cells slots hb hM hl
    rw [f_X8_init_b114] at h
    refine m_iload_n (pc := 114) C dX8_init_114 rfl (lv_at hl 1 rfl) ?_
    refine m_bipush (pc := 115) C dX8_init_115 rfl ?_
    refine m_icmp_ge (tgt := 138) (pc := 117) C rx1 rk_6 dX8_init_117 (by decide) (fun c1 => ?_) (fun c1 => ?_)
    · have h := if_t h c1
      cases h
      refine W.widen (k := 7) (n := 5022) (by omega) (by omega) ?_
      exact m_vret (pc := 138) C hM trivial dX8_init_138
    · have h := if_f h c1
      refine m_aload_n (pc := 120) C dX8_init_120 rfl (lv_at hl 0 rfl) ?_
      obtain ⟨q2, h⟩ := ck_some h
      refine G_X8_now (pc := 121) C hM bw_4_227 q2 dX8_init_121 ?_
      refine m_bipush (pc := 124) C dX8_init_124 rfl ?_
      refine m_iload_n (pc := 126) C dX8_init_126 rfl (lv_at hl 1 rfl) ?_
      obtain ⟨a3, ea3, h⟩ := nm_some h
      have ra3 : R32 a3 := by rw [ea3]; exact w32_R _
      refine m_iadd (pc := 127) C dX8_init_127 ea3 ?_
      refine m_ldc2 (n := 100) (pc := 128) C bw_4_223 rfl dX8_init_128 ?_
      obtain ⟨q4, h⟩ := ck_some h
      obtain ⟨μ5, eμ5, h⟩ := nm_some h
      refine m_last (pc := 131) C hM q4.1 q4.2.1  q4.2.2 rl_100 eμ5 dX8_init_131 (fun H locs hM => ?_)
      obtain ⟨a6, ea6, h⟩ := nm_some h
      have ra6 : R32 a6 := by rw [ea6]; exact w32_R _
      refine m_iinc (k := 1) (pc := 132) C dX8_init_132 hl rfl (by decide) ea6 (lvK2 0 rfl (Nat.ne_of_beq_eq_false rfl) (vr_cat _ _) lvK0) (fun ls hl => ?_)
      refine m_goto (tgt := 114) (pc := 135) C dX8_init_135 (by decide) ?_
      exact ih _ _ _ _ _ h ra6 _ _ _ _ _ hb hM (lv_sub hl [1, 0] rfl)
set_option maxHeartbeats 4000000 in
set_option maxRecDepth 100000 in
theorem c_X8_init (l : Launch) (E : gE) (N : Nat) (x0 : Int) (μ μ' : Mm) (r : Int) (h : f_X8_init N x0 μ = some (r, μ')) : gMet l E yX8_init cX8_init 2 none 1 20 [vr E x0] none True μ μ' 7 5022 := by
  refine g_ofW [1] (by first | (simp only [List.map_cons, List.map_nil, vr_cat]; done) | (simp only [List.map_cons, List.map_nil, vr_cat]; rfl)) (by decide) (by decide) (fun p e s m below meth c ls C hM hl => ?_)
  replace C : gCx p s m _ meth c cX8_init 2 none "<init>" RX8 := C
  replace hl : lv_has ls 2 [(0, vr E x0)] := hl
  unfold f_X8_init at h
  have hb : ((0 : Nat) : Int) + 7 ≤ 7 ∧ (0 : Int) ≤ 7 ∧ ((0 : Nat) : Int) + 5022 ≤ 5022 ∧ (0 : Int) ≤ 5022 := by decide
  refine m_aload_n (pc := 0) C dX8_init_0 rfl (lv_at hl 0 rfl) ?_
  obtain ⟨q1, h⟩ := ck_some h
  refine m_objInit (pc := 1) C q1 bw_4_222 bw_1_27 bw_1_28 hl.1 rc0 ⟨Nat.le_of_ble_eq_true rfl, Nat.le_of_ble_eq_true rfl⟩ dX8_init_1 ?_
  refine m_aload_n (pc := 4) C dX8_init_4 rfl (lv_at hl 0 rfl) ?_
  refine m_sipush (pc := 5) C dX8_init_5 rfl ?_
  obtain ⟨q2, h⟩ := ck_some h
  obtain ⟨o4, eo4, h⟩ := nm_some h
  obtain ⟨μ3, eμ3, h⟩ := nm_some h
  have po4 : 1 ≤ o4 := by have := hM.wf.1; omega
  refine m_newa (atype := .long) (kc := 24) (t0 := 3) (pc := 8) C hM rfl (by decide) rfl (fun C => by intro q; cases q) bw_5_33 rk_520 q2.2.1 (nb8 q2.2.2.2 (by decide)) (by show _ + 1 ≤ 7; omega) (by show _ + (520 : Int).toNat ≤ 5022; omega) eμ3 dX8_init_8 (fun H hM => ?_)
  rw [← eo4]
  replace hb : ((0 + 1 : Nat) : Int) + (7 - 1) ≤ 7 ∧ (0 : Int) ≤ 7 - 1 ∧ ((0 + (520 : Int).toNat : Nat) : Int) + (5022 - 520) ≤ 5022 ∧ (0 : Int) ≤ 5022 - 520 := by omega
  obtain ⟨q5, h⟩ := ck_some h
  obtain ⟨μ6, eμ6, h⟩ := nm_some h
  refine P_X8_now (pc := 10) C hM bw_4_227 q5 eμ6 dX8_init_10 (fun H locs hM => ?_)
  refine m_aload_n (pc := 13) C dX8_init_13 rfl (lv_at hl 0 rfl) ?_
  refine m_sipush (pc := 14) C dX8_init_14 rfl ?_
  obtain ⟨q7, h⟩ := ck_some h
  obtain ⟨o9, eo9, h⟩ := nm_some h
  obtain ⟨μ8, eμ8, h⟩ := nm_some h
  have po9 : 1 ≤ o9 := by have := hM.wf.1; omega
  refine m_newa (atype := .long) (kc := 24) (t0 := 3) (pc := 17) C hM rfl (by decide) rfl (fun C => by intro q; cases q) bw_5_33 rk_3120 q7.2.1 (nb8 q7.2.2.2 (by decide)) (by show _ + 1 ≤ 7; omega) (by show _ + (3120 : Int).toNat ≤ 5022; omega) eμ8 dX8_init_17 (fun H hM => ?_)
  rw [← eo9]
  replace hb : ((0 + 1 + 1 : Nat) : Int) + (7 - 1 - 1) ≤ 7 ∧ (0 : Int) ≤ 7 - 1 - 1 ∧ ((0 + (520 : Int).toNat + (3120 : Int).toNat : Nat) : Int) + (5022 - 520 - 3120) ≤ 5022 ∧ (0 : Int) ≤ 5022 - 520 - 3120 := by omega
  obtain ⟨q10, h⟩ := ck_some h
  obtain ⟨μ11, eμ11, h⟩ := nm_some h
  refine P_X8_history (pc := 19) C hM bw_4_228 q10 eμ11 dX8_init_19 (fun H locs hM => ?_)
  refine m_aload_n (pc := 22) C dX8_init_22 rfl (lv_at hl 0 rfl) ?_
  refine m_sipush (pc := 23) C dX8_init_23 rfl ?_
  obtain ⟨q12, h⟩ := ck_some h
  obtain ⟨o14, eo14, h⟩ := nm_some h
  obtain ⟨μ13, eμ13, h⟩ := nm_some h
  have po14 : 1 ≤ o14 := by have := hM.wf.1; omega
  refine m_newa (atype := .long) (kc := 24) (t0 := 3) (pc := 26) C hM rfl (by decide) rfl (fun C => by intro q; cases q) bw_5_33 rk_1040 q12.2.1 (nb8 q12.2.2.2 (by decide)) (by show _ + 1 ≤ 7; omega) (by show _ + (1040 : Int).toNat ≤ 5022; omega) eμ13 dX8_init_26 (fun H hM => ?_)
  rw [← eo14]
  replace hb : ((0 + 1 + 1 + 1 : Nat) : Int) + (7 - 1 - 1 - 1) ≤ 7 ∧ (0 : Int) ≤ 7 - 1 - 1 - 1 ∧ ((0 + (520 : Int).toNat + (3120 : Int).toNat + (1040 : Int).toNat : Nat) : Int) + (5022 - 520 - 3120 - 1040) ≤ 5022 ∧ (0 : Int) ≤ 5022 - 520 - 3120 - 1040 := by omega
  obtain ⟨q15, h⟩ := ck_some h
  obtain ⟨μ16, eμ16, h⟩ := nm_some h
  refine P_X8_slots (pc := 28) C hM bw_4_230 q15 eμ16 dX8_init_28 (fun H locs hM => ?_)
  refine m_aload_n (pc := 31) C dX8_init_31 rfl (lv_at hl 0 rfl) ?_
  refine m_iconst (pc := 32) C dX8_init_32 ?_
  obtain ⟨q17, h⟩ := ck_some h
  obtain ⟨o19, eo19, h⟩ := nm_some h
  obtain ⟨μ18, eμ18, h⟩ := nm_some h
  have po19 : 1 ≤ o19 := by have := hM.wf.1; omega
  refine m_newa (atype := .boolean) (kc := 25) (t0 := 4) (pc := 33) C hM rfl (by decide) rfl (fun C => by intro q; cases q) bw_2_30 rk_2 q17.2.1 (nb8 q17.2.2.2 (by decide)) (by show _ + 1 ≤ 7; omega) (by show _ + (2 : Int).toNat ≤ 5022; omega) eμ18 dX8_init_33 (fun H hM => ?_)
  rw [← eo19]
  replace hb : ((0 + 1 + 1 + 1 + 1 : Nat) : Int) + (7 - 1 - 1 - 1 - 1) ≤ 7 ∧ (0 : Int) ≤ 7 - 1 - 1 - 1 - 1 ∧ ((0 + (520 : Int).toNat + (3120 : Int).toNat + (1040 : Int).toNat + (2 : Int).toNat : Nat) : Int) + (5022 - 520 - 3120 - 1040 - 2) ≤ 5022 ∧ (0 : Int) ≤ 5022 - 520 - 3120 - 1040 - 2 := by omega
  obtain ⟨q20, h⟩ := ck_some h
  obtain ⟨μ21, eμ21, h⟩ := nm_some h
  refine P_X8_isFilled (pc := 35) C hM bw_4_231 q20 eμ21 dX8_init_35 (fun H locs hM => ?_)
  refine m_aload_n (pc := 38) C dX8_init_38 rfl (lv_at hl 0 rfl) ?_
  refine m_bipush (pc := 39) C dX8_init_39 rfl ?_
  obtain ⟨q22, h⟩ := ck_some h
  obtain ⟨o24, eo24, h⟩ := nm_some h
  obtain ⟨μ23, eμ23, h⟩ := nm_some h
  have po24 : 1 ≤ o24 := by have := hM.wf.1; omega
  refine m_newa (atype := .char) (kc := 22) (t0 := 1) (pc := 41) C hM rfl (by decide) rfl (fun C => by intro q; cases q) bw_2_31 rk_80 q22.2.1 (nb8 q22.2.2.2 (by decide)) (by show _ + 1 ≤ 7; omega) (by show _ + (80 : Int).toNat ≤ 5022; omega) eμ23 dX8_init_41 (fun H hM => ?_)
  rw [← eo24]
  replace hb : ((0 + 1 + 1 + 1 + 1 + 1 : Nat) : Int) + (7 - 1 - 1 - 1 - 1 - 1) ≤ 7 ∧ (0 : Int) ≤ 7 - 1 - 1 - 1 - 1 - 1 ∧ ((0 + (520 : Int).toNat + (3120 : Int).toNat + (1040 : Int).toNat + (2 : Int).toNat + (80 : Int).toNat : Nat) : Int) + (5022 - 520 - 3120 - 1040 - 2 - 80) ≤ 5022 ∧ (0 : Int) ≤ 5022 - 520 - 3120 - 1040 - 2 - 80 := by omega
  obtain ⟨q25, h⟩ := ck_some h
  obtain ⟨μ26, eμ26, h⟩ := nm_some h
  refine P_X8_text (pc := 43) C hM bw_4_234 q25 eμ26 dX8_init_43 (fun H locs hM => ?_)
  refine m_aload_n (pc := 46) C dX8_init_46 rfl (lv_at hl 0 rfl) ?_
  refine m_sipush (pc := 47) C dX8_init_47 rfl ?_
  obtain ⟨q27, h⟩ := ck_some h
  obtain ⟨o29, eo29, h⟩ := nm_some h
  obtain ⟨μ28, eμ28, h⟩ := nm_some h
  have po29 : 1 ≤ o29 := by have := hM.wf.1; omega
  refine m_newa (atype := .int) (kc := 23) (t0 := 2) (pc := 50) C hM rfl (by decide) rfl (fun C => by intro q; cases q) bw_1_66 rk_200 q27.2.1 (nb8 q27.2.2.2 (by decide)) (by show _ + 1 ≤ 7; omega) (by show _ + (200 : Int).toNat ≤ 5022; omega) eμ28 dX8_init_50 (fun H hM => ?_)
  rw [← eo29]
  replace hb : ((0 + 1 + 1 + 1 + 1 + 1 + 1 : Nat) : Int) + (7 - 1 - 1 - 1 - 1 - 1 - 1) ≤ 7 ∧ (0 : Int) ≤ 7 - 1 - 1 - 1 - 1 - 1 - 1 ∧ ((0 + (520 : Int).toNat + (3120 : Int).toNat + (1040 : Int).toNat + (2 : Int).toNat + (80 : Int).toNat + (200 : Int).toNat : Nat) : Int) + (5022 - 520 - 3120 - 1040 - 2 - 80 - 200) ≤ 5022 ∧ (0 : Int) ≤ 5022 - 520 - 3120 - 1040 - 2 - 80 - 200 := by omega
  obtain ⟨q30, h⟩ := ck_some h
  obtain ⟨μ31, eμ31, h⟩ := nm_some h
  refine P_X8_orderOf (pc := 52) C hM bw_4_239 q30 eμ31 dX8_init_52 (fun H locs hM => ?_)
  refine m_aload_n (pc := 55) C dX8_init_55 rfl (lv_at hl 0 rfl) ?_
  refine m_bipush (pc := 56) C dX8_init_56 rfl ?_
  obtain ⟨q32, h⟩ := ck_some h
  obtain ⟨o34, eo34, h⟩ := nm_some h
  obtain ⟨μ33, eμ33, h⟩ := nm_some h
  have po34 : 1 ≤ o34 := by have := hM.wf.1; omega
  refine m_newa (atype := .int) (kc := 23) (t0 := 2) (pc := 58) C hM rfl (by decide) rfl (fun C => by intro q; cases q) bw_1_66 rk_60 q32.2.1 (nb8 q32.2.2.2 (by decide)) (by show _ + 1 ≤ 7; omega) (by show _ + (60 : Int).toNat ≤ 5022; omega) eμ33 dX8_init_58 (fun H hM => ?_)
  rw [← eo34]
  replace hb : ((0 + 1 + 1 + 1 + 1 + 1 + 1 + 1 : Nat) : Int) + (7 - 1 - 1 - 1 - 1 - 1 - 1 - 1) ≤ 7 ∧ (0 : Int) ≤ 7 - 1 - 1 - 1 - 1 - 1 - 1 - 1 ∧ ((0 + (520 : Int).toNat + (3120 : Int).toNat + (1040 : Int).toNat + (2 : Int).toNat + (80 : Int).toNat + (200 : Int).toNat + (60 : Int).toNat : Nat) : Int) + (5022 - 520 - 3120 - 1040 - 2 - 80 - 200 - 60) ≤ 5022 ∧ (0 : Int) ≤ 5022 - 520 - 3120 - 1040 - 2 - 80 - 200 - 60 := by omega
  obtain ⟨q35, h⟩ := ck_some h
  obtain ⟨μ36, eμ36, h⟩ := nm_some h
  refine P_X8_document (pc := 60) C hM bw_5_1 q35 eμ36 dX8_init_60 (fun H locs hM => ?_)
  refine m_aload_n (pc := 63) C dX8_init_63 rfl (lv_at hl 0 rfl) ?_
  obtain ⟨q37, h⟩ := ck_some h
  refine G_X8_now (pc := 64) C hM bw_4_227 q37 dX8_init_64 ?_
  refine m_iconst (pc := 67) C dX8_init_67 ?_
  refine m_ldc2 (n := 100) (pc := 68) C bw_4_223 rfl dX8_init_68 ?_
  obtain ⟨q38, h⟩ := ck_some h
  obtain ⟨μ39, eμ39, h⟩ := nm_some h
  refine m_last (pc := 71) C hM q38.1 q38.2.1  q38.2.2 rl_100 eμ39 dX8_init_71 (fun H locs hM => ?_)
  refine m_aload_n (pc := 72) C dX8_init_72 rfl (lv_at hl 0 rfl) ?_
  obtain ⟨q40, h⟩ := ck_some h
  refine G_X8_now (pc := 73) C hM bw_4_227 q40 dX8_init_73 ?_
  refine m_bipush (pc := 76) C dX8_init_76 rfl ?_
  refine m_ldc2 (n := 30) (pc := 78) C bw_4_224 rfl dX8_init_78 ?_
  obtain ⟨q41, h⟩ := ck_some h
  obtain ⟨μ42, eμ42, h⟩ := nm_some h
  refine m_last (pc := 81) C hM q41.1 q41.2.1  q41.2.2 rl_30 eμ42 dX8_init_81 (fun H locs hM => ?_)
  refine m_aload_n (pc := 82) C dX8_init_82 rfl (lv_at hl 0 rfl) ?_
  obtain ⟨q43, h⟩ := ck_some h
  refine G_X8_now (pc := 83) C hM bw_4_227 q43 dX8_init_83 ?_
  refine m_bipush (pc := 86) C dX8_init_86 rfl ?_
  refine m_ldc2 (n := 20) (pc := 88) C bw_4_225 rfl dX8_init_88 ?_
  obtain ⟨q44, h⟩ := ck_some h
  obtain ⟨μ45, eμ45, h⟩ := nm_some h
  refine m_last (pc := 91) C hM q44.1 q44.2.1  q44.2.2 rl_20 eμ45 dX8_init_91 (fun H locs hM => ?_)
  refine m_aload_n (pc := 92) C dX8_init_92 rfl (lv_at hl 0 rfl) ?_
  obtain ⟨q46, h⟩ := ck_some h
  refine G_X8_now (pc := 93) C hM bw_4_227 q46 dX8_init_93 ?_
  refine m_bipush (pc := 96) C dX8_init_96 rfl ?_
  refine m_ldc2 (n := 20) (pc := 98) C bw_4_225 rfl dX8_init_98 ?_
  obtain ⟨q47, h⟩ := ck_some h
  obtain ⟨μ48, eμ48, h⟩ := nm_some h
  refine m_last (pc := 101) C hM q47.1 q47.2.1  q47.2.2 rl_20 eμ48 dX8_init_101 (fun H locs hM => ?_)
  refine m_aload_n (pc := 102) C dX8_init_102 rfl (lv_at hl 0 rfl) ?_
  obtain ⟨q49, h⟩ := ck_some h
  refine G_X8_now (pc := 103) C hM bw_4_227 q49 dX8_init_103 ?_
  refine m_bipush (pc := 106) C dX8_init_106 rfl ?_
  refine m_ldc2 (n := 10) (pc := 108) C bw_4_226 rfl dX8_init_108 ?_
  obtain ⟨q50, h⟩ := ck_some h
  obtain ⟨μ51, eμ51, h⟩ := nm_some h
  refine m_last (pc := 111) C hM q50.1 q50.2.1  q50.2.2 rl_10 eμ51 dX8_init_111 (fun H locs hM => ?_)
  refine m_iconst (pc := 112) C dX8_init_112 ?_
  refine m_istore_n (pc := 113) C dX8_init_113 rfl hl (by decide) (lvK2 0 rfl (Nat.ne_of_beq_eq_false rfl) (vr_cat _ _) lvK0) (fun ls hl => ?_)
  exact k_X8_init_b114 C N N _ _ _ _ _ h rk_0 _ _ _ _ _ hb hM (lv_sub hl [1, 0] rfl)
theorem hd_X8_init : yX8_init.cls ≠ "java/lang/invoke/MethodHandle" ∧ yX8_init.cls ≠ "java/lang/invoke/VarHandle" ∧ (parseMethodDescriptor yX8_init.desc).map (fun d => d.parameters.length) = some 0 := by decide +kernel

theorem V_X8_init {p : Program} {l : Launch} {e : Env} {R : Room} {s : State} {m : MethodId} {args : Array Value} {below : List Frame} {meth : Method} {c : Code} {H : Heap} {locs : List Loc} {cells slots : Nat} {Q : State → Prop} {cc : ByteArray} {pc nL : Nat} {ls : Array Slot} {rest : List Value} {ret : Option FieldType} {nmm own : String} {E : gE} {μ μ1 : Mm} {index : Nat} (C : gCx p s m args meth c cc nL ret nmm own) (hM : MS E μ s H locs) {N : Nat} {x0 v : Int} (hc : f_X8_init N x0 μ = some (v, μ1)) (hck : 1 ≤ x0) (h1 : Cond.methodLink own index yX8_init ∈ bigL) (hR : 2 ≤ R.frames ∧ 41 ≤ R.locals) (hl : ls.size = nL) (hcat : RC rest 8) (hf : cells + 7 ≤ R.cells ∧ slots + 5022 ≤ R.slots) (hdg : decode cc pc = .ok (.invokespecial index, 3)) (kk : True → ∀ (H1 : Heap) (locs1 : List Loc), MS E μ1 s H1 locs1 → W p l e R s m args below meth c H1 locs1 (cells + 7) (slots + 5022) Q (F0 m (pc + 3) ls rest)) : W p l e R s m args below meth c H locs cells slots Q (F0 m pc ls (vr E x0 :: rest)) := g_callI C hM (c_X8_init l E N x0 μ μ1 v hc) hck h1 bw_4_220 bw_1_13 bw_4_221 rfl hd_X8_init hR rfl hl rfl hcat hf hdg kk
/-! X8_in -/
def f_X8_in (N : Nat) (x0 x2 x4 : Int) (μ : Mm) : Rs :=
  if x0 < x2 then
    (some (0, μ))
  else
  if x4 < x0 then
    (some (0, μ))
  else
  some (1, μ)
set_option maxHeartbeats 4000000 in
set_option maxRecDepth 100000 in
theorem c_X8_in (l : Launch) (E : gE) (N : Nat) (x0 x2 x4 : Int) (μ μ' : Mm) (r : Int) (h : f_X8_in N x0 x2 x4 μ = some (r, μ')) (rx0 : R64 x0) (rx2 : R64 x2) (rx4 : R64 x4) : gMet l E yX8_in cX8_in 6 (some .boolean) 0 0 [vl x0, vl x2, vl x4] (some (vi r)) (R32 r) μ μ' 0 0 := by
  refine g_ofW [2, 2, 2] rfl (by decide) (by decide) (fun p e s m below meth c ls C hM hl => ?_)
  replace C : gCx p s m _ meth c cX8_in 6 (some .boolean) "in" RX8 := C
  replace hl : lv_has ls 6 [(0, vl x0), (2, vl x2), (4, vl x4)] := hl
  unfold f_X8_in at h
  refine m_lload_n (pc := 0) C dX8_in_0 rfl (lv_at hl 0 rfl) ?_
  refine m_lload_n (pc := 1) C dX8_in_1 rfl (lv_at hl 1 rfl) ?_
  refine m_lcmp_lt (tgt := 17) (pc := 2) C rx0 rx2 dX8_in_2 dX8_in_3 (by decide) (fun c1 => ?_) (fun c1 => ?_)
  · have h := if_t h c1
    refine m_iconst (pc := 17) C dX8_in_17 ?_
    cases h
    exact m_zret (pc := 18) C rfl hM rk_0 dX8_in_18
  · have h := if_f h c1
    refine m_lload_n (pc := 6) C dX8_in_6 rfl (lv_at hl 0 rfl) ?_
    refine m_lload (pc := 7) C dX8_in_7 (lv_at hl 2 rfl) ?_
    refine m_lcmp_gt (tgt := 17) (pc := 9) C rx0 rx4 dX8_in_9 dX8_in_10 (by decide) (fun c2 => ?_) (fun c2 => ?_)
    · have h := if_t h c2
      refine m_iconst (pc := 17) C dX8_in_17 ?_
      cases h
      exact m_zret (pc := 18) C rfl hM rk_0 dX8_in_18
    · have h := if_f h c2
      refine m_iconst (pc := 13) C dX8_in_13 ?_
      refine m_goto (tgt := 18) (pc := 14) C dX8_in_14 (by decide) ?_
      cases h
      exact m_zret (pc := 18) C rfl hM rk_1 dX8_in_18
theorem hd_X8_in : yX8_in.cls ≠ "java/lang/invoke/MethodHandle" ∧ yX8_in.cls ≠ "java/lang/invoke/VarHandle" ∧ (parseMethodDescriptor yX8_in.desc).map (fun d => d.parameters.length) = some 3 := by decide +kernel

theorem V_X8_in {p : Program} {l : Launch} {e : Env} {R : Room} {s : State} {m : MethodId} {args : Array Value} {below : List Frame} {meth : Method} {c : Code} {H : Heap} {locs : List Loc} {cells slots : Nat} {Q : State → Prop} {cc : ByteArray} {pc nL : Nat} {ls : Array Slot} {rest : List Value} {ret : Option FieldType} {nmm own : String} {E : gE} {μ μ1 : Mm} {index : Nat} (C : gCx p s m args meth c cc nL ret nmm own) (hM : MS E μ s H locs) {N : Nat} {x0 x2 x4 v : Int} (hc : f_X8_in N x0 x2 x4 μ = some (v, μ1)) (rx0 : R64 x0) (rx2 : R64 x2) (rx4 : R64 x4) (h1 : Cond.methodLink own index yX8_in ∈ bigL) (hR : 1 ≤ R.frames ∧ 25 ≤ R.locals) (hl : ls.size = nL) (hcat : RC rest 8) (hf : cells + 0 ≤ R.cells ∧ slots + 0 ≤ R.slots) (hdg : decode cc pc = .ok (.invokestatic index, 3)) (kk : (R32 v) → ∀ (H1 : Heap) (locs1 : List Loc), MS E μ1 s H1 locs1 → W p l e R s m args below meth c H1 locs1 (cells + 0) (slots + 0) Q (F0 m (pc + 3) ls (vi v :: rest))) : W p l e R s m args below meth c H locs cells slots Q (F0 m pc ls (vl x4 :: vl x2 :: vl x0 :: rest)) := g_callS C hM (c_X8_in l E N x0 x2 x4 μ μ1 v hc rx0 rx2 rx4) (gS h1 bw_5_44 bw_1_13 bw_5_45) hd_X8_in hR rfl hl rfl hcat hf hdg kk
/-! X8_number -/
def f_X8_number (N : Nat) (x0 x1 : Int) (μ : Mm) : Rs :=
  ck (μ x0 (-2) = 10) <|
  ck (μ (μ x0 0) (-2) = 24 ∧ (0 : Int) ≤ x1 ∧ x1 < μ (μ x0 0) (-1)) <|
  nm (w32 (μ (μ x0 0) x1)) fun a3 =>
  some (a3, μ)
set_option maxHeartbeats 4000000 in
set_option maxRecDepth 100000 in
theorem c_X8_number (l : Launch) (E : gE) (N : Nat) (x0 x1 : Int) (μ μ' : Mm) (r : Int) (h : f_X8_number N x0 x1 μ = some (r, μ')) (rx1 : R32 x1) : gMet l E yX8_number cX8_number 2 (some .int) 0 0 [vr E x0, vi x1] (some (vi r)) (R32 r) μ μ' 0 0 := by
  refine g_ofW [1, 1] (by first | (simp only [List.map_cons, List.map_nil, vr_cat]; done) | (simp only [List.map_cons, List.map_nil, vr_cat]; rfl)) (by decide) (by decide) (fun p e s m below meth c ls C hM hl => ?_)
  replace C : gCx p s m _ meth c cX8_number 2 (some .int) "number" RX8 := C
  replace hl : lv_has ls 2 [(0, vr E x0), (1, vi x1)] := hl
  unfold f_X8_number at h
  refine m_aload_n (pc := 0) C dX8_number_0 rfl (lv_at hl 0 rfl) ?_
  obtain ⟨q1, h⟩ := ck_some h
  refine G_X8_now (pc := 1) C hM bw_4_227 q1 dX8_number_1 ?_
  refine m_iload_n (pc := 4) C dX8_number_4 rfl (lv_at hl 1 rfl) ?_
  obtain ⟨q2, h⟩ := ck_some h
  have gq2 := Ar_lald hM q2.1 q2.2.1 q2.2.2
  refine m_lald (pc := 5) C hM q2.1 q2.2.1 q2.2.2 dX8_number_5 ?_
  obtain ⟨a3, ea3, h⟩ := nm_some h
  have ra3 : R32 a3 := by rw [ea3]; exact w32_R _
  refine m_l2i (pc := 6) C dX8_number_6 ea3 ?_
  cases h
  exact m_iret (pc := 7) C hM ra3 dX8_number_7
theorem hd_X8_number : yX8_number.cls ≠ "java/lang/invoke/MethodHandle" ∧ yX8_number.cls ≠ "java/lang/invoke/VarHandle" ∧ (parseMethodDescriptor yX8_number.desc).map (fun d => d.parameters.length) = some 1 := by decide +kernel

theorem V_X8_number {p : Program} {l : Launch} {e : Env} {R : Room} {s : State} {m : MethodId} {args : Array Value} {below : List Frame} {meth : Method} {c : Code} {H : Heap} {locs : List Loc} {cells slots : Nat} {Q : State → Prop} {cc : ByteArray} {pc nL : Nat} {ls : Array Slot} {rest : List Value} {ret : Option FieldType} {nmm own : String} {E : gE} {μ μ1 : Mm} {index : Nat} (C : gCx p s m args meth c cc nL ret nmm own) (hM : MS E μ s H locs) {N : Nat} {x0 x1 v : Int} (hc : f_X8_number N x0 x1 μ = some (v, μ1)) (rx1 : R32 x1) (hck : μ x0 (-2) = 10) (h1 : Cond.methodLink own index yX8_number ∈ bigL) (hR : 1 ≤ R.frames ∧ 21 ≤ R.locals) (hl : ls.size = nL) (hcat : RC rest 8) (hf : cells + 0 ≤ R.cells ∧ slots + 0 ≤ R.slots) (hdg : decode cc pc = .ok (.invokevirtual index, 3)) (kk : (R32 v) → ∀ (H1 : Heap) (locs1 : List Loc), MS E μ1 s H1 locs1 → W p l e R s m args below meth c H1 locs1 (cells + 0) (slots + 0) Q (F0 m (pc + 3) ls (vi v :: rest))) : W p l e R s m args below meth c H locs cells slots Q (F0 m pc ls (vi x1 :: vr E x0 :: rest)) := g_callV C KF_X8 hM (c_X8_number l E N x0 x1 μ μ1 v hc rx1) hck (gV h1 bw_5_49 bs_20 bw_1_13 bw_5_50) ⟨rfl, hd_X8_number⟩ hR rfl hl rfl hcat hf hdg kk
/-! X8_record -/
def f_X8_record_b57 (N : Nat) : Nat → Int → Int → Mm → Rs
  | 0, _, _, _ => none
  | n + 1, x0, x1, μ =>
    if 520 ≤ x1 then
      (ck (μ x0 (-2) = 10) <|
       nm (w32 ((μ x0 2) + 1)) fun a3 =>
       ck (μ x0 (-2) = 10) <|
       nm (mset μ x0 2 a3) fun μ5 =>
       some (0, μ5))
    else
    ck (μ x0 (-2) = 10) <|
    ck (μ x0 (-2) = 10) <|
    nm (w32 (520 * (μ x0 2))) fun a8 =>
    nm (w32 (a8 + x1)) fun a9 =>
    ck (μ x0 (-2) = 10) <|
    ck (μ (μ x0 0) (-2) = 24 ∧ (0 : Int) ≤ x1 ∧ x1 < μ (μ x0 0) (-1)) <|
    ck (μ (μ x0 1) (-2) = 24 ∧ (0 : Int) ≤ a9 ∧ a9 < μ (μ x0 1) (-1)) <|
    nm (mset μ (μ x0 1) a9 (μ (μ x0 0) x1)) fun μ13 =>
    nm (w32 (x1 + 1)) fun a14 =>
    f_X8_record_b57 N n x0 a14 μ13
def f_X8_record_b21 (N : Nat) : Nat → Int → Int → Mm → Rs
  | 0, _, _, _ => none
  | n + 1, x0, x1, μ =>
    ck (μ x0 (-2) = 10) <|
    nm (w32 (520 * (μ x0 2))) fun a2 =>
    if a2 ≤ x1 then
      (f_X8_record_b57 N N x0 0 μ)
    else
    ck (μ x0 (-2) = 10) <|
    ck (μ x0 (-2) = 10) <|
    nm (w32 (x1 + 520)) fun a6 =>
    ck (μ (μ x0 1) (-2) = 24 ∧ (0 : Int) ≤ a6 ∧ a6 < μ (μ x0 1) (-1)) <|
    ck (μ (μ x0 1) (-2) = 24 ∧ (0 : Int) ≤ x1 ∧ x1 < μ (μ x0 1) (-1)) <|
    nm (mset μ (μ x0 1) x1 (μ (μ x0 1) a6)) fun μ9 =>
    nm (w32 (x1 + 1)) fun a10 =>
    f_X8_record_b21 N n x0 a10 μ9
def f_X8_record (N : Nat) (x0 : Int) (μ : Mm) : Rs :=
  ck (μ x0 (-2) = 10) <|
  if ¬ (μ x0 2) = 6 then
    (f_X8_record_b57 N N x0 0 μ)
  else
  ck (μ x0 (-2) = 10) <|
  nm (w32 ((μ x0 2) - 1)) fun a4 =>
  ck (μ x0 (-2) = 10) <|
  nm (mset μ x0 2 a4) fun μ6 =>
  f_X8_record_b21 N N x0 0 μ6
set_option maxHeartbeats 4000000 in
set_option maxRecDepth 100000 in
theorem k_X8_record_b57 (C : gCx p s m args meth c cX8_record 2 none "record" RX8) (N : Nat) {r : Int} {μ' : Mm} : ∀ (n : Nat), ∀ (x0 x1 : Int) (μ : Mm), f_X8_record_b57 N n x0 x1 μ = some (r, μ') → R32 x1 → ∀ (H : Heap) (locs : List Loc) (ls : Array Slot), MS E μ s H locs → lv_has ls 2 [(0, vr E x0), (1, vi x1)] → W p l e ({ frames := 0, cells := 0, slots := 0, locals := 0 } : Room) s m args below meth c H locs 0 0 (MQ below (gQ E none True μ') args s 0 0 (gA E)) (F0 m 57 ls []) := by
  intro n
  induction n with
  | zero => intro x0 x1 μ h; simp [f_X8_record_b57] at h
  | succ n ih =>
    intro x0 x1 μ h rx1 H locs ls hM hl
    rw [f_X8_record_b57] at h
    refine m_iload_n (pc := 57) C dX8_record_57 rfl (lv_at hl 1 rfl) ?_
    refine m_sipush (pc := 58) C dX8_record_58 rfl ?_
    refine m_icmp_ge (tgt := 91) (pc := 61) C rx1 rk_520 dX8_record_61 (by decide) (fun c1 => ?_) (fun c1 => ?_)
    · have h := if_t h c1
      refine m_aload_n (pc := 91) C dX8_record_91 rfl (lv_at hl 0 rfl) ?_
      refine m_dup (pc := 92) C (vr_cat _ _) dX8_record_92 ?_
      obtain ⟨q2, h⟩ := ck_some h
      have gq2 := Gr_X8_kept hM q2
      refine G_X8_kept (pc := 93) C hM bw_4_229 q2 dX8_record_93 ?_
      refine m_iconst (pc := 96) C dX8_record_96 ?_
      obtain ⟨a3, ea3, h⟩ := nm_some h
      have ra3 : R32 a3 := by rw [ea3]; exact w32_R _
      refine m_iadd (pc := 97) C dX8_record_97 ea3 ?_
      obtain ⟨q4, h⟩ := ck_some h
      obtain ⟨μ5, eμ5, h⟩ := nm_some h
      refine P_X8_kept (pc := 98) C hM bw_4_229 q4 ra3 eμ5 dX8_record_98 (fun H locs hM => ?_)
      cases h
      exact m_vret (pc := 101) C hM trivial dX8_record_101
    · have h := if_f h c1
      refine m_aload_n (pc := 64) C dX8_record_64 rfl (lv_at hl 0 rfl) ?_
      obtain ⟨q6, h⟩ := ck_some h
      refine G_X8_history (pc := 65) C hM bw_4_228 q6 dX8_record_65 ?_
      refine m_sipush (pc := 68) C dX8_record_68 rfl ?_
      refine m_aload_n (pc := 71) C dX8_record_71 rfl (lv_at hl 0 rfl) ?_
      obtain ⟨q7, h⟩ := ck_some h
      have gq7 := Gr_X8_kept hM q7
      refine G_X8_kept (pc := 72) C hM bw_4_229 q7 dX8_record_72 ?_
      obtain ⟨a8, ea8, h⟩ := nm_some h
      have ra8 : R32 a8 := by rw [ea8]; exact w32_R _
      refine m_imul (pc := 75) C dX8_record_75 ea8 ?_
      refine m_iload_n (pc := 76) C dX8_record_76 rfl (lv_at hl 1 rfl) ?_
      obtain ⟨a9, ea9, h⟩ := nm_some h
      have ra9 : R32 a9 := by rw [ea9]; exact w32_R _
      refine m_iadd (pc := 77) C dX8_record_77 ea9 ?_
      refine m_aload_n (pc := 78) C dX8_record_78 rfl (lv_at hl 0 rfl) ?_
      obtain ⟨q10, h⟩ := ck_some h
      refine G_X8_now (pc := 79) C hM bw_4_227 q10 dX8_record_79 ?_
      refine m_iload_n (pc := 82) C dX8_record_82 rfl (lv_at hl 1 rfl) ?_
      obtain ⟨q11, h⟩ := ck_some h
      have gq11 := Ar_lald hM q11.1 q11.2.1 q11.2.2
      refine m_lald (pc := 83) C hM q11.1 q11.2.1 q11.2.2 dX8_record_83 ?_
      obtain ⟨q12, h⟩ := ck_some h
      obtain ⟨μ13, eμ13, h⟩ := nm_some h
      refine m_last (pc := 84) C hM q12.1 q12.2.1  q12.2.2 gq11 eμ13 dX8_record_84 (fun H locs hM => ?_)
      obtain ⟨a14, ea14, h⟩ := nm_some h
      have ra14 : R32 a14 := by rw [ea14]; exact w32_R _
      refine m_iinc (k := 1) (pc := 85) C dX8_record_85 hl rfl (by decide) ea14 (lvK2 0 rfl (Nat.ne_of_beq_eq_false rfl) (vr_cat _ _) lvK0) (fun ls hl => ?_)
      refine m_goto (tgt := 57) (pc := 88) C dX8_record_88 (by decide) ?_
      exact ih _ _ _ h ra14 _ _ _ hM (lv_sub hl [1, 0] rfl)
set_option maxHeartbeats 4000000 in
set_option maxRecDepth 100000 in
theorem k_X8_record_b21 (C : gCx p s m args meth c cX8_record 2 none "record" RX8) (N : Nat) {r : Int} {μ' : Mm} : ∀ (n : Nat), ∀ (x0 x1 : Int) (μ : Mm), f_X8_record_b21 N n x0 x1 μ = some (r, μ') → R32 x1 → ∀ (H : Heap) (locs : List Loc) (ls : Array Slot), MS E μ s H locs → lv_has ls 2 [(0, vr E x0), (1, vi x1)] → W p l e ({ frames := 0, cells := 0, slots := 0, locals := 0 } : Room) s m args below meth c H locs 0 0 (MQ below (gQ E none True μ') args s 0 0 (gA E)) (F0 m 21 ls []) := by
  intro n
  induction n with
  | zero => intro x0 x1 μ h; simp [f_X8_record_b21] at h
  | succ n ih =>
    intro x0 x1 μ h rx1 H locs ls hM hl
    rw [f_X8_record_b21] at h
    refine m_iload_n (pc := 21) C dX8_record_21 rfl (lv_at hl 1 rfl) ?_
    refine m_sipush (pc := 22) C dX8_record_22 rfl ?_
    refine m_aload_n (pc := 25) C dX8_record_25 rfl (lv_at hl 0 rfl) ?_
    obtain ⟨q1, h⟩ := ck_some h
    have gq1 := Gr_X8_kept hM q1
    refine G_X8_kept (pc := 26) C hM bw_4_229 q1 dX8_record_26 ?_
    obtain ⟨a2, ea2, h⟩ := nm_some h
    have ra2 : R32 a2 := by rw [ea2]; exact w32_R _
    refine m_imul (pc := 29) C dX8_record_29 ea2 ?_
    refine m_icmp_ge (tgt := 55) (pc := 30) C rx1 ra2 dX8_record_30 (by decide) (fun c3 => ?_) (fun c3 => ?_)
    · have h := if_t h c3
      refine m_iconst (pc := 55) C dX8_record_55 ?_
      refine m_istore_n (pc := 56) C dX8_record_56 rfl hl (by decide) (lvK2 0 rfl (Nat.ne_of_beq_eq_false rfl) (vr_cat _ _) lvK0) (fun ls hl => ?_)
      exact k_X8_record_b57 C N N _ _ _ h rk_0 _ _ _ hM (lv_sub hl [1, 0] rfl)
    · have h := if_f h c3
      refine m_aload_n (pc := 33) C dX8_record_33 rfl (lv_at hl 0 rfl) ?_
      obtain ⟨q4, h⟩ := ck_some h
      refine G_X8_history (pc := 34) C hM bw_4_228 q4 dX8_record_34 ?_
      refine m_iload_n (pc := 37) C dX8_record_37 rfl (lv_at hl 1 rfl) ?_
      refine m_aload_n (pc := 38) C dX8_record_38 rfl (lv_at hl 0 rfl) ?_
      obtain ⟨q5, h⟩ := ck_some h
      refine G_X8_history (pc := 39) C hM bw_4_228 q5 dX8_record_39 ?_
      refine m_iload_n (pc := 42) C dX8_record_42 rfl (lv_at hl 1 rfl) ?_
      refine m_sipush (pc := 43) C dX8_record_43 rfl ?_
      obtain ⟨a6, ea6, h⟩ := nm_some h
      have ra6 : R32 a6 := by rw [ea6]; exact w32_R _
      refine m_iadd (pc := 46) C dX8_record_46 ea6 ?_
      obtain ⟨q7, h⟩ := ck_some h
      have gq7 := Ar_lald hM q7.1 q7.2.1 q7.2.2
      refine m_lald (pc := 47) C hM q7.1 q7.2.1 q7.2.2 dX8_record_47 ?_
      obtain ⟨q8, h⟩ := ck_some h
      obtain ⟨μ9, eμ9, h⟩ := nm_some h
      refine m_last (pc := 48) C hM q8.1 q8.2.1  q8.2.2 gq7 eμ9 dX8_record_48 (fun H locs hM => ?_)
      obtain ⟨a10, ea10, h⟩ := nm_some h
      have ra10 : R32 a10 := by rw [ea10]; exact w32_R _
      refine m_iinc (k := 1) (pc := 49) C dX8_record_49 hl rfl (by decide) ea10 (lvK2 0 rfl (Nat.ne_of_beq_eq_false rfl) (vr_cat _ _) lvK0) (fun ls hl => ?_)
      refine m_goto (tgt := 21) (pc := 52) C dX8_record_52 (by decide) ?_
      exact ih _ _ _ h ra10 _ _ _ hM (lv_sub hl [1, 0] rfl)
set_option maxHeartbeats 4000000 in
set_option maxRecDepth 100000 in
theorem c_X8_record (l : Launch) (E : gE) (N : Nat) (x0 : Int) (μ μ' : Mm) (r : Int) (h : f_X8_record N x0 μ = some (r, μ')) : gMet l E yX8_record cX8_record 2 none 0 0 [vr E x0] none True μ μ' 0 0 := by
  refine g_ofW [1] (by first | (simp only [List.map_cons, List.map_nil, vr_cat]; done) | (simp only [List.map_cons, List.map_nil, vr_cat]; rfl)) (by decide) (by decide) (fun p e s m below meth c ls C hM hl => ?_)
  replace C : gCx p s m _ meth c cX8_record 2 none "record" RX8 := C
  replace hl : lv_has ls 2 [(0, vr E x0)] := hl
  unfold f_X8_record at h
  refine m_aload_n (pc := 0) C dX8_record_0 rfl (lv_at hl 0 rfl) ?_
  obtain ⟨q1, h⟩ := ck_some h
  have gq1 := Gr_X8_kept hM q1
  refine G_X8_kept (pc := 1) C hM bw_4_229 q1 dX8_record_1 ?_
  refine m_bipush (pc := 4) C dX8_record_4 rfl ?_
  refine m_icmp_ne (tgt := 55) (pc := 6) C gq1 rk_6 dX8_record_6 (by decide) (fun c2 => ?_) (fun c2 => ?_)
  · have h := if_t h c2
    refine m_iconst (pc := 55) C dX8_record_55 ?_
    refine m_istore_n (pc := 56) C dX8_record_56 rfl hl (by decide) (lvK2 0 rfl (Nat.ne_of_beq_eq_false rfl) (vr_cat _ _) lvK0) (fun ls hl => ?_)
    exact k_X8_record_b57 C N N _ _ _ h rk_0 _ _ _ hM (lv_sub hl [1, 0] rfl)
  · have h := if_f h c2
    refine m_aload_n (pc := 9) C dX8_record_9 rfl (lv_at hl 0 rfl) ?_
    refine m_dup (pc := 10) C (vr_cat _ _) dX8_record_10 ?_
    obtain ⟨q3, h⟩ := ck_some h
    have gq3 := Gr_X8_kept hM q3
    refine G_X8_kept (pc := 11) C hM bw_4_229 q3 dX8_record_11 ?_
    refine m_iconst (pc := 14) C dX8_record_14 ?_
    obtain ⟨a4, ea4, h⟩ := nm_some h
    have ra4 : R32 a4 := by rw [ea4]; exact w32_R _
    refine m_isub (pc := 15) C dX8_record_15 ea4 ?_
    obtain ⟨q5, h⟩ := ck_some h
    obtain ⟨μ6, eμ6, h⟩ := nm_some h
    refine P_X8_kept (pc := 16) C hM bw_4_229 q5 ra4 eμ6 dX8_record_16 (fun H locs hM => ?_)
    refine m_iconst (pc := 19) C dX8_record_19 ?_
    refine m_istore_n (pc := 20) C dX8_record_20 rfl hl (by decide) (lvK2 0 rfl (Nat.ne_of_beq_eq_false rfl) (vr_cat _ _) lvK0) (fun ls hl => ?_)
    exact k_X8_record_b21 C N N _ _ _ h rk_0 _ _ _ hM (lv_sub hl [1, 0] rfl)
theorem hd_X8_record : yX8_record.cls ≠ "java/lang/invoke/MethodHandle" ∧ yX8_record.cls ≠ "java/lang/invoke/VarHandle" ∧ (parseMethodDescriptor yX8_record.desc).map (fun d => d.parameters.length) = some 0 := by decide +kernel

theorem V_X8_record {p : Program} {l : Launch} {e : Env} {R : Room} {s : State} {m : MethodId} {args : Array Value} {below : List Frame} {meth : Method} {c : Code} {H : Heap} {locs : List Loc} {cells slots : Nat} {Q : State → Prop} {cc : ByteArray} {pc nL : Nat} {ls : Array Slot} {rest : List Value} {ret : Option FieldType} {nmm own : String} {E : gE} {μ μ1 : Mm} {index : Nat} (C : gCx p s m args meth c cc nL ret nmm own) (hM : MS E μ s H locs) {N : Nat} {x0 v : Int} (hc : f_X8_record N x0 μ = some (v, μ1)) (hck : μ x0 (-2) = 10) (h1 : Cond.methodLink own index yX8_record ∈ bigL) (hR : 1 ≤ R.frames ∧ 21 ≤ R.locals) (hl : ls.size = nL) (hcat : RC rest 8) (hf : cells + 0 ≤ R.cells ∧ slots + 0 ≤ R.slots) (hdg : decode cc pc = .ok (.invokevirtual index, 3)) (kk : True → ∀ (H1 : Heap) (locs1 : List Loc), MS E μ1 s H1 locs1 → W p l e R s m args below meth c H1 locs1 (cells + 0) (slots + 0) Q (F0 m (pc + 3) ls rest)) : W p l e R s m args below meth c H locs cells slots Q (F0 m pc ls (vr E x0 :: rest)) := g_callV C KF_X8 hM (c_X8_record l E N x0 μ μ1 v hc) hck (gV h1 bw_5_57 bs_21 bw_1_13 bw_5_58) ⟨rfl, hd_X8_record⟩ hR rfl hl rfl hcat hf hdg kk
/-! X8_undo -/
def f_X8_undo_b22 (N : Nat) : Nat → Int → Int → Mm → Rs
  | 0, _, _, _ => none
  | n + 1, x0, x1, μ =>
    if 520 ≤ x1 then
      (ck (μ x0 (-2) = 10) <|
       some (μ x0 2, μ))
    else
    ck (μ x0 (-2) = 10) <|
    ck (μ x0 (-2) = 10) <|
    ck (μ x0 (-2) = 10) <|
    nm (w32 (520 * (μ x0 2))) fun a6 =>
    nm (w32 (a6 + x1)) fun a7 =>
    ck (μ (μ x0 1) (-2) = 24 ∧ (0 : Int) ≤ a7 ∧ a7 < μ (μ x0 1) (-1)) <|
    ck (μ (μ x0 0) (-2) = 24 ∧ (0 : Int) ≤ x1 ∧ x1 < μ (μ x0 0) (-1)) <|
    nm (mset μ (μ x0 0) x1 (μ (μ x0 1) a7)) fun μ10 =>
    nm (w32 (x1 + 1)) fun a11 =>
    f_X8_undo_b22 N n x0 a11 μ10
def f_X8_undo (N : Nat) (x0 : Int) (μ : Mm) : Rs :=
  ck (μ x0 (-2) = 10) <|
  if ¬ (μ x0 2) = 0 then
    (ck (μ x0 (-2) = 10) <|
     nm (w32 ((μ x0 2) - 1)) fun a4 =>
     ck (μ x0 (-2) = 10) <|
     nm (mset μ x0 2 a4) fun μ6 =>
     f_X8_undo_b22 N N x0 0 μ6)
  else
  some ((-100000005), μ)
set_option maxHeartbeats 4000000 in
set_option maxRecDepth 100000 in
theorem k_X8_undo_b22 (C : gCx p s m args meth c cX8_undo 2 (some .int) "undo" RX8) (N : Nat) {r : Int} {μ' : Mm} : ∀ (n : Nat), ∀ (x0 x1 : Int) (μ : Mm), f_X8_undo_b22 N n x0 x1 μ = some (r, μ') → R32 x1 → ∀ (H : Heap) (locs : List Loc) (ls : Array Slot), MS E μ s H locs → lv_has ls 2 [(0, vr E x0), (1, vi x1)] → W p l e ({ frames := 0, cells := 0, slots := 0, locals := 0 } : Room) s m args below meth c H locs 0 0 (MQ below (gQ E (some (vi r)) (R32 r) μ') args s 0 0 (gA E)) (F0 m 22 ls []) := by
  intro n
  induction n with
  | zero => intro x0 x1 μ h; simp [f_X8_undo_b22] at h
  | succ n ih =>
    intro x0 x1 μ h rx1 H locs ls hM hl
    rw [f_X8_undo_b22] at h
    refine m_iload_n (pc := 22) C dX8_undo_22 rfl (lv_at hl 1 rfl) ?_
    refine m_sipush (pc := 23) C dX8_undo_23 rfl ?_
    refine m_icmp_ge (tgt := 56) (pc := 26) C rx1 rk_520 dX8_undo_26 (by decide) (fun c1 => ?_) (fun c1 => ?_)
    · have h := if_t h c1
      refine m_aload_n (pc := 56) C dX8_undo_56 rfl (lv_at hl 0 rfl) ?_
      obtain ⟨q2, h⟩ := ck_some h
      have gq2 := Gr_X8_kept hM q2
      refine G_X8_kept (pc := 57) C hM bw_4_229 q2 dX8_undo_57 ?_
      cases h
      exact m_iret (pc := 60) C hM gq2 dX8_undo_60
    · have h := if_f h c1
      refine m_aload_n (pc := 29) C dX8_undo_29 rfl (lv_at hl 0 rfl) ?_
      obtain ⟨q3, h⟩ := ck_some h
      refine G_X8_now (pc := 30) C hM bw_4_227 q3 dX8_undo_30 ?_
      refine m_iload_n (pc := 33) C dX8_undo_33 rfl (lv_at hl 1 rfl) ?_
      refine m_aload_n (pc := 34) C dX8_undo_34 rfl (lv_at hl 0 rfl) ?_
      obtain ⟨q4, h⟩ := ck_some h
      refine G_X8_history (pc := 35) C hM bw_4_228 q4 dX8_undo_35 ?_
      refine m_sipush (pc := 38) C dX8_undo_38 rfl ?_
      refine m_aload_n (pc := 41) C dX8_undo_41 rfl (lv_at hl 0 rfl) ?_
      obtain ⟨q5, h⟩ := ck_some h
      have gq5 := Gr_X8_kept hM q5
      refine G_X8_kept (pc := 42) C hM bw_4_229 q5 dX8_undo_42 ?_
      obtain ⟨a6, ea6, h⟩ := nm_some h
      have ra6 : R32 a6 := by rw [ea6]; exact w32_R _
      refine m_imul (pc := 45) C dX8_undo_45 ea6 ?_
      refine m_iload_n (pc := 46) C dX8_undo_46 rfl (lv_at hl 1 rfl) ?_
      obtain ⟨a7, ea7, h⟩ := nm_some h
      have ra7 : R32 a7 := by rw [ea7]; exact w32_R _
      refine m_iadd (pc := 47) C dX8_undo_47 ea7 ?_
      obtain ⟨q8, h⟩ := ck_some h
      have gq8 := Ar_lald hM q8.1 q8.2.1 q8.2.2
      refine m_lald (pc := 48) C hM q8.1 q8.2.1 q8.2.2 dX8_undo_48 ?_
      obtain ⟨q9, h⟩ := ck_some h
      obtain ⟨μ10, eμ10, h⟩ := nm_some h
      refine m_last (pc := 49) C hM q9.1 q9.2.1  q9.2.2 gq8 eμ10 dX8_undo_49 (fun H locs hM => ?_)
      obtain ⟨a11, ea11, h⟩ := nm_some h
      have ra11 : R32 a11 := by rw [ea11]; exact w32_R _
      refine m_iinc (k := 1) (pc := 50) C dX8_undo_50 hl rfl (by decide) ea11 (lvK2 0 rfl (Nat.ne_of_beq_eq_false rfl) (vr_cat _ _) lvK0) (fun ls hl => ?_)
      refine m_goto (tgt := 22) (pc := 53) C dX8_undo_53 (by decide) ?_
      exact ih _ _ _ h ra11 _ _ _ hM (lv_sub hl [1, 0] rfl)
set_option maxHeartbeats 4000000 in
set_option maxRecDepth 100000 in
theorem c_X8_undo (l : Launch) (E : gE) (N : Nat) (x0 : Int) (μ μ' : Mm) (r : Int) (h : f_X8_undo N x0 μ = some (r, μ')) : gMet l E yX8_undo cX8_undo 2 (some .int) 0 0 [vr E x0] (some (vi r)) (R32 r) μ μ' 0 0 := by
  refine g_ofW [1] (by first | (simp only [List.map_cons, List.map_nil, vr_cat]; done) | (simp only [List.map_cons, List.map_nil, vr_cat]; rfl)) (by decide) (by decide) (fun p e s m below meth c ls C hM hl => ?_)
  replace C : gCx p s m _ meth c cX8_undo 2 (some .int) "undo" RX8 := C
  replace hl : lv_has ls 2 [(0, vr E x0)] := hl
  unfold f_X8_undo at h
  refine m_aload_n (pc := 0) C dX8_undo_0 rfl (lv_at hl 0 rfl) ?_
  obtain ⟨q1, h⟩ := ck_some h
  have gq1 := Gr_X8_kept hM q1
  refine G_X8_kept (pc := 1) C hM bw_4_229 q1 dX8_undo_1 ?_
  refine m_if_ne (tgt := 10) (pc := 4) C gq1 dX8_undo_4 (by decide) (fun c2 => ?_) (fun c2 => ?_)
  · have h := if_t h c2
    refine m_aload_n (pc := 10) C dX8_undo_10 rfl (lv_at hl 0 rfl) ?_
    refine m_dup (pc := 11) C (vr_cat _ _) dX8_undo_11 ?_
    obtain ⟨q3, h⟩ := ck_some h
    have gq3 := Gr_X8_kept hM q3
    refine G_X8_kept (pc := 12) C hM bw_4_229 q3 dX8_undo_12 ?_
    refine m_iconst (pc := 15) C dX8_undo_15 ?_
    obtain ⟨a4, ea4, h⟩ := nm_some h
    have ra4 : R32 a4 := by rw [ea4]; exact w32_R _
    refine m_isub (pc := 16) C dX8_undo_16 ea4 ?_
    obtain ⟨q5, h⟩ := ck_some h
    obtain ⟨μ6, eμ6, h⟩ := nm_some h
    refine P_X8_kept (pc := 17) C hM bw_4_229 q5 ra4 eμ6 dX8_undo_17 (fun H locs hM => ?_)
    refine m_iconst (pc := 20) C dX8_undo_20 ?_
    refine m_istore_n (pc := 21) C dX8_undo_21 rfl hl (by decide) (lvK2 0 rfl (Nat.ne_of_beq_eq_false rfl) (vr_cat _ _) lvK0) (fun ls hl => ?_)
    exact k_X8_undo_b22 C N N _ _ _ h rk_0 _ _ _ hM (lv_sub hl [1, 0] rfl)
  · have h := if_f h c2
    refine m_ldc (n := -100000005) (pc := 7) C bw_5_38 rfl dX8_undo_7 ?_
    cases h
    exact m_iret (pc := 9) C hM rk_m100000005 dX8_undo_9
theorem hd_X8_undo : yX8_undo.cls ≠ "java/lang/invoke/MethodHandle" ∧ yX8_undo.cls ≠ "java/lang/invoke/VarHandle" ∧ (parseMethodDescriptor yX8_undo.desc).map (fun d => d.parameters.length) = some 0 := by decide +kernel

theorem V_X8_undo {p : Program} {l : Launch} {e : Env} {R : Room} {s : State} {m : MethodId} {args : Array Value} {below : List Frame} {meth : Method} {c : Code} {H : Heap} {locs : List Loc} {cells slots : Nat} {Q : State → Prop} {cc : ByteArray} {pc nL : Nat} {ls : Array Slot} {rest : List Value} {ret : Option FieldType} {nmm own : String} {E : gE} {μ μ1 : Mm} {index : Nat} (C : gCx p s m args meth c cc nL ret nmm own) (hM : MS E μ s H locs) {N : Nat} {x0 v : Int} (hc : f_X8_undo N x0 μ = some (v, μ1)) (hck : μ x0 (-2) = 10) (h1 : Cond.methodLink own index yX8_undo ∈ bigL) (hR : 1 ≤ R.frames ∧ 21 ≤ R.locals) (hl : ls.size = nL) (hcat : RC rest 8) (hf : cells + 0 ≤ R.cells ∧ slots + 0 ≤ R.slots) (hdg : decode cc pc = .ok (.invokevirtual index, 3)) (kk : (R32 v) → ∀ (H1 : Heap) (locs1 : List Loc), MS E μ1 s H1 locs1 → W p l e R s m args below meth c H1 locs1 (cells + 0) (slots + 0) Q (F0 m (pc + 3) ls (vi v :: rest))) : W p l e R s m args below meth c H locs cells slots Q (F0 m pc ls (vr E x0 :: rest)) := g_callV C KF_X8 hM (c_X8_undo l E N x0 μ μ1 v hc) hck (gV h1 bw_5_35 bw_5_36 bw_1_13 bw_5_37) ⟨rfl, hd_X8_undo⟩ hR rfl hl rfl hcat hf hdg kk
/-! X8_keep -/
def f_X8_keep_b15 (N : Nat) : Nat → Int → Int → Int → Mm → Rs
  | 0, _, _, _, _ => none
  | n + 1, x0, x1, x2, μ =>
    if 520 ≤ x2 then
      (ck (μ x0 (-2) = 10) <|
       ck (μ (μ x0 4) (-2) = 25 ∧ (0 : Int) ≤ x1 ∧ x1 < μ (μ x0 4) (-1) ∧ (0 : Int) ≤ 1 ∧ 1 ≤ (1 : Int)) <|
       nm (mset μ (μ x0 4) x1 1) fun μ4 =>
       ck (μ4 x0 (-2) = 10) <|
       bd (f_X8_number N x0 2 μ4) fun a6 μ7 =>
       some (a6, μ7))
    else
    ck (μ x0 (-2) = 10) <|
    nm (w32 (520 * x1)) fun a9 =>
    nm (w32 (a9 + x2)) fun a10 =>
    ck (μ x0 (-2) = 10) <|
    ck (μ (μ x0 0) (-2) = 24 ∧ (0 : Int) ≤ x2 ∧ x2 < μ (μ x0 0) (-1)) <|
    ck (μ (μ x0 3) (-2) = 24 ∧ (0 : Int) ≤ a10 ∧ a10 < μ (μ x0 3) (-1)) <|
    nm (mset μ (μ x0 3) a10 (μ (μ x0 0) x2)) fun μ14 =>
    nm (w32 (x2 + 1)) fun a15 =>
    f_X8_keep_b15 N n x0 x1 a15 μ14
def f_X8_keep (N : Nat) (x0 x1 : Int) (μ : Mm) : Rs :=
  bd (f_X8_in N x1 0 1 μ) fun a1 μ2 =>
  if ¬ a1 = 0 then
    (f_X8_keep_b15 N N x0 x1 0 μ2)
  else
  some ((-100000001), μ2)
set_option maxHeartbeats 4000000 in
set_option maxRecDepth 100000 in
theorem k_X8_keep_b15 (C : gCx p s m args meth c cX8_keep 3 (some .int) "keep" RX8) (N : Nat) {r : Int} {μ' : Mm} : ∀ (n : Nat), ∀ (x0 x1 x2 : Int) (μ : Mm), f_X8_keep_b15 N n x0 x1 x2 μ = some (r, μ') → R32 x1 → R32 x2 → ∀ (H : Heap) (locs : List Loc) (ls : Array Slot), MS E μ s H locs → lv_has ls 3 [(0, vr E x0), (1, vi x1), (2, vi x2)] → W p l e ({ frames := 1, cells := 0, slots := 0, locals := 25 } : Room) s m args below meth c H locs 0 0 (MQ below (gQ E (some (vi r)) (R32 r) μ') args s 0 0 (gA E)) (F0 m 15 ls []) := by
  intro n
  induction n with
  | zero => intro x0 x1 x2 μ h; simp [f_X8_keep_b15] at h
  | succ n ih =>
    intro x0 x1 x2 μ h rx1 rx2 H locs ls hM hl
    rw [f_X8_keep_b15] at h
    refine m_iload_n (pc := 15) C dX8_keep_15 rfl (lv_at hl 2 rfl) ?_
    refine m_sipush (pc := 16) C dX8_keep_16 rfl ?_
    refine m_icmp_ge (tgt := 46) (pc := 19) C rx2 rk_520 dX8_keep_19 (by decide) (fun c1 => ?_) (fun c1 => ?_)
    · have h := if_t h c1
      refine m_aload_n (pc := 46) C dX8_keep_46 rfl (lv_at hl 0 rfl) ?_
      obtain ⟨q2, h⟩ := ck_some h
      refine G_X8_isFilled (pc := 47) C hM bw_4_231 q2 dX8_keep_47 ?_
      refine m_iload_n (pc := 50) C dX8_keep_50 rfl (lv_at hl 1 rfl) ?_
      refine m_iconst (pc := 51) C dX8_keep_51 ?_
      obtain ⟨q3, h⟩ := ck_some h
      obtain ⟨μ4, eμ4, h⟩ := nm_some h
      refine m_zast (pc := 52) C hM q3.1 q3.2.1  q3.2.2.1 q3.2.2.2.1 q3.2.2.2.2 eμ4 dX8_keep_52 (fun H locs hM => ?_)
      refine m_aload_n (pc := 53) C dX8_keep_53 rfl (lv_at hl 0 rfl) ?_
      refine m_iconst (pc := 54) C dX8_keep_54 ?_
      obtain ⟨q5, h⟩ := ck_some h
      obtain ⟨a6, μ7, ca6, h⟩ := bd_some h
      refine V_X8_number (pc := 55) C hM ca6 rk_2 q5 bw_5_47 ⟨Nat.le_of_ble_eq_true rfl, Nat.le_of_ble_eq_true rfl⟩ hl.1 rc0 ⟨Nat.le_refl _, Nat.le_refl _⟩ dX8_keep_55 (fun ra6 H locs hM => ?_)
      cases h
      exact m_iret (pc := 58) C hM ra6 dX8_keep_58
    · have h := if_f h c1
      refine m_aload_n (pc := 22) C dX8_keep_22 rfl (lv_at hl 0 rfl) ?_
      obtain ⟨q8, h⟩ := ck_some h
      refine G_X8_slots (pc := 23) C hM bw_4_230 q8 dX8_keep_23 ?_
      refine m_sipush (pc := 26) C dX8_keep_26 rfl ?_
      refine m_iload_n (pc := 29) C dX8_keep_29 rfl (lv_at hl 1 rfl) ?_
      obtain ⟨a9, ea9, h⟩ := nm_some h
      have ra9 : R32 a9 := by rw [ea9]; exact w32_R _
      refine m_imul (pc := 30) C dX8_keep_30 ea9 ?_
      refine m_iload_n (pc := 31) C dX8_keep_31 rfl (lv_at hl 2 rfl) ?_
      obtain ⟨a10, ea10, h⟩ := nm_some h
      have ra10 : R32 a10 := by rw [ea10]; exact w32_R _
      refine m_iadd (pc := 32) C dX8_keep_32 ea10 ?_
      refine m_aload_n (pc := 33) C dX8_keep_33 rfl (lv_at hl 0 rfl) ?_
      obtain ⟨q11, h⟩ := ck_some h
      refine G_X8_now (pc := 34) C hM bw_4_227 q11 dX8_keep_34 ?_
      refine m_iload_n (pc := 37) C dX8_keep_37 rfl (lv_at hl 2 rfl) ?_
      obtain ⟨q12, h⟩ := ck_some h
      have gq12 := Ar_lald hM q12.1 q12.2.1 q12.2.2
      refine m_lald (pc := 38) C hM q12.1 q12.2.1 q12.2.2 dX8_keep_38 ?_
      obtain ⟨q13, h⟩ := ck_some h
      obtain ⟨μ14, eμ14, h⟩ := nm_some h
      refine m_last (pc := 39) C hM q13.1 q13.2.1  q13.2.2 gq12 eμ14 dX8_keep_39 (fun H locs hM => ?_)
      obtain ⟨a15, ea15, h⟩ := nm_some h
      have ra15 : R32 a15 := by rw [ea15]; exact w32_R _
      refine m_iinc (k := 2) (pc := 40) C dX8_keep_40 hl rfl (by decide) ea15 (lvK1 0 rfl (Nat.ne_of_beq_eq_false rfl) (Nat.ne_of_beq_eq_false rfl) (lvK2 1 rfl (Nat.ne_of_beq_eq_false rfl) rfl lvK0)) (fun ls hl => ?_)
      refine m_goto (tgt := 15) (pc := 43) C dX8_keep_43 (by decide) ?_
      exact ih _ _ _ _ h rx1 ra15 _ _ _ hM (lv_sub hl [1, 2, 0] rfl)
set_option maxHeartbeats 4000000 in
set_option maxRecDepth 100000 in
theorem c_X8_keep (l : Launch) (E : gE) (N : Nat) (x0 x1 : Int) (μ μ' : Mm) (r : Int) (h : f_X8_keep N x0 x1 μ = some (r, μ')) (rx1 : R32 x1) : gMet l E yX8_keep cX8_keep 3 (some .int) 1 25 [vr E x0, vi x1] (some (vi r)) (R32 r) μ μ' 0 0 := by
  refine g_ofW [1, 1] (by first | (simp only [List.map_cons, List.map_nil, vr_cat]; done) | (simp only [List.map_cons, List.map_nil, vr_cat]; rfl)) (by decide) (by decide) (fun p e s m below meth c ls C hM hl => ?_)
  replace C : gCx p s m _ meth c cX8_keep 3 (some .int) "keep" RX8 := C
  replace hl : lv_has ls 3 [(0, vr E x0), (1, vi x1)] := hl
  unfold f_X8_keep at h
  refine m_iload_n (pc := 0) C dX8_keep_0 rfl (lv_at hl 1 rfl) ?_
  refine m_i2l (pc := 1) C rx1 dX8_keep_1 ?_
  refine m_lconst (v := 0) (pc := 2) C dX8_keep_2 rfl ?_
  refine m_lconst (v := 1) (pc := 3) C dX8_keep_3 rfl ?_
  obtain ⟨a1, μ2, ca1, h⟩ := bd_some h
  refine V_X8_in (pc := 4) C hM ca1 (R32.to64 rx1) rl_0 rl_1 bw_5_43 ⟨Nat.le_of_ble_eq_true rfl, Nat.le_of_ble_eq_true rfl⟩ hl.1 rc0 ⟨Nat.le_refl _, Nat.le_refl _⟩ dX8_keep_4 (fun ra1 H locs hM => ?_)
  refine m_if_ne (tgt := 13) (pc := 7) C ra1 dX8_keep_7 (by decide) (fun c3 => ?_) (fun c3 => ?_)
  · have h := if_t h c3
    refine m_iconst (pc := 13) C dX8_keep_13 ?_
    refine m_istore_n (pc := 14) C dX8_keep_14 rfl hl (by decide) (lvK1 0 rfl (Nat.ne_of_beq_eq_false rfl) (Nat.ne_of_beq_eq_false rfl) (lvK2 1 rfl (Nat.ne_of_beq_eq_false rfl) rfl lvK0)) (fun ls hl => ?_)
    exact k_X8_keep_b15 C N N _ _ _ _ h rx1 rk_0 _ _ _ hM (lv_sub hl [1, 2, 0] rfl)
  · have h := if_f h c3
    refine m_ldc (n := -100000001) (pc := 10) C bw_5_46 rfl dX8_keep_10 ?_
    cases h
    exact m_iret (pc := 12) C hM rk_m100000001 dX8_keep_12
theorem hd_X8_keep : yX8_keep.cls ≠ "java/lang/invoke/MethodHandle" ∧ yX8_keep.cls ≠ "java/lang/invoke/VarHandle" ∧ (parseMethodDescriptor yX8_keep.desc).map (fun d => d.parameters.length) = some 1 := by decide +kernel

theorem V_X8_keep {p : Program} {l : Launch} {e : Env} {R : Room} {s : State} {m : MethodId} {args : Array Value} {below : List Frame} {meth : Method} {c : Code} {H : Heap} {locs : List Loc} {cells slots : Nat} {Q : State → Prop} {cc : ByteArray} {pc nL : Nat} {ls : Array Slot} {rest : List Value} {ret : Option FieldType} {nmm own : String} {E : gE} {μ μ1 : Mm} {index : Nat} (C : gCx p s m args meth c cc nL ret nmm own) (hM : MS E μ s H locs) {N : Nat} {x0 x1 v : Int} (hc : f_X8_keep N x0 x1 μ = some (v, μ1)) (rx1 : R32 x1) (hck : μ x0 (-2) = 10) (h1 : Cond.methodLink own index yX8_keep ∈ bigL) (hR : 2 ≤ R.frames ∧ 47 ≤ R.locals) (hl : ls.size = nL) (hcat : RC rest 8) (hf : cells + 0 ≤ R.cells ∧ slots + 0 ≤ R.slots) (hdg : decode cc pc = .ok (.invokevirtual index, 3)) (kk : (R32 v) → ∀ (H1 : Heap) (locs1 : List Loc), MS E μ1 s H1 locs1 → W p l e R s m args below meth c H1 locs1 (cells + 0) (slots + 0) Q (F0 m (pc + 3) ls (vi v :: rest))) : W p l e R s m args below meth c H locs cells slots Q (F0 m pc ls (vi x1 :: vr E x0 :: rest)) := g_callV C KF_X8 hM (c_X8_keep l E N x0 x1 μ μ1 v hc rx1) hck (gV h1 bw_5_40 bw_5_41 bw_1_13 bw_5_42) ⟨rfl, hd_X8_keep⟩ hR rfl hl rfl hcat hf hdg kk
/-! X8_restore -/
def f_X8_restore_b31 (N : Nat) : Nat → Int → Int → Int → Mm → Rs
  | 0, _, _, _, _ => none
  | n + 1, x0, x1, x2, μ =>
    if 520 ≤ x2 then
      (ck (μ x0 (-2) = 10) <|
       bd (f_X8_number N x0 2 μ) fun a3 μ4 =>
       some (a3, μ4))
    else
    ck (μ x0 (-2) = 10) <|
    ck (μ x0 (-2) = 10) <|
    nm (w32 (520 * x1)) fun a7 =>
    nm (w32 (a7 + x2)) fun a8 =>
    ck (μ (μ x0 3) (-2) = 24 ∧ (0 : Int) ≤ a8 ∧ a8 < μ (μ x0 3) (-1)) <|
    ck (μ (μ x0 0) (-2) = 24 ∧ (0 : Int) ≤ x2 ∧ x2 < μ (μ x0 0) (-1)) <|
    nm (mset μ (μ x0 0) x2 (μ (μ x0 3) a8)) fun μ11 =>
    nm (w32 (x2 + 1)) fun a12 =>
    f_X8_restore_b31 N n x0 x1 a12 μ11
def f_X8_restore (N : Nat) (x0 x1 : Int) (μ : Mm) : Rs :=
  bd (f_X8_in N x1 0 1 μ) fun a1 μ2 =>
  if ¬ a1 = 0 then
    (ck (μ2 x0 (-2) = 10) <|
     ck (μ2 (μ2 x0 4) (-2) = 25 ∧ (0 : Int) ≤ x1 ∧ x1 < μ2 (μ2 x0 4) (-1)) <|
     if ¬ (μ2 (μ2 x0 4) x1) = 0 then
       (ck (μ2 x0 (-2) = 10) <|
        bd (f_X8_record N x0 μ2) fun a8 μ9 =>
        f_X8_restore_b31 N N x0 x1 0 μ9)
     else
     some ((-100000005), μ2))
  else
  some ((-100000001), μ2)
set_option maxHeartbeats 4000000 in
set_option maxRecDepth 100000 in
theorem k_X8_restore_b31 (C : gCx p s m args meth c cX8_restore 3 (some .int) "restore" RX8) (N : Nat) {r : Int} {μ' : Mm} : ∀ (n : Nat), ∀ (x0 x1 x2 : Int) (μ : Mm), f_X8_restore_b31 N n x0 x1 x2 μ = some (r, μ') → R32 x1 → R32 x2 → ∀ (H : Heap) (locs : List Loc) (ls : Array Slot), MS E μ s H locs → lv_has ls 3 [(0, vr E x0), (1, vi x1), (2, vi x2)] → W p l e ({ frames := 1, cells := 0, slots := 0, locals := 25 } : Room) s m args below meth c H locs 0 0 (MQ below (gQ E (some (vi r)) (R32 r) μ') args s 0 0 (gA E)) (F0 m 31 ls []) := by
  intro n
  induction n with
  | zero => intro x0 x1 x2 μ h; simp [f_X8_restore_b31] at h
  | succ n ih =>
    intro x0 x1 x2 μ h rx1 rx2 H locs ls hM hl
    rw [f_X8_restore_b31] at h
    refine m_iload_n (pc := 31) C dX8_restore_31 rfl (lv_at hl 2 rfl) ?_
    refine m_sipush (pc := 32) C dX8_restore_32 rfl ?_
    refine m_icmp_ge (tgt := 62) (pc := 35) C rx2 rk_520 dX8_restore_35 (by decide) (fun c1 => ?_) (fun c1 => ?_)
    · have h := if_t h c1
      refine m_aload_n (pc := 62) C dX8_restore_62 rfl (lv_at hl 0 rfl) ?_
      refine m_iconst (pc := 63) C dX8_restore_63 ?_
      obtain ⟨q2, h⟩ := ck_some h
      obtain ⟨a3, μ4, ca3, h⟩ := bd_some h
      refine V_X8_number (pc := 64) C hM ca3 rk_2 q2 bw_5_47 ⟨Nat.le_of_ble_eq_true rfl, Nat.le_of_ble_eq_true rfl⟩ hl.1 rc0 ⟨Nat.le_refl _, Nat.le_refl _⟩ dX8_restore_64 (fun ra3 H locs hM => ?_)
      cases h
      exact m_iret (pc := 67) C hM ra3 dX8_restore_67
    · have h := if_f h c1
      refine m_aload_n (pc := 38) C dX8_restore_38 rfl (lv_at hl 0 rfl) ?_
      obtain ⟨q5, h⟩ := ck_some h
      refine G_X8_now (pc := 39) C hM bw_4_227 q5 dX8_restore_39 ?_
      refine m_iload_n (pc := 42) C dX8_restore_42 rfl (lv_at hl 2 rfl) ?_
      refine m_aload_n (pc := 43) C dX8_restore_43 rfl (lv_at hl 0 rfl) ?_
      obtain ⟨q6, h⟩ := ck_some h
      refine G_X8_slots (pc := 44) C hM bw_4_230 q6 dX8_restore_44 ?_
      refine m_sipush (pc := 47) C dX8_restore_47 rfl ?_
      refine m_iload_n (pc := 50) C dX8_restore_50 rfl (lv_at hl 1 rfl) ?_
      obtain ⟨a7, ea7, h⟩ := nm_some h
      have ra7 : R32 a7 := by rw [ea7]; exact w32_R _
      refine m_imul (pc := 51) C dX8_restore_51 ea7 ?_
      refine m_iload_n (pc := 52) C dX8_restore_52 rfl (lv_at hl 2 rfl) ?_
      obtain ⟨a8, ea8, h⟩ := nm_some h
      have ra8 : R32 a8 := by rw [ea8]; exact w32_R _
      refine m_iadd (pc := 53) C dX8_restore_53 ea8 ?_
      obtain ⟨q9, h⟩ := ck_some h
      have gq9 := Ar_lald hM q9.1 q9.2.1 q9.2.2
      refine m_lald (pc := 54) C hM q9.1 q9.2.1 q9.2.2 dX8_restore_54 ?_
      obtain ⟨q10, h⟩ := ck_some h
      obtain ⟨μ11, eμ11, h⟩ := nm_some h
      refine m_last (pc := 55) C hM q10.1 q10.2.1  q10.2.2 gq9 eμ11 dX8_restore_55 (fun H locs hM => ?_)
      obtain ⟨a12, ea12, h⟩ := nm_some h
      have ra12 : R32 a12 := by rw [ea12]; exact w32_R _
      refine m_iinc (k := 2) (pc := 56) C dX8_restore_56 hl rfl (by decide) ea12 (lvK1 0 rfl (Nat.ne_of_beq_eq_false rfl) (Nat.ne_of_beq_eq_false rfl) (lvK2 1 rfl (Nat.ne_of_beq_eq_false rfl) rfl lvK0)) (fun ls hl => ?_)
      refine m_goto (tgt := 31) (pc := 59) C dX8_restore_59 (by decide) ?_
      exact ih _ _ _ _ h rx1 ra12 _ _ _ hM (lv_sub hl [1, 2, 0] rfl)
set_option maxHeartbeats 4000000 in
set_option maxRecDepth 100000 in
theorem c_X8_restore (l : Launch) (E : gE) (N : Nat) (x0 x1 : Int) (μ μ' : Mm) (r : Int) (h : f_X8_restore N x0 x1 μ = some (r, μ')) (rx1 : R32 x1) : gMet l E yX8_restore cX8_restore 3 (some .int) 1 25 [vr E x0, vi x1] (some (vi r)) (R32 r) μ μ' 0 0 := by
  refine g_ofW [1, 1] (by first | (simp only [List.map_cons, List.map_nil, vr_cat]; done) | (simp only [List.map_cons, List.map_nil, vr_cat]; rfl)) (by decide) (by decide) (fun p e s m below meth c ls C hM hl => ?_)
  replace C : gCx p s m _ meth c cX8_restore 3 (some .int) "restore" RX8 := C
  replace hl : lv_has ls 3 [(0, vr E x0), (1, vi x1)] := hl
  unfold f_X8_restore at h
  refine m_iload_n (pc := 0) C dX8_restore_0 rfl (lv_at hl 1 rfl) ?_
  refine m_i2l (pc := 1) C rx1 dX8_restore_1 ?_
  refine m_lconst (v := 0) (pc := 2) C dX8_restore_2 rfl ?_
  refine m_lconst (v := 1) (pc := 3) C dX8_restore_3 rfl ?_
  obtain ⟨a1, μ2, ca1, h⟩ := bd_some h
  refine V_X8_in (pc := 4) C hM ca1 (R32.to64 rx1) rl_0 rl_1 bw_5_43 ⟨Nat.le_of_ble_eq_true rfl, Nat.le_of_ble_eq_true rfl⟩ hl.1 rc0 ⟨Nat.le_refl _, Nat.le_refl _⟩ dX8_restore_4 (fun ra1 H locs hM => ?_)
  refine m_if_ne (tgt := 13) (pc := 7) C ra1 dX8_restore_7 (by decide) (fun c3 => ?_) (fun c3 => ?_)
  · have h := if_t h c3
    refine m_aload_n (pc := 13) C dX8_restore_13 rfl (lv_at hl 0 rfl) ?_
    obtain ⟨q4, h⟩ := ck_some h
    refine G_X8_isFilled (pc := 14) C hM bw_4_231 q4 dX8_restore_14 ?_
    refine m_iload_n (pc := 17) C dX8_restore_17 rfl (lv_at hl 1 rfl) ?_
    obtain ⟨q5, h⟩ := ck_some h
    have gq5 := Ar_zald hM q5.1 q5.2.1 q5.2.2
    refine m_zald (pc := 18) C hM q5.1 q5.2.1 q5.2.2 dX8_restore_18 ?_
    refine m_if_ne (tgt := 25) (pc := 19) C gq5 dX8_restore_19 (by decide) (fun c6 => ?_) (fun c6 => ?_)
    · have h := if_t h c6
      refine m_aload_n (pc := 25) C dX8_restore_25 rfl (lv_at hl 0 rfl) ?_
      obtain ⟨q7, h⟩ := ck_some h
      obtain ⟨a8, μ9, ca8, h⟩ := bd_some h
      refine V_X8_record (pc := 26) C hM ca8 q7 bw_5_55 ⟨Nat.le_of_ble_eq_true rfl, Nat.le_of_ble_eq_true rfl⟩ hl.1 rc0 ⟨Nat.le_refl _, Nat.le_refl _⟩ dX8_restore_26 (fun _ H locs hM => ?_)
      refine m_iconst (pc := 29) C dX8_restore_29 ?_
      refine m_istore_n (pc := 30) C dX8_restore_30 rfl hl (by decide) (lvK1 0 rfl (Nat.ne_of_beq_eq_false rfl) (Nat.ne_of_beq_eq_false rfl) (lvK2 1 rfl (Nat.ne_of_beq_eq_false rfl) rfl lvK0)) (fun ls hl => ?_)
      exact k_X8_restore_b31 C N N _ _ _ _ h rx1 rk_0 _ _ _ hM (lv_sub hl [1, 2, 0] rfl)
    · have h := if_f h c6
      refine m_ldc (n := -100000005) (pc := 22) C bw_5_38 rfl dX8_restore_22 ?_
      cases h
      exact m_iret (pc := 24) C hM rk_m100000005 dX8_restore_24
  · have h := if_f h c3
    refine m_ldc (n := -100000001) (pc := 10) C bw_5_46 rfl dX8_restore_10 ?_
    cases h
    exact m_iret (pc := 12) C hM rk_m100000001 dX8_restore_12
theorem hd_X8_restore : yX8_restore.cls ≠ "java/lang/invoke/MethodHandle" ∧ yX8_restore.cls ≠ "java/lang/invoke/VarHandle" ∧ (parseMethodDescriptor yX8_restore.desc).map (fun d => d.parameters.length) = some 1 := by decide +kernel

theorem V_X8_restore {p : Program} {l : Launch} {e : Env} {R : Room} {s : State} {m : MethodId} {args : Array Value} {below : List Frame} {meth : Method} {c : Code} {H : Heap} {locs : List Loc} {cells slots : Nat} {Q : State → Prop} {cc : ByteArray} {pc nL : Nat} {ls : Array Slot} {rest : List Value} {ret : Option FieldType} {nmm own : String} {E : gE} {μ μ1 : Mm} {index : Nat} (C : gCx p s m args meth c cc nL ret nmm own) (hM : MS E μ s H locs) {N : Nat} {x0 x1 v : Int} (hc : f_X8_restore N x0 x1 μ = some (v, μ1)) (rx1 : R32 x1) (hck : μ x0 (-2) = 10) (h1 : Cond.methodLink own index yX8_restore ∈ bigL) (hR : 2 ≤ R.frames ∧ 47 ≤ R.locals) (hl : ls.size = nL) (hcat : RC rest 8) (hf : cells + 0 ≤ R.cells ∧ slots + 0 ≤ R.slots) (hdg : decode cc pc = .ok (.invokevirtual index, 3)) (kk : (R32 v) → ∀ (H1 : Heap) (locs1 : List Loc), MS E μ1 s H1 locs1 → W p l e R s m args below meth c H1 locs1 (cells + 0) (slots + 0) Q (F0 m (pc + 3) ls (vi v :: rest))) : W p l e R s m args below meth c H locs cells slots Q (F0 m pc ls (vi x1 :: vr E x0 :: rest)) := g_callV C KF_X8 hM (c_X8_restore l E N x0 x1 μ μ1 v hc rx1) hck (gV h1 bw_5_52 bw_5_53 bw_1_13 bw_5_54) ⟨rfl, hd_X8_restore⟩ hR rfl hl rfl hcat hf hdg kk
/-! X8_refuse -/
def f_X8_refuse (N : Nat) (x0 x1 : Int) (μ : Mm) : Rs :=
  ck (μ x0 (-2) = 10) <|
  nm (mset μ x0 5 x1) fun μ2 =>
  some ((-100000003), μ2)
set_option maxHeartbeats 4000000 in
set_option maxRecDepth 100000 in
theorem c_X8_refuse (l : Launch) (E : gE) (N : Nat) (x0 x1 : Int) (μ μ' : Mm) (r : Int) (h : f_X8_refuse N x0 x1 μ = some (r, μ')) (rx1 : R32 x1) : gMet l E yX8_refuse cX8_refuse 2 (some .int) 0 0 [vr E x0, vi x1] (some (vi r)) (R32 r) μ μ' 0 0 := by
  refine g_ofW [1, 1] (by first | (simp only [List.map_cons, List.map_nil, vr_cat]; done) | (simp only [List.map_cons, List.map_nil, vr_cat]; rfl)) (by decide) (by decide) (fun p e s m below meth c ls C hM hl => ?_)
  replace C : gCx p s m _ meth c cX8_refuse 2 (some .int) "refuse" RX8 := C
  replace hl : lv_has ls 2 [(0, vr E x0), (1, vi x1)] := hl
  unfold f_X8_refuse at h
  refine m_aload_n (pc := 0) C dX8_refuse_0 rfl (lv_at hl 0 rfl) ?_
  refine m_iload_n (pc := 1) C dX8_refuse_1 rfl (lv_at hl 1 rfl) ?_
  obtain ⟨q1, h⟩ := ck_some h
  obtain ⟨μ2, eμ2, h⟩ := nm_some h
  refine P_X8_reason (pc := 2) C hM bw_4_232 q1 rx1 eμ2 dX8_refuse_2 (fun H locs hM => ?_)
  refine m_ldc (n := -100000003) (pc := 5) C bw_5_125 rfl dX8_refuse_5 ?_
  cases h
  exact m_iret (pc := 7) C hM rk_m100000003 dX8_refuse_7
theorem hd_X8_refuse : yX8_refuse.cls ≠ "java/lang/invoke/MethodHandle" ∧ yX8_refuse.cls ≠ "java/lang/invoke/VarHandle" ∧ (parseMethodDescriptor yX8_refuse.desc).map (fun d => d.parameters.length) = some 1 := by decide +kernel

theorem V_X8_refuse {p : Program} {l : Launch} {e : Env} {R : Room} {s : State} {m : MethodId} {args : Array Value} {below : List Frame} {meth : Method} {c : Code} {H : Heap} {locs : List Loc} {cells slots : Nat} {Q : State → Prop} {cc : ByteArray} {pc nL : Nat} {ls : Array Slot} {rest : List Value} {ret : Option FieldType} {nmm own : String} {E : gE} {μ μ1 : Mm} {index : Nat} (C : gCx p s m args meth c cc nL ret nmm own) (hM : MS E μ s H locs) {N : Nat} {x0 x1 v : Int} (hc : f_X8_refuse N x0 x1 μ = some (v, μ1)) (rx1 : R32 x1) (hck : μ x0 (-2) = 10) (h1 : Cond.methodLink own index yX8_refuse ∈ bigL) (hR : 1 ≤ R.frames ∧ 21 ≤ R.locals) (hl : ls.size = nL) (hcat : RC rest 8) (hf : cells + 0 ≤ R.cells ∧ slots + 0 ≤ R.slots) (hdg : decode cc pc = .ok (.invokevirtual index, 3)) (kk : (R32 v) → ∀ (H1 : Heap) (locs1 : List Loc), MS E μ1 s H1 locs1 → W p l e R s m args below meth c H1 locs1 (cells + 0) (slots + 0) Q (F0 m (pc + 3) ls (vi v :: rest))) : W p l e R s m args below meth c H locs cells slots Q (F0 m pc ls (vi x1 :: vr E x0 :: rest)) := g_callV C KF_X8 hM (c_X8_refuse l E N x0 x1 μ μ1 v hc rx1) hck (gV h1 bw_5_123 bs_31 bw_1_13 bw_5_124) ⟨rfl, hd_X8_refuse⟩ hR rfl hl rfl hcat hf hdg kk
/-! X8_noOwner -/
def f_X8_noOwner (N : Nat) (x0 x1 : Int) (μ : Mm) : Rs :=
  ck (μ x0 (-2) = 10) <|
  ck (μ (μ x0 0) (-2) = 24 ∧ (0 : Int) ≤ 1 ∧ 1 < μ (μ x0 0) (-1)) <|
  nm (w64 ((μ (μ x0 0) 1) - 1)) fun a3 =>
  bd (f_X8_in N x1 0 a3 μ) fun a4 μ5 =>
  if ¬ a4 = 0 then
    (some (0, μ5))
  else
  some (1, μ5)
set_option maxHeartbeats 4000000 in
set_option maxRecDepth 100000 in
theorem c_X8_noOwner (l : Launch) (E : gE) (N : Nat) (x0 x1 : Int) (μ μ' : Mm) (r : Int) (h : f_X8_noOwner N x0 x1 μ = some (r, μ')) (rx1 : R32 x1) : gMet l E yX8_noOwner cX8_noOwner 2 (some .boolean) 1 25 [vr E x0, vi x1] (some (vi r)) (R32 r) μ μ' 0 0 := by
  refine g_ofW [1, 1] (by first | (simp only [List.map_cons, List.map_nil, vr_cat]; done) | (simp only [List.map_cons, List.map_nil, vr_cat]; rfl)) (by decide) (by decide) (fun p e s m below meth c ls C hM hl => ?_)
  replace C : gCx p s m _ meth c cX8_noOwner 2 (some .boolean) "noOwner" RX8 := C
  replace hl : lv_has ls 2 [(0, vr E x0), (1, vi x1)] := hl
  unfold f_X8_noOwner at h
  refine m_iload_n (pc := 0) C dX8_noOwner_0 rfl (lv_at hl 1 rfl) ?_
  refine m_i2l (pc := 1) C rx1 dX8_noOwner_1 ?_
  refine m_lconst (v := 0) (pc := 2) C dX8_noOwner_2 rfl ?_
  refine m_aload_n (pc := 3) C dX8_noOwner_3 rfl (lv_at hl 0 rfl) ?_
  obtain ⟨q1, h⟩ := ck_some h
  refine G_X8_now (pc := 4) C hM bw_4_227 q1 dX8_noOwner_4 ?_
  refine m_iconst (pc := 7) C dX8_noOwner_7 ?_
  obtain ⟨q2, h⟩ := ck_some h
  have gq2 := Ar_lald hM q2.1 q2.2.1 q2.2.2
  refine m_lald (pc := 8) C hM q2.1 q2.2.1 q2.2.2 dX8_noOwner_8 ?_
  refine m_lconst (v := 1) (pc := 9) C dX8_noOwner_9 rfl ?_
  obtain ⟨a3, ea3, h⟩ := nm_some h
  have ra3 : R64 a3 := by rw [ea3]; exact w64_R _
  refine m_lsub (pc := 10) C dX8_noOwner_10 ea3 ?_
  obtain ⟨a4, μ5, ca4, h⟩ := bd_some h
  refine V_X8_in (pc := 11) C hM ca4 (R32.to64 rx1) rl_0 ra3 bw_5_43 ⟨Nat.le_of_ble_eq_true rfl, Nat.le_of_ble_eq_true rfl⟩ hl.1 rc0 ⟨Nat.le_refl _, Nat.le_refl _⟩ dX8_noOwner_11 (fun ra4 H locs hM => ?_)
  refine m_if_ne (tgt := 21) (pc := 14) C ra4 dX8_noOwner_14 (by decide) (fun c6 => ?_) (fun c6 => ?_)
  · have h := if_t h c6
    refine m_iconst (pc := 21) C dX8_noOwner_21 ?_
    cases h
    exact m_zret (pc := 22) C rfl hM rk_0 dX8_noOwner_22
  · have h := if_f h c6
    refine m_iconst (pc := 17) C dX8_noOwner_17 ?_
    refine m_goto (tgt := 22) (pc := 18) C dX8_noOwner_18 (by decide) ?_
    cases h
    exact m_zret (pc := 22) C rfl hM rk_1 dX8_noOwner_22
theorem hd_X8_noOwner : yX8_noOwner.cls ≠ "java/lang/invoke/MethodHandle" ∧ yX8_noOwner.cls ≠ "java/lang/invoke/VarHandle" ∧ (parseMethodDescriptor yX8_noOwner.desc).map (fun d => d.parameters.length) = some 1 := by decide +kernel

theorem V_X8_noOwner {p : Program} {l : Launch} {e : Env} {R : Room} {s : State} {m : MethodId} {args : Array Value} {below : List Frame} {meth : Method} {c : Code} {H : Heap} {locs : List Loc} {cells slots : Nat} {Q : State → Prop} {cc : ByteArray} {pc nL : Nat} {ls : Array Slot} {rest : List Value} {ret : Option FieldType} {nmm own : String} {E : gE} {μ μ1 : Mm} {index : Nat} (C : gCx p s m args meth c cc nL ret nmm own) (hM : MS E μ s H locs) {N : Nat} {x0 x1 v : Int} (hc : f_X8_noOwner N x0 x1 μ = some (v, μ1)) (rx1 : R32 x1) (hck : μ x0 (-2) = 10) (h1 : Cond.methodLink own index yX8_noOwner ∈ bigL) (hR : 2 ≤ R.frames ∧ 46 ≤ R.locals) (hl : ls.size = nL) (hcat : RC rest 8) (hf : cells + 0 ≤ R.cells ∧ slots + 0 ≤ R.slots) (hdg : decode cc pc = .ok (.invokevirtual index, 3)) (kk : (R32 v) → ∀ (H1 : Heap) (locs1 : List Loc), MS E μ1 s H1 locs1 → W p l e R s m args below meth c H1 locs1 (cells + 0) (slots + 0) Q (F0 m (pc + 3) ls (vi v :: rest))) : W p l e R s m args below meth c H locs cells slots Q (F0 m pc ls (vi x1 :: vr E x0 :: rest)) := g_callV C KF_X8 hM (c_X8_noOwner l E N x0 x1 μ μ1 v hc rx1) hck (gV h1 bw_5_74 bs_22 bw_1_13 bw_5_75) ⟨rfl, hd_X8_noOwner⟩ hR rfl hl rfl hcat hf hdg kk
/-! X8_noLot -/
def f_X8_noLot (N : Nat) (x0 x1 : Int) (μ : Mm) : Rs :=
  ck (μ x0 (-2) = 10) <|
  ck (μ (μ x0 0) (-2) = 24 ∧ (0 : Int) ≤ 2 ∧ 2 < μ (μ x0 0) (-1)) <|
  nm (w64 ((μ (μ x0 0) 2) - 1)) fun a3 =>
  bd (f_X8_in N x1 0 a3 μ) fun a4 μ5 =>
  if ¬ a4 = 0 then
    (some (0, μ5))
  else
  some (1, μ5)
set_option maxHeartbeats 4000000 in
set_option maxRecDepth 100000 in
theorem c_X8_noLot (l : Launch) (E : gE) (N : Nat) (x0 x1 : Int) (μ μ' : Mm) (r : Int) (h : f_X8_noLot N x0 x1 μ = some (r, μ')) (rx1 : R32 x1) : gMet l E yX8_noLot cX8_noLot 2 (some .boolean) 1 25 [vr E x0, vi x1] (some (vi r)) (R32 r) μ μ' 0 0 := by
  refine g_ofW [1, 1] (by first | (simp only [List.map_cons, List.map_nil, vr_cat]; done) | (simp only [List.map_cons, List.map_nil, vr_cat]; rfl)) (by decide) (by decide) (fun p e s m below meth c ls C hM hl => ?_)
  replace C : gCx p s m _ meth c cX8_noLot 2 (some .boolean) "noLot" RX8 := C
  replace hl : lv_has ls 2 [(0, vr E x0), (1, vi x1)] := hl
  unfold f_X8_noLot at h
  refine m_iload_n (pc := 0) C dX8_noLot_0 rfl (lv_at hl 1 rfl) ?_
  refine m_i2l (pc := 1) C rx1 dX8_noLot_1 ?_
  refine m_lconst (v := 0) (pc := 2) C dX8_noLot_2 rfl ?_
  refine m_aload_n (pc := 3) C dX8_noLot_3 rfl (lv_at hl 0 rfl) ?_
  obtain ⟨q1, h⟩ := ck_some h
  refine G_X8_now (pc := 4) C hM bw_4_227 q1 dX8_noLot_4 ?_
  refine m_iconst (pc := 7) C dX8_noLot_7 ?_
  obtain ⟨q2, h⟩ := ck_some h
  have gq2 := Ar_lald hM q2.1 q2.2.1 q2.2.2
  refine m_lald (pc := 8) C hM q2.1 q2.2.1 q2.2.2 dX8_noLot_8 ?_
  refine m_lconst (v := 1) (pc := 9) C dX8_noLot_9 rfl ?_
  obtain ⟨a3, ea3, h⟩ := nm_some h
  have ra3 : R64 a3 := by rw [ea3]; exact w64_R _
  refine m_lsub (pc := 10) C dX8_noLot_10 ea3 ?_
  obtain ⟨a4, μ5, ca4, h⟩ := bd_some h
  refine V_X8_in (pc := 11) C hM ca4 (R32.to64 rx1) rl_0 ra3 bw_5_43 ⟨Nat.le_of_ble_eq_true rfl, Nat.le_of_ble_eq_true rfl⟩ hl.1 rc0 ⟨Nat.le_refl _, Nat.le_refl _⟩ dX8_noLot_11 (fun ra4 H locs hM => ?_)
  refine m_if_ne (tgt := 21) (pc := 14) C ra4 dX8_noLot_14 (by decide) (fun c6 => ?_) (fun c6 => ?_)
  · have h := if_t h c6
    refine m_iconst (pc := 21) C dX8_noLot_21 ?_
    cases h
    exact m_zret (pc := 22) C rfl hM rk_0 dX8_noLot_22
  · have h := if_f h c6
    refine m_iconst (pc := 17) C dX8_noLot_17 ?_
    refine m_goto (tgt := 22) (pc := 18) C dX8_noLot_18 (by decide) ?_
    cases h
    exact m_zret (pc := 22) C rfl hM rk_1 dX8_noLot_22
theorem hd_X8_noLot : yX8_noLot.cls ≠ "java/lang/invoke/MethodHandle" ∧ yX8_noLot.cls ≠ "java/lang/invoke/VarHandle" ∧ (parseMethodDescriptor yX8_noLot.desc).map (fun d => d.parameters.length) = some 1 := by decide +kernel

theorem V_X8_noLot {p : Program} {l : Launch} {e : Env} {R : Room} {s : State} {m : MethodId} {args : Array Value} {below : List Frame} {meth : Method} {c : Code} {H : Heap} {locs : List Loc} {cells slots : Nat} {Q : State → Prop} {cc : ByteArray} {pc nL : Nat} {ls : Array Slot} {rest : List Value} {ret : Option FieldType} {nmm own : String} {E : gE} {μ μ1 : Mm} {index : Nat} (C : gCx p s m args meth c cc nL ret nmm own) (hM : MS E μ s H locs) {N : Nat} {x0 x1 v : Int} (hc : f_X8_noLot N x0 x1 μ = some (v, μ1)) (rx1 : R32 x1) (hck : μ x0 (-2) = 10) (h1 : Cond.methodLink own index yX8_noLot ∈ bigL) (hR : 2 ≤ R.frames ∧ 46 ≤ R.locals) (hl : ls.size = nL) (hcat : RC rest 8) (hf : cells + 0 ≤ R.cells ∧ slots + 0 ≤ R.slots) (hdg : decode cc pc = .ok (.invokevirtual index, 3)) (kk : (R32 v) → ∀ (H1 : Heap) (locs1 : List Loc), MS E μ1 s H1 locs1 → W p l e R s m args below meth c H1 locs1 (cells + 0) (slots + 0) Q (F0 m (pc + 3) ls (vi v :: rest))) : W p l e R s m args below meth c H locs cells slots Q (F0 m pc ls (vi x1 :: vr E x0 :: rest)) := g_callV C KF_X8 hM (c_X8_noLot l E N x0 x1 μ μ1 v hc rx1) hck (gV h1 bw_5_173 bs_36 bw_1_13 bw_5_174) ⟨rfl, hd_X8_noLot⟩ hR rfl hl rfl hcat hf hdg kk
/-! X8_noExport -/
def f_X8_noExport (N : Nat) (x0 x1 : Int) (μ : Mm) : Rs :=
  ck (μ x0 (-2) = 10) <|
  ck (μ (μ x0 0) (-2) = 24 ∧ (0 : Int) ≤ 3 ∧ 3 < μ (μ x0 0) (-1)) <|
  nm (w64 ((μ (μ x0 0) 3) - 1)) fun a3 =>
  bd (f_X8_in N x1 0 a3 μ) fun a4 μ5 =>
  if ¬ a4 = 0 then
    (some (0, μ5))
  else
  some (1, μ5)
set_option maxHeartbeats 4000000 in
set_option maxRecDepth 100000 in
theorem c_X8_noExport (l : Launch) (E : gE) (N : Nat) (x0 x1 : Int) (μ μ' : Mm) (r : Int) (h : f_X8_noExport N x0 x1 μ = some (r, μ')) (rx1 : R32 x1) : gMet l E yX8_noExport cX8_noExport 2 (some .boolean) 1 25 [vr E x0, vi x1] (some (vi r)) (R32 r) μ μ' 0 0 := by
  refine g_ofW [1, 1] (by first | (simp only [List.map_cons, List.map_nil, vr_cat]; done) | (simp only [List.map_cons, List.map_nil, vr_cat]; rfl)) (by decide) (by decide) (fun p e s m below meth c ls C hM hl => ?_)
  replace C : gCx p s m _ meth c cX8_noExport 2 (some .boolean) "noExport" RX8 := C
  replace hl : lv_has ls 2 [(0, vr E x0), (1, vi x1)] := hl
  unfold f_X8_noExport at h
  refine m_iload_n (pc := 0) C dX8_noExport_0 rfl (lv_at hl 1 rfl) ?_
  refine m_i2l (pc := 1) C rx1 dX8_noExport_1 ?_
  refine m_lconst (v := 0) (pc := 2) C dX8_noExport_2 rfl ?_
  refine m_aload_n (pc := 3) C dX8_noExport_3 rfl (lv_at hl 0 rfl) ?_
  obtain ⟨q1, h⟩ := ck_some h
  refine G_X8_now (pc := 4) C hM bw_4_227 q1 dX8_noExport_4 ?_
  refine m_iconst (pc := 7) C dX8_noExport_7 ?_
  obtain ⟨q2, h⟩ := ck_some h
  have gq2 := Ar_lald hM q2.1 q2.2.1 q2.2.2
  refine m_lald (pc := 8) C hM q2.1 q2.2.1 q2.2.2 dX8_noExport_8 ?_
  refine m_lconst (v := 1) (pc := 9) C dX8_noExport_9 rfl ?_
  obtain ⟨a3, ea3, h⟩ := nm_some h
  have ra3 : R64 a3 := by rw [ea3]; exact w64_R _
  refine m_lsub (pc := 10) C dX8_noExport_10 ea3 ?_
  obtain ⟨a4, μ5, ca4, h⟩ := bd_some h
  refine V_X8_in (pc := 11) C hM ca4 (R32.to64 rx1) rl_0 ra3 bw_5_43 ⟨Nat.le_of_ble_eq_true rfl, Nat.le_of_ble_eq_true rfl⟩ hl.1 rc0 ⟨Nat.le_refl _, Nat.le_refl _⟩ dX8_noExport_11 (fun ra4 H locs hM => ?_)
  refine m_if_ne (tgt := 21) (pc := 14) C ra4 dX8_noExport_14 (by decide) (fun c6 => ?_) (fun c6 => ?_)
  · have h := if_t h c6
    refine m_iconst (pc := 21) C dX8_noExport_21 ?_
    cases h
    exact m_zret (pc := 22) C rfl hM rk_0 dX8_noExport_22
  · have h := if_f h c6
    refine m_iconst (pc := 17) C dX8_noExport_17 ?_
    refine m_goto (tgt := 22) (pc := 18) C dX8_noExport_18 (by decide) ?_
    cases h
    exact m_zret (pc := 22) C rfl hM rk_1 dX8_noExport_22
theorem hd_X8_noExport : yX8_noExport.cls ≠ "java/lang/invoke/MethodHandle" ∧ yX8_noExport.cls ≠ "java/lang/invoke/VarHandle" ∧ (parseMethodDescriptor yX8_noExport.desc).map (fun d => d.parameters.length) = some 1 := by decide +kernel

theorem V_X8_noExport {p : Program} {l : Launch} {e : Env} {R : Room} {s : State} {m : MethodId} {args : Array Value} {below : List Frame} {meth : Method} {c : Code} {H : Heap} {locs : List Loc} {cells slots : Nat} {Q : State → Prop} {cc : ByteArray} {pc nL : Nat} {ls : Array Slot} {rest : List Value} {ret : Option FieldType} {nmm own : String} {E : gE} {μ μ1 : Mm} {index : Nat} (C : gCx p s m args meth c cc nL ret nmm own) (hM : MS E μ s H locs) {N : Nat} {x0 x1 v : Int} (hc : f_X8_noExport N x0 x1 μ = some (v, μ1)) (rx1 : R32 x1) (hck : μ x0 (-2) = 10) (h1 : Cond.methodLink own index yX8_noExport ∈ bigL) (hR : 2 ≤ R.frames ∧ 46 ≤ R.locals) (hl : ls.size = nL) (hcat : RC rest 8) (hf : cells + 0 ≤ R.cells ∧ slots + 0 ≤ R.slots) (hdg : decode cc pc = .ok (.invokevirtual index, 3)) (kk : (R32 v) → ∀ (H1 : Heap) (locs1 : List Loc), MS E μ1 s H1 locs1 → W p l e R s m args below meth c H1 locs1 (cells + 0) (slots + 0) Q (F0 m (pc + 3) ls (vi v :: rest))) : W p l e R s m args below meth c H locs cells slots Q (F0 m pc ls (vi x1 :: vr E x0 :: rest)) := g_callV C KF_X8 hM (c_X8_noExport l E N x0 x1 μ μ1 v hc rx1) hck (gV h1 bw_5_233 bs_48 bw_1_13 bw_5_234) ⟨rfl, hd_X8_noExport⟩ hR rfl hl rfl hcat hf hdg kk
/-! X8_noKind -/
def f_X8_noKind (N : Nat) (x0 : Int) (μ : Mm) : Rs :=
  bd (f_X8_in N x0 0 5 μ) fun a1 μ2 =>
  if ¬ a1 = 0 then
    (some (0, μ2))
  else
  some (1, μ2)
set_option maxHeartbeats 4000000 in
set_option maxRecDepth 100000 in
theorem c_X8_noKind (l : Launch) (E : gE) (N : Nat) (x0 : Int) (μ μ' : Mm) (r : Int) (h : f_X8_noKind N x0 μ = some (r, μ')) (rx0 : R32 x0) : gMet l E yX8_noKind cX8_noKind 1 (some .boolean) 1 25 [vi x0] (some (vi r)) (R32 r) μ μ' 0 0 := by
  refine g_ofW [1] rfl (by decide) (by decide) (fun p e s m below meth c ls C hM hl => ?_)
  replace C : gCx p s m _ meth c cX8_noKind 1 (some .boolean) "noKind" RX8 := C
  replace hl : lv_has ls 1 [(0, vi x0)] := hl
  unfold f_X8_noKind at h
  refine m_iload_n (pc := 0) C dX8_noKind_0 rfl (lv_at hl 0 rfl) ?_
  refine m_i2l (pc := 1) C rx0 dX8_noKind_1 ?_
  refine m_lconst (v := 0) (pc := 2) C dX8_noKind_2 rfl ?_
  refine m_ldc2 (n := 5) (pc := 3) C bw_5_63 rfl dX8_noKind_3 ?_
  obtain ⟨a1, μ2, ca1, h⟩ := bd_some h
  refine V_X8_in (pc := 6) C hM ca1 (R32.to64 rx0) rl_0 rl_5 bw_5_43 ⟨Nat.le_of_ble_eq_true rfl, Nat.le_of_ble_eq_true rfl⟩ hl.1 rc0 ⟨Nat.le_refl _, Nat.le_refl _⟩ dX8_noKind_6 (fun ra1 H locs hM => ?_)
  refine m_if_ne (tgt := 16) (pc := 9) C ra1 dX8_noKind_9 (by decide) (fun c3 => ?_) (fun c3 => ?_)
  · have h := if_t h c3
    refine m_iconst (pc := 16) C dX8_noKind_16 ?_
    cases h
    exact m_zret (pc := 17) C rfl hM rk_0 dX8_noKind_17
  · have h := if_f h c3
    refine m_iconst (pc := 12) C dX8_noKind_12 ?_
    refine m_goto (tgt := 17) (pc := 13) C dX8_noKind_13 (by decide) ?_
    cases h
    exact m_zret (pc := 17) C rfl hM rk_1 dX8_noKind_17
theorem hd_X8_noKind : yX8_noKind.cls ≠ "java/lang/invoke/MethodHandle" ∧ yX8_noKind.cls ≠ "java/lang/invoke/VarHandle" ∧ (parseMethodDescriptor yX8_noKind.desc).map (fun d => d.parameters.length) = some 1 := by decide +kernel

theorem V_X8_noKind {p : Program} {l : Launch} {e : Env} {R : Room} {s : State} {m : MethodId} {args : Array Value} {below : List Frame} {meth : Method} {c : Code} {H : Heap} {locs : List Loc} {cells slots : Nat} {Q : State → Prop} {cc : ByteArray} {pc nL : Nat} {ls : Array Slot} {rest : List Value} {ret : Option FieldType} {nmm own : String} {E : gE} {μ μ1 : Mm} {index : Nat} (C : gCx p s m args meth c cc nL ret nmm own) (hM : MS E μ s H locs) {N : Nat} {x0 v : Int} (hc : f_X8_noKind N x0 μ = some (v, μ1)) (rx0 : R32 x0) (h1 : Cond.methodLink own index yX8_noKind ∈ bigL) (hR : 2 ≤ R.frames ∧ 45 ≤ R.locals) (hl : ls.size = nL) (hcat : RC rest 8) (hf : cells + 0 ≤ R.cells ∧ slots + 0 ≤ R.slots) (hdg : decode cc pc = .ok (.invokestatic index, 3)) (kk : (R32 v) → ∀ (H1 : Heap) (locs1 : List Loc), MS E μ1 s H1 locs1 → W p l e R s m args below meth c H1 locs1 (cells + 0) (slots + 0) Q (F0 m (pc + 3) ls (vi v :: rest))) : W p l e R s m args below meth c H locs cells slots Q (F0 m pc ls (vi x0 :: rest)) := g_callS C hM (c_X8_noKind l E N x0 μ μ1 v hc rx0) (gS h1 bw_5_131 bw_1_13 bw_5_132) hd_X8_noKind hR rfl hl rfl hcat hf hdg kk
/-! X8_ownerAt -/
def f_X8_ownerAt (N : Nat) (x0 : Int) (μ : Mm) : Rs :=
  nm (w32 (4 * x0)) fun a1 =>
  nm (w32 (20 + a1)) fun a2 =>
  some (a2, μ)
set_option maxHeartbeats 4000000 in
set_option maxRecDepth 100000 in
theorem c_X8_ownerAt (l : Launch) (E : gE) (N : Nat) (x0 : Int) (μ μ' : Mm) (r : Int) (h : f_X8_ownerAt N x0 μ = some (r, μ')) (rx0 : R32 x0) : gMet l E yX8_ownerAt cX8_ownerAt 1 (some .int) 0 0 [vi x0] (some (vi r)) (R32 r) μ μ' 0 0 := by
  refine g_ofW [1] rfl (by decide) (by decide) (fun p e s m below meth c ls C hM hl => ?_)
  replace C : gCx p s m _ meth c cX8_ownerAt 1 (some .int) "ownerAt" RX8 := C
  replace hl : lv_has ls 1 [(0, vi x0)] := hl
  unfold f_X8_ownerAt at h
  refine m_bipush (pc := 0) C dX8_ownerAt_0 rfl ?_
  refine m_iconst (pc := 2) C dX8_ownerAt_2 ?_
  refine m_iload_n (pc := 3) C dX8_ownerAt_3 rfl (lv_at hl 0 rfl) ?_
  obtain ⟨a1, ea1, h⟩ := nm_some h
  have ra1 : R32 a1 := by rw [ea1]; exact w32_R _
  refine m_imul (pc := 4) C dX8_ownerAt_4 ea1 ?_
  obtain ⟨a2, ea2, h⟩ := nm_some h
  have ra2 : R32 a2 := by rw [ea2]; exact w32_R _
  refine m_iadd (pc := 5) C dX8_ownerAt_5 ea2 ?_
  cases h
  exact m_iret (pc := 6) C hM ra2 dX8_ownerAt_6
theorem hd_X8_ownerAt : yX8_ownerAt.cls ≠ "java/lang/invoke/MethodHandle" ∧ yX8_ownerAt.cls ≠ "java/lang/invoke/VarHandle" ∧ (parseMethodDescriptor yX8_ownerAt.desc).map (fun d => d.parameters.length) = some 1 := by decide +kernel

theorem V_X8_ownerAt {p : Program} {l : Launch} {e : Env} {R : Room} {s : State} {m : MethodId} {args : Array Value} {below : List Frame} {meth : Method} {c : Code} {H : Heap} {locs : List Loc} {cells slots : Nat} {Q : State → Prop} {cc : ByteArray} {pc nL : Nat} {ls : Array Slot} {rest : List Value} {ret : Option FieldType} {nmm own : String} {E : gE} {μ μ1 : Mm} {index : Nat} (C : gCx p s m args meth c cc nL ret nmm own) (hM : MS E μ s H locs) {N : Nat} {x0 v : Int} (hc : f_X8_ownerAt N x0 μ = some (v, μ1)) (rx0 : R32 x0) (h1 : Cond.methodLink own index yX8_ownerAt ∈ bigL) (hR : 1 ≤ R.frames ∧ 20 ≤ R.locals) (hl : ls.size = nL) (hcat : RC rest 8) (hf : cells + 0 ≤ R.cells ∧ slots + 0 ≤ R.slots) (hdg : decode cc pc = .ok (.invokestatic index, 3)) (kk : (R32 v) → ∀ (H1 : Heap) (locs1 : List Loc), MS E μ1 s H1 locs1 → W p l e R s m args below meth c H1 locs1 (cells + 0) (slots + 0) Q (F0 m (pc + 3) ls (vi v :: rest))) : W p l e R s m args below meth c H locs cells slots Q (F0 m pc ls (vi x0 :: rest)) := g_callS C hM (c_X8_ownerAt l E N x0 μ μ1 v hc rx0) (gS h1 bw_5_66 bw_1_13 bw_5_67) hd_X8_ownerAt hR rfl hl rfl hcat hf hdg kk
/-! X8_lotAt -/
def f_X8_lotAt (N : Nat) (x0 : Int) (μ : Mm) : Rs :=
  nm (w32 (11 * x0)) fun a1 =>
  nm (w32 (40 + a1)) fun a2 =>
  some (a2, μ)
set_option maxHeartbeats 4000000 in
set_option maxRecDepth 100000 in
theorem c_X8_lotAt (l : Launch) (E : gE) (N : Nat) (x0 : Int) (μ μ' : Mm) (r : Int) (h : f_X8_lotAt N x0 μ = some (r, μ')) (rx0 : R32 x0) : gMet l E yX8_lotAt cX8_lotAt 1 (some .int) 0 0 [vi x0] (some (vi r)) (R32 r) μ μ' 0 0 := by
  refine g_ofW [1] rfl (by decide) (by decide) (fun p e s m below meth c ls C hM hl => ?_)
  replace C : gCx p s m _ meth c cX8_lotAt 1 (some .int) "lotAt" RX8 := C
  replace hl : lv_has ls 1 [(0, vi x0)] := hl
  unfold f_X8_lotAt at h
  refine m_bipush (pc := 0) C dX8_lotAt_0 rfl ?_
  refine m_bipush (pc := 2) C dX8_lotAt_2 rfl ?_
  refine m_iload_n (pc := 4) C dX8_lotAt_4 rfl (lv_at hl 0 rfl) ?_
  obtain ⟨a1, ea1, h⟩ := nm_some h
  have ra1 : R32 a1 := by rw [ea1]; exact w32_R _
  refine m_imul (pc := 5) C dX8_lotAt_5 ea1 ?_
  obtain ⟨a2, ea2, h⟩ := nm_some h
  have ra2 : R32 a2 := by rw [ea2]; exact w32_R _
  refine m_iadd (pc := 6) C dX8_lotAt_6 ea2 ?_
  cases h
  exact m_iret (pc := 7) C hM ra2 dX8_lotAt_7
theorem hd_X8_lotAt : yX8_lotAt.cls ≠ "java/lang/invoke/MethodHandle" ∧ yX8_lotAt.cls ≠ "java/lang/invoke/VarHandle" ∧ (parseMethodDescriptor yX8_lotAt.desc).map (fun d => d.parameters.length) = some 1 := by decide +kernel

theorem V_X8_lotAt {p : Program} {l : Launch} {e : Env} {R : Room} {s : State} {m : MethodId} {args : Array Value} {below : List Frame} {meth : Method} {c : Code} {H : Heap} {locs : List Loc} {cells slots : Nat} {Q : State → Prop} {cc : ByteArray} {pc nL : Nat} {ls : Array Slot} {rest : List Value} {ret : Option FieldType} {nmm own : String} {E : gE} {μ μ1 : Mm} {index : Nat} (C : gCx p s m args meth c cc nL ret nmm own) (hM : MS E μ s H locs) {N : Nat} {x0 v : Int} (hc : f_X8_lotAt N x0 μ = some (v, μ1)) (rx0 : R32 x0) (h1 : Cond.methodLink own index yX8_lotAt ∈ bigL) (hR : 1 ≤ R.frames ∧ 20 ≤ R.locals) (hl : ls.size = nL) (hcat : RC rest 8) (hf : cells + 0 ≤ R.cells ∧ slots + 0 ≤ R.slots) (hdg : decode cc pc = .ok (.invokestatic index, 3)) (kk : (R32 v) → ∀ (H1 : Heap) (locs1 : List Loc), MS E μ1 s H1 locs1 → W p l e R s m args below meth c H1 locs1 (cells + 0) (slots + 0) Q (F0 m (pc + 3) ls (vi v :: rest))) : W p l e R s m args below meth c H locs cells slots Q (F0 m pc ls (vi x0 :: rest)) := g_callS C hM (c_X8_lotAt l E N x0 μ μ1 v hc rx0) (gS h1 bw_5_88 bw_1_13 bw_5_89) hd_X8_lotAt hR rfl hl rfl hcat hf hdg kk
/-! X8_exportAt -/
def f_X8_exportAt (N : Nat) (x0 : Int) (μ : Mm) : Rs :=
  nm (w32 (5 * x0)) fun a1 =>
  nm (w32 (370 + a1)) fun a2 =>
  some (a2, μ)
set_option maxHeartbeats 4000000 in
set_option maxRecDepth 100000 in
theorem c_X8_exportAt (l : Launch) (E : gE) (N : Nat) (x0 : Int) (μ μ' : Mm) (r : Int) (h : f_X8_exportAt N x0 μ = some (r, μ')) (rx0 : R32 x0) : gMet l E yX8_exportAt cX8_exportAt 1 (some .int) 0 0 [vi x0] (some (vi r)) (R32 r) μ μ' 0 0 := by
  refine g_ofW [1] rfl (by decide) (by decide) (fun p e s m below meth c ls C hM hl => ?_)
  replace C : gCx p s m _ meth c cX8_exportAt 1 (some .int) "exportAt" RX8 := C
  replace hl : lv_has ls 1 [(0, vi x0)] := hl
  unfold f_X8_exportAt at h
  refine m_sipush (pc := 0) C dX8_exportAt_0 rfl ?_
  refine m_iconst (pc := 3) C dX8_exportAt_3 ?_
  refine m_iload_n (pc := 4) C dX8_exportAt_4 rfl (lv_at hl 0 rfl) ?_
  obtain ⟨a1, ea1, h⟩ := nm_some h
  have ra1 : R32 a1 := by rw [ea1]; exact w32_R _
  refine m_imul (pc := 5) C dX8_exportAt_5 ea1 ?_
  obtain ⟨a2, ea2, h⟩ := nm_some h
  have ra2 : R32 a2 := by rw [ea2]; exact w32_R _
  refine m_iadd (pc := 6) C dX8_exportAt_6 ea2 ?_
  cases h
  exact m_iret (pc := 7) C hM ra2 dX8_exportAt_7
theorem hd_X8_exportAt : yX8_exportAt.cls ≠ "java/lang/invoke/MethodHandle" ∧ yX8_exportAt.cls ≠ "java/lang/invoke/VarHandle" ∧ (parseMethodDescriptor yX8_exportAt.desc).map (fun d => d.parameters.length) = some 1 := by decide +kernel

theorem V_X8_exportAt {p : Program} {l : Launch} {e : Env} {R : Room} {s : State} {m : MethodId} {args : Array Value} {below : List Frame} {meth : Method} {c : Code} {H : Heap} {locs : List Loc} {cells slots : Nat} {Q : State → Prop} {cc : ByteArray} {pc nL : Nat} {ls : Array Slot} {rest : List Value} {ret : Option FieldType} {nmm own : String} {E : gE} {μ μ1 : Mm} {index : Nat} (C : gCx p s m args meth c cc nL ret nmm own) (hM : MS E μ s H locs) {N : Nat} {x0 v : Int} (hc : f_X8_exportAt N x0 μ = some (v, μ1)) (rx0 : R32 x0) (h1 : Cond.methodLink own index yX8_exportAt ∈ bigL) (hR : 1 ≤ R.frames ∧ 20 ≤ R.locals) (hl : ls.size = nL) (hcat : RC rest 8) (hf : cells + 0 ≤ R.cells ∧ slots + 0 ≤ R.slots) (hdg : decode cc pc = .ok (.invokestatic index, 3)) (kk : (R32 v) → ∀ (H1 : Heap) (locs1 : List Loc), MS E μ1 s H1 locs1 → W p l e R s m args below meth c H1 locs1 (cells + 0) (slots + 0) Q (F0 m (pc + 3) ls (vi v :: rest))) : W p l e R s m args below meth c H locs cells slots Q (F0 m pc ls (vi x0 :: rest)) := g_callS C hM (c_X8_exportAt l E N x0 μ μ1 v hc rx0) (gS h1 bw_5_115 bw_1_13 bw_5_116) hd_X8_exportAt hR rfl hl rfl hcat hf hdg kk
/-! X8_units -/
def f_X8_units (N : Nat) (x0 x1 : Int) (μ : Mm) : Rs :=
  ck (μ x0 (-2) = 10) <|
  bd (f_X8_lotAt N x1 μ) fun a2 μ3 =>
  nm (w32 (a2 + 2)) fun a4 =>
  ck (μ3 (μ x0 0) (-2) = 24 ∧ (0 : Int) ≤ a4 ∧ a4 < μ3 (μ x0 0) (-1)) <|
  ck (μ3 x0 (-2) = 10) <|
  bd (f_X8_lotAt N x1 μ3) fun a7 μ8 =>
  nm (w32 (a7 + 7)) fun a9 =>
  ck (μ8 (μ3 x0 0) (-2) = 24 ∧ (0 : Int) ≤ a9 ∧ a9 < μ8 (μ3 x0 0) (-1)) <|
  nm (w64 ((μ3 (μ x0 0) a4) - (μ8 (μ3 x0 0) a9))) fun a11 =>
  some (a11, μ8)
set_option maxHeartbeats 4000000 in
set_option maxRecDepth 100000 in
theorem c_X8_units (l : Launch) (E : gE) (N : Nat) (x0 x1 : Int) (μ μ' : Mm) (r : Int) (h : f_X8_units N x0 x1 μ = some (r, μ')) (rx1 : R32 x1) : gMet l E yX8_units cX8_units 2 (some .long) 1 20 [vr E x0, vi x1] (some (vl r)) (R64 r) μ μ' 0 0 := by
  refine g_ofW [1, 1] (by first | (simp only [List.map_cons, List.map_nil, vr_cat]; done) | (simp only [List.map_cons, List.map_nil, vr_cat]; rfl)) (by decide) (by decide) (fun p e s m below meth c ls C hM hl => ?_)
  replace C : gCx p s m _ meth c cX8_units 2 (some .long) "units" RX8 := C
  replace hl : lv_has ls 2 [(0, vr E x0), (1, vi x1)] := hl
  unfold f_X8_units at h
  refine m_aload_n (pc := 0) C dX8_units_0 rfl (lv_at hl 0 rfl) ?_
  obtain ⟨q1, h⟩ := ck_some h
  refine G_X8_now (pc := 1) C hM bw_4_227 q1 dX8_units_1 ?_
  refine m_iload_n (pc := 4) C dX8_units_4 rfl (lv_at hl 1 rfl) ?_
  obtain ⟨a2, μ3, ca2, h⟩ := bd_some h
  refine V_X8_lotAt (pc := 5) C hM ca2 rx1 bw_5_87 ⟨Nat.le_of_ble_eq_true rfl, Nat.le_of_ble_eq_true rfl⟩ hl.1 (rcR rc0) ⟨Nat.le_refl _, Nat.le_refl _⟩ dX8_units_5 (fun ra2 H locs hM => ?_)
  refine m_iconst (pc := 8) C dX8_units_8 ?_
  obtain ⟨a4, ea4, h⟩ := nm_some h
  have ra4 : R32 a4 := by rw [ea4]; exact w32_R _
  refine m_iadd (pc := 9) C dX8_units_9 ea4 ?_
  obtain ⟨q5, h⟩ := ck_some h
  have gq5 := Ar_lald hM q5.1 q5.2.1 q5.2.2
  refine m_lald (pc := 10) C hM q5.1 q5.2.1 q5.2.2 dX8_units_10 ?_
  refine m_aload_n (pc := 11) C dX8_units_11 rfl (lv_at hl 0 rfl) ?_
  obtain ⟨q6, h⟩ := ck_some h
  refine G_X8_now (pc := 12) C hM bw_4_227 q6 dX8_units_12 ?_
  refine m_iload_n (pc := 15) C dX8_units_15 rfl (lv_at hl 1 rfl) ?_
  obtain ⟨a7, μ8, ca7, h⟩ := bd_some h
  refine V_X8_lotAt (pc := 16) C hM ca7 rx1 bw_5_87 ⟨Nat.le_of_ble_eq_true rfl, Nat.le_of_ble_eq_true rfl⟩ hl.1 (rcR (rcL rc0)) ⟨Nat.le_refl _, Nat.le_refl _⟩ dX8_units_16 (fun ra7 H locs hM => ?_)
  refine m_bipush (pc := 19) C dX8_units_19 rfl ?_
  obtain ⟨a9, ea9, h⟩ := nm_some h
  have ra9 : R32 a9 := by rw [ea9]; exact w32_R _
  refine m_iadd (pc := 21) C dX8_units_21 ea9 ?_
  obtain ⟨q10, h⟩ := ck_some h
  have gq10 := Ar_lald hM q10.1 q10.2.1 q10.2.2
  refine m_lald (pc := 22) C hM q10.1 q10.2.1 q10.2.2 dX8_units_22 ?_
  obtain ⟨a11, ea11, h⟩ := nm_some h
  have ra11 : R64 a11 := by rw [ea11]; exact w64_R _
  refine m_lsub (pc := 23) C dX8_units_23 ea11 ?_
  cases h
  exact m_lret (pc := 24) C hM ra11 dX8_units_24
theorem hd_X8_units : yX8_units.cls ≠ "java/lang/invoke/MethodHandle" ∧ yX8_units.cls ≠ "java/lang/invoke/VarHandle" ∧ (parseMethodDescriptor yX8_units.desc).map (fun d => d.parameters.length) = some 1 := by decide +kernel

theorem V_X8_units {p : Program} {l : Launch} {e : Env} {R : Room} {s : State} {m : MethodId} {args : Array Value} {below : List Frame} {meth : Method} {c : Code} {H : Heap} {locs : List Loc} {cells slots : Nat} {Q : State → Prop} {cc : ByteArray} {pc nL : Nat} {ls : Array Slot} {rest : List Value} {ret : Option FieldType} {nmm own : String} {E : gE} {μ μ1 : Mm} {index : Nat} (C : gCx p s m args meth c cc nL ret nmm own) (hM : MS E μ s H locs) {N : Nat} {x0 x1 v : Int} (hc : f_X8_units N x0 x1 μ = some (v, μ1)) (rx1 : R32 x1) (hck : μ x0 (-2) = 10) (h1 : Cond.methodLink own index yX8_units ∈ bigL) (hR : 2 ≤ R.frames ∧ 41 ≤ R.locals) (hl : ls.size = nL) (hcat : RC rest 8) (hf : cells + 0 ≤ R.cells ∧ slots + 0 ≤ R.slots) (hdg : decode cc pc = .ok (.invokevirtual index, 3)) (kk : (R64 v) → ∀ (H1 : Heap) (locs1 : List Loc), MS E μ1 s H1 locs1 → W p l e R s m args below meth c H1 locs1 (cells + 0) (slots + 0) Q (F0 m (pc + 3) ls (vl v :: rest))) : W p l e R s m args below meth c H locs cells slots Q (F0 m pc ls (vi x1 :: vr E x0 :: rest)) := g_callV C KF_X8 hM (c_X8_units l E N x0 x1 μ μ1 v hc rx1) hck (gV h1 bw_5_96 bs_25 bw_1_13 bw_5_97) ⟨rfl, hd_X8_units⟩ hR rfl hl rfl hcat hf hdg kk
end G10
