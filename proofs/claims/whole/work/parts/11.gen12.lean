section G12
variable {p : Program} {l : Launch} {e : Env} {R : Room} {s : State} {m : MethodId} {args : Array Value} {below : List Frame} {meth : Method} {c : Code} {E : gE}
/-! X8_setTerms -/
def f_X8_setTerms (N : Nat) (x0 x1 x2 : Int) (μ : Mm) : Rs :=
  bd (f_X8_in N x1 1 1000 μ) fun a1 μ2 =>
  if a1 = 0 then
    (some ((-100000002), μ2))
  else
  bd (f_X8_in N x2 1 200 μ2) fun a4 μ5 =>
  if ¬ a4 = 0 then
    (ck (μ5 x0 (-2) = 10) <|
     bd (f_X8_record N x0 μ5) fun a8 μ9 =>
     ck (μ9 x0 (-2) = 10) <|
     bd (f_X8_number N x0 5 μ9) fun a11 μ12 =>
     ck (μ12 x0 (-2) = 10) <|
     ck (μ12 (μ12 x0 0) (-2) = 24 ∧ (0 : Int) ≤ 5 ∧ 5 < μ12 (μ12 x0 0) (-1)) <|
     nm (mset μ12 (μ12 x0 0) 5 x1) fun μ15 =>
     ck (μ15 x0 (-2) = 10) <|
     ck (μ15 (μ15 x0 0) (-2) = 24 ∧ (0 : Int) ≤ 6 ∧ 6 < μ15 (μ15 x0 0) (-1)) <|
     nm (mset μ15 (μ15 x0 0) 6 x2) fun μ18 =>
     some (a11, μ18))
  else
  some ((-100000002), μ5)
set_option maxHeartbeats 4000000 in
set_option maxRecDepth 100000 in
theorem c_X8_setTerms (l : Launch) (E : gE) (N : Nat) (x0 x1 x2 : Int) (μ μ' : Mm) (r : Int) (h : f_X8_setTerms N x0 x1 x2 μ = some (r, μ')) (rx1 : R32 x1) (rx2 : R32 x2) : gMet l E yX8_setTerms cX8_setTerms 4 (some .int) 1 25 [vr E x0, vi x1, vi x2] (some (vi r)) (R32 r) μ μ' 0 0 := by
  refine g_ofW [1, 1, 1] (by first | (simp only [List.map_cons, List.map_nil, vr_cat]; done) | (simp only [List.map_cons, List.map_nil, vr_cat]; rfl)) (by decide) (by decide) (fun p e s m below meth c ls C hM hl => ?_)
  replace C : gCx p s m _ meth c cX8_setTerms 4 (some .int) "setTerms" RX8 := C
  replace hl : lv_has ls 4 [(0, vr E x0), (1, vi x1), (2, vi x2)] := hl
  unfold f_X8_setTerms at h
  refine m_iload_n (pc := 0) C dX8_setTerms_0 rfl (lv_at hl 1 rfl) ?_
  refine m_i2l (pc := 1) C rx1 dX8_setTerms_1 ?_
  refine m_lconst (v := 1) (pc := 2) C dX8_setTerms_2 rfl ?_
  refine m_ldc2 (n := 1000) (pc := 3) C bw_5_133 rfl dX8_setTerms_3 ?_
  obtain ⟨a1, μ2, ca1, h⟩ := bd_some h
  refine V_X8_in (pc := 6) C hM ca1 (R32.to64 rx1) rl_1 rl_1000 bw_5_43 ⟨Nat.le_of_ble_eq_true rfl, Nat.le_of_ble_eq_true rfl⟩ hl.1 rc0 ⟨Nat.le_refl _, Nat.le_refl _⟩ dX8_setTerms_6 (fun ra1 H locs hM => ?_)
  refine m_if_eq (tgt := 24) (pc := 9) C ra1 dX8_setTerms_9 (by decide) (fun c3 => ?_) (fun c3 => ?_)
  · have h := if_t h c3
    refine m_ldc (n := -100000002) (pc := 24) C bw_5_77 rfl dX8_setTerms_24 ?_
    cases h
    exact m_iret (pc := 26) C hM rk_m100000002 dX8_setTerms_26
  · have h := if_f h c3
    refine m_iload_n (pc := 12) C dX8_setTerms_12 rfl (lv_at hl 2 rfl) ?_
    refine m_i2l (pc := 13) C rx2 dX8_setTerms_13 ?_
    refine m_lconst (v := 1) (pc := 14) C dX8_setTerms_14 rfl ?_
    refine m_ldc2 (n := 200) (pc := 15) C bw_5_138 rfl dX8_setTerms_15 ?_
    obtain ⟨a4, μ5, ca4, h⟩ := bd_some h
    refine V_X8_in (pc := 18) C hM ca4 (R32.to64 rx2) rl_1 rl_200 bw_5_43 ⟨Nat.le_of_ble_eq_true rfl, Nat.le_of_ble_eq_true rfl⟩ hl.1 rc0 ⟨Nat.le_refl _, Nat.le_refl _⟩ dX8_setTerms_18 (fun ra4 H locs hM => ?_)
    refine m_if_ne (tgt := 27) (pc := 21) C ra4 dX8_setTerms_21 (by decide) (fun c6 => ?_) (fun c6 => ?_)
    · have h := if_t h c6
      refine m_aload_n (pc := 27) C dX8_setTerms_27 rfl (lv_at hl 0 rfl) ?_
      obtain ⟨q7, h⟩ := ck_some h
      obtain ⟨a8, μ9, ca8, h⟩ := bd_some h
      refine V_X8_record (pc := 28) C hM ca8 q7 bw_5_55 ⟨Nat.le_of_ble_eq_true rfl, Nat.le_of_ble_eq_true rfl⟩ hl.1 rc0 ⟨Nat.le_refl _, Nat.le_refl _⟩ dX8_setTerms_28 (fun _ H locs hM => ?_)
      refine m_aload_n (pc := 31) C dX8_setTerms_31 rfl (lv_at hl 0 rfl) ?_
      refine m_iconst (pc := 32) C dX8_setTerms_32 ?_
      obtain ⟨q10, h⟩ := ck_some h
      obtain ⟨a11, μ12, ca11, h⟩ := bd_some h
      refine V_X8_number (pc := 33) C hM ca11 rk_5 q10 bw_5_47 ⟨Nat.le_of_ble_eq_true rfl, Nat.le_of_ble_eq_true rfl⟩ hl.1 rc0 ⟨Nat.le_refl _, Nat.le_refl _⟩ dX8_setTerms_33 (fun ra11 H locs hM => ?_)
      refine m_istore_n (pc := 36) C dX8_setTerms_36 rfl hl (by decide) (lvK1 0 rfl (Nat.ne_of_beq_eq_false rfl) (Nat.ne_of_beq_eq_false rfl) (lvK1 1 rfl (Nat.ne_of_beq_eq_false rfl) (Nat.ne_of_beq_eq_false rfl) (lvK2 2 rfl (Nat.ne_of_beq_eq_false rfl) rfl lvK0))) (fun ls hl => ?_)
      refine m_aload_n (pc := 37) C dX8_setTerms_37 rfl (lv_at hl 1 rfl) ?_
      obtain ⟨q13, h⟩ := ck_some h
      refine G_X8_now (pc := 38) C hM bw_4_227 q13 dX8_setTerms_38 ?_
      refine m_iconst (pc := 41) C dX8_setTerms_41 ?_
      refine m_iload_n (pc := 42) C dX8_setTerms_42 rfl (lv_at hl 2 rfl) ?_
      refine m_i2l (pc := 43) C rx1 dX8_setTerms_43 ?_
      obtain ⟨q14, h⟩ := ck_some h
      obtain ⟨μ15, eμ15, h⟩ := nm_some h
      refine m_last (pc := 44) C hM q14.1 q14.2.1  q14.2.2 (R32.to64 rx1) eμ15 dX8_setTerms_44 (fun H locs hM => ?_)
      refine m_aload_n (pc := 45) C dX8_setTerms_45 rfl (lv_at hl 1 rfl) ?_
      obtain ⟨q16, h⟩ := ck_some h
      refine G_X8_now (pc := 46) C hM bw_4_227 q16 dX8_setTerms_46 ?_
      refine m_bipush (pc := 49) C dX8_setTerms_49 rfl ?_
      refine m_iload_n (pc := 51) C dX8_setTerms_51 rfl (lv_at hl 3 rfl) ?_
      refine m_i2l (pc := 52) C rx2 dX8_setTerms_52 ?_
      obtain ⟨q17, h⟩ := ck_some h
      obtain ⟨μ18, eμ18, h⟩ := nm_some h
      refine m_last (pc := 53) C hM q17.1 q17.2.1  q17.2.2 (R32.to64 rx2) eμ18 dX8_setTerms_53 (fun H locs hM => ?_)
      refine m_iload_n (pc := 54) C dX8_setTerms_54 rfl (lv_at hl 0 rfl) ?_
      cases h
      exact m_iret (pc := 55) C hM ra11 dX8_setTerms_55
    · have h := if_f h c6
      refine m_ldc (n := -100000002) (pc := 24) C bw_5_77 rfl dX8_setTerms_24 ?_
      cases h
      exact m_iret (pc := 26) C hM rk_m100000002 dX8_setTerms_26
theorem hd_X8_setTerms : yX8_setTerms.cls ≠ "java/lang/invoke/MethodHandle" ∧ yX8_setTerms.cls ≠ "java/lang/invoke/VarHandle" ∧ (parseMethodDescriptor yX8_setTerms.desc).map (fun d => d.parameters.length) = some 2 := by decide +kernel

theorem V_X8_setTerms {p : Program} {l : Launch} {e : Env} {R : Room} {s : State} {m : MethodId} {args : Array Value} {below : List Frame} {meth : Method} {c : Code} {H : Heap} {locs : List Loc} {cells slots : Nat} {Q : State → Prop} {cc : ByteArray} {pc nL : Nat} {ls : Array Slot} {rest : List Value} {ret : Option FieldType} {nmm own : String} {E : gE} {μ μ1 : Mm} {index : Nat} (C : gCx p s m args meth c cc nL ret nmm own) (hM : MS E μ s H locs) {N : Nat} {x0 x1 x2 v : Int} (hc : f_X8_setTerms N x0 x1 x2 μ = some (v, μ1)) (rx1 : R32 x1) (rx2 : R32 x2) (hck : μ x0 (-2) = 10) (h1 : Cond.methodLink own index yX8_setTerms ∈ bigL) (hR : 2 ≤ R.frames ∧ 48 ≤ R.locals) (hl : ls.size = nL) (hcat : RC rest 8) (hf : cells + 0 ≤ R.cells ∧ slots + 0 ≤ R.slots) (hdg : decode cc pc = .ok (.invokevirtual index, 3)) (kk : (R32 v) → ∀ (H1 : Heap) (locs1 : List Loc), MS E μ1 s H1 locs1 → W p l e R s m args below meth c H1 locs1 (cells + 0) (slots + 0) Q (F0 m (pc + 3) ls (vi v :: rest))) : W p l e R s m args below meth c H locs cells slots Q (F0 m pc ls (vi x2 :: vi x1 :: vr E x0 :: rest)) := g_callV C KF_X8 hM (c_X8_setTerms l E N x0 x1 x2 μ μ1 v hc rx1 rx2) hck (gV h1 bw_5_135 bw_5_136 bw_1_13 bw_5_137) ⟨rfl, hd_X8_setTerms⟩ hR rfl hl rfl hcat hf hdg kk
/-! X8_setRules -/
def f_X8_setRules (N : Nat) (x0 x1 x2 x3 : Int) (μ : Mm) : Rs :=
  bd (f_X8_in N x1 0 100 μ) fun a1 μ2 =>
  if a1 = 0 then
    (some ((-100000002), μ2))
  else
  bd (f_X8_in N x2 0 1000 μ2) fun a4 μ5 =>
  if a4 = 0 then
    (some ((-100000002), μ5))
  else
  bd (f_X8_in N x3 0 1000 μ5) fun a7 μ8 =>
  if ¬ a7 = 0 then
    (ck (μ8 x0 (-2) = 10) <|
     bd (f_X8_record N x0 μ8) fun a11 μ12 =>
     ck (μ12 x0 (-2) = 10) <|
     bd (f_X8_number N x0 7 μ12) fun a14 μ15 =>
     ck (μ15 x0 (-2) = 10) <|
     ck (μ15 (μ15 x0 0) (-2) = 24 ∧ (0 : Int) ≤ 7 ∧ 7 < μ15 (μ15 x0 0) (-1)) <|
     nm (mset μ15 (μ15 x0 0) 7 x1) fun μ18 =>
     ck (μ18 x0 (-2) = 10) <|
     ck (μ18 (μ18 x0 0) (-2) = 24 ∧ (0 : Int) ≤ 8 ∧ 8 < μ18 (μ18 x0 0) (-1)) <|
     nm (mset μ18 (μ18 x0 0) 8 x2) fun μ21 =>
     ck (μ21 x0 (-2) = 10) <|
     ck (μ21 (μ21 x0 0) (-2) = 24 ∧ (0 : Int) ≤ 9 ∧ 9 < μ21 (μ21 x0 0) (-1)) <|
     nm (mset μ21 (μ21 x0 0) 9 x3) fun μ24 =>
     some (a14, μ24))
  else
  some ((-100000002), μ8)
set_option maxHeartbeats 4000000 in
set_option maxRecDepth 100000 in
theorem c_X8_setRules (l : Launch) (E : gE) (N : Nat) (x0 x1 x2 x3 : Int) (μ μ' : Mm) (r : Int) (h : f_X8_setRules N x0 x1 x2 x3 μ = some (r, μ')) (rx1 : R32 x1) (rx2 : R32 x2) (rx3 : R32 x3) : gMet l E yX8_setRules cX8_setRules 5 (some .int) 1 25 [vr E x0, vi x1, vi x2, vi x3] (some (vi r)) (R32 r) μ μ' 0 0 := by
  refine g_ofW [1, 1, 1, 1] (by first | (simp only [List.map_cons, List.map_nil, vr_cat]; done) | (simp only [List.map_cons, List.map_nil, vr_cat]; rfl)) (by decide) (by decide) (fun p e s m below meth c ls C hM hl => ?_)
  replace C : gCx p s m _ meth c cX8_setRules 5 (some .int) "setRules" RX8 := C
  replace hl : lv_has ls 5 [(0, vr E x0), (1, vi x1), (2, vi x2), (3, vi x3)] := hl
  unfold f_X8_setRules at h
  refine m_iload_n (pc := 0) C dX8_setRules_0 rfl (lv_at hl 1 rfl) ?_
  refine m_i2l (pc := 1) C rx1 dX8_setRules_1 ?_
  refine m_lconst (v := 0) (pc := 2) C dX8_setRules_2 rfl ?_
  refine m_ldc2 (n := 100) (pc := 3) C bw_4_223 rfl dX8_setRules_3 ?_
  obtain ⟨a1, μ2, ca1, h⟩ := bd_some h
  refine V_X8_in (pc := 6) C hM ca1 (R32.to64 rx1) rl_0 rl_100 bw_5_43 ⟨Nat.le_of_ble_eq_true rfl, Nat.le_of_ble_eq_true rfl⟩ hl.1 rc0 ⟨Nat.le_refl _, Nat.le_refl _⟩ dX8_setRules_6 (fun ra1 H locs hM => ?_)
  refine m_if_eq (tgt := 36) (pc := 9) C ra1 dX8_setRules_9 (by decide) (fun c3 => ?_) (fun c3 => ?_)
  · have h := if_t h c3
    refine m_ldc (n := -100000002) (pc := 36) C bw_5_77 rfl dX8_setRules_36 ?_
    cases h
    exact m_iret (pc := 38) C hM rk_m100000002 dX8_setRules_38
  · have h := if_f h c3
    refine m_iload_n (pc := 12) C dX8_setRules_12 rfl (lv_at hl 2 rfl) ?_
    refine m_i2l (pc := 13) C rx2 dX8_setRules_13 ?_
    refine m_lconst (v := 0) (pc := 14) C dX8_setRules_14 rfl ?_
    refine m_ldc2 (n := 1000) (pc := 15) C bw_5_133 rfl dX8_setRules_15 ?_
    obtain ⟨a4, μ5, ca4, h⟩ := bd_some h
    refine V_X8_in (pc := 18) C hM ca4 (R32.to64 rx2) rl_0 rl_1000 bw_5_43 ⟨Nat.le_of_ble_eq_true rfl, Nat.le_of_ble_eq_true rfl⟩ hl.1 rc0 ⟨Nat.le_refl _, Nat.le_refl _⟩ dX8_setRules_18 (fun ra4 H locs hM => ?_)
    refine m_if_eq (tgt := 36) (pc := 21) C ra4 dX8_setRules_21 (by decide) (fun c6 => ?_) (fun c6 => ?_)
    · have h := if_t h c6
      refine m_ldc (n := -100000002) (pc := 36) C bw_5_77 rfl dX8_setRules_36 ?_
      cases h
      exact m_iret (pc := 38) C hM rk_m100000002 dX8_setRules_38
    · have h := if_f h c6
      refine m_iload_n (pc := 24) C dX8_setRules_24 rfl (lv_at hl 3 rfl) ?_
      refine m_i2l (pc := 25) C rx3 dX8_setRules_25 ?_
      refine m_lconst (v := 0) (pc := 26) C dX8_setRules_26 rfl ?_
      refine m_ldc2 (n := 1000) (pc := 27) C bw_5_133 rfl dX8_setRules_27 ?_
      obtain ⟨a7, μ8, ca7, h⟩ := bd_some h
      refine V_X8_in (pc := 30) C hM ca7 (R32.to64 rx3) rl_0 rl_1000 bw_5_43 ⟨Nat.le_of_ble_eq_true rfl, Nat.le_of_ble_eq_true rfl⟩ hl.1 rc0 ⟨Nat.le_refl _, Nat.le_refl _⟩ dX8_setRules_30 (fun ra7 H locs hM => ?_)
      refine m_if_ne (tgt := 39) (pc := 33) C ra7 dX8_setRules_33 (by decide) (fun c9 => ?_) (fun c9 => ?_)
      · have h := if_t h c9
        refine m_aload_n (pc := 39) C dX8_setRules_39 rfl (lv_at hl 0 rfl) ?_
        obtain ⟨q10, h⟩ := ck_some h
        obtain ⟨a11, μ12, ca11, h⟩ := bd_some h
        refine V_X8_record (pc := 40) C hM ca11 q10 bw_5_55 ⟨Nat.le_of_ble_eq_true rfl, Nat.le_of_ble_eq_true rfl⟩ hl.1 rc0 ⟨Nat.le_refl _, Nat.le_refl _⟩ dX8_setRules_40 (fun _ H locs hM => ?_)
        refine m_aload_n (pc := 43) C dX8_setRules_43 rfl (lv_at hl 0 rfl) ?_
        refine m_bipush (pc := 44) C dX8_setRules_44 rfl ?_
        obtain ⟨q13, h⟩ := ck_some h
        obtain ⟨a14, μ15, ca14, h⟩ := bd_some h
        refine V_X8_number (pc := 46) C hM ca14 rk_7 q13 bw_5_47 ⟨Nat.le_of_ble_eq_true rfl, Nat.le_of_ble_eq_true rfl⟩ hl.1 rc0 ⟨Nat.le_refl _, Nat.le_refl _⟩ dX8_setRules_46 (fun ra14 H locs hM => ?_)
        refine m_istore (pc := 49) C dX8_setRules_49 hl (by decide) (lvK1 0 rfl (Nat.ne_of_beq_eq_false rfl) (Nat.ne_of_beq_eq_false rfl) (lvK1 1 rfl (Nat.ne_of_beq_eq_false rfl) (Nat.ne_of_beq_eq_false rfl) (lvK1 2 rfl (Nat.ne_of_beq_eq_false rfl) (Nat.ne_of_beq_eq_false rfl) (lvK2 3 rfl (Nat.ne_of_beq_eq_false rfl) rfl lvK0)))) (fun ls hl => ?_)
        refine m_aload_n (pc := 51) C dX8_setRules_51 rfl (lv_at hl 1 rfl) ?_
        obtain ⟨q16, h⟩ := ck_some h
        refine G_X8_now (pc := 52) C hM bw_4_227 q16 dX8_setRules_52 ?_
        refine m_bipush (pc := 55) C dX8_setRules_55 rfl ?_
        refine m_iload_n (pc := 57) C dX8_setRules_57 rfl (lv_at hl 2 rfl) ?_
        refine m_i2l (pc := 58) C rx1 dX8_setRules_58 ?_
        obtain ⟨q17, h⟩ := ck_some h
        obtain ⟨μ18, eμ18, h⟩ := nm_some h
        refine m_last (pc := 59) C hM q17.1 q17.2.1  q17.2.2 (R32.to64 rx1) eμ18 dX8_setRules_59 (fun H locs hM => ?_)
        refine m_aload_n (pc := 60) C dX8_setRules_60 rfl (lv_at hl 1 rfl) ?_
        obtain ⟨q19, h⟩ := ck_some h
        refine G_X8_now (pc := 61) C hM bw_4_227 q19 dX8_setRules_61 ?_
        refine m_bipush (pc := 64) C dX8_setRules_64 rfl ?_
        refine m_iload_n (pc := 66) C dX8_setRules_66 rfl (lv_at hl 3 rfl) ?_
        refine m_i2l (pc := 67) C rx2 dX8_setRules_67 ?_
        obtain ⟨q20, h⟩ := ck_some h
        obtain ⟨μ21, eμ21, h⟩ := nm_some h
        refine m_last (pc := 68) C hM q20.1 q20.2.1  q20.2.2 (R32.to64 rx2) eμ21 dX8_setRules_68 (fun H locs hM => ?_)
        refine m_aload_n (pc := 69) C dX8_setRules_69 rfl (lv_at hl 1 rfl) ?_
        obtain ⟨q22, h⟩ := ck_some h
        refine G_X8_now (pc := 70) C hM bw_4_227 q22 dX8_setRules_70 ?_
        refine m_bipush (pc := 73) C dX8_setRules_73 rfl ?_
        refine m_iload_n (pc := 75) C dX8_setRules_75 rfl (lv_at hl 4 rfl) ?_
        refine m_i2l (pc := 76) C rx3 dX8_setRules_76 ?_
        obtain ⟨q23, h⟩ := ck_some h
        obtain ⟨μ24, eμ24, h⟩ := nm_some h
        refine m_last (pc := 77) C hM q23.1 q23.2.1  q23.2.2 (R32.to64 rx3) eμ24 dX8_setRules_77 (fun H locs hM => ?_)
        refine m_iload (pc := 78) C dX8_setRules_78 (lv_at hl 0 rfl) ?_
        cases h
        exact m_iret (pc := 80) C hM ra14 dX8_setRules_80
      · have h := if_f h c9
        refine m_ldc (n := -100000002) (pc := 36) C bw_5_77 rfl dX8_setRules_36 ?_
        cases h
        exact m_iret (pc := 38) C hM rk_m100000002 dX8_setRules_38
theorem hd_X8_setRules : yX8_setRules.cls ≠ "java/lang/invoke/MethodHandle" ∧ yX8_setRules.cls ≠ "java/lang/invoke/VarHandle" ∧ (parseMethodDescriptor yX8_setRules.desc).map (fun d => d.parameters.length) = some 3 := by decide +kernel

theorem V_X8_setRules {p : Program} {l : Launch} {e : Env} {R : Room} {s : State} {m : MethodId} {args : Array Value} {below : List Frame} {meth : Method} {c : Code} {H : Heap} {locs : List Loc} {cells slots : Nat} {Q : State → Prop} {cc : ByteArray} {pc nL : Nat} {ls : Array Slot} {rest : List Value} {ret : Option FieldType} {nmm own : String} {E : gE} {μ μ1 : Mm} {index : Nat} (C : gCx p s m args meth c cc nL ret nmm own) (hM : MS E μ s H locs) {N : Nat} {x0 x1 x2 x3 v : Int} (hc : f_X8_setRules N x0 x1 x2 x3 μ = some (v, μ1)) (rx1 : R32 x1) (rx2 : R32 x2) (rx3 : R32 x3) (hck : μ x0 (-2) = 10) (h1 : Cond.methodLink own index yX8_setRules ∈ bigL) (hR : 2 ≤ R.frames ∧ 49 ≤ R.locals) (hl : ls.size = nL) (hcat : RC rest 8) (hf : cells + 0 ≤ R.cells ∧ slots + 0 ≤ R.slots) (hdg : decode cc pc = .ok (.invokevirtual index, 3)) (kk : (R32 v) → ∀ (H1 : Heap) (locs1 : List Loc), MS E μ1 s H1 locs1 → W p l e R s m args below meth c H1 locs1 (cells + 0) (slots + 0) Q (F0 m (pc + 3) ls (vi v :: rest))) : W p l e R s m args below meth c H locs cells slots Q (F0 m pc ls (vi x3 :: vi x2 :: vi x1 :: vr E x0 :: rest)) := g_callV C KF_X8 hM (c_X8_setRules l E N x0 x1 x2 x3 μ μ1 v hc rx1 rx2 rx3) hck (gV h1 bw_5_140 bw_5_141 bw_1_13 bw_5_142) ⟨rfl, hd_X8_setRules⟩ hR rfl hl rfl hcat hf hdg kk
/-! X8_areUnits -/
def f_X8_areUnits (N : Nat) (x0 : Int) (μ : Mm) : Rs :=
  bd (f_X8_in N x0 1 1000000 μ) fun a1 μ2 =>
  ck ((0 : Int) ≤ a1 ∧ a1 ≤ (1 : Int)) <|
  some (a1, μ2)
set_option maxHeartbeats 4000000 in
set_option maxRecDepth 100000 in
theorem c_X8_areUnits (l : Launch) (E : gE) (N : Nat) (x0 : Int) (μ μ' : Mm) (r : Int) (h : f_X8_areUnits N x0 μ = some (r, μ')) (rx0 : R32 x0) : gMet l E yX8_areUnits cX8_areUnits 1 (some .boolean) 1 25 [vi x0] (some (vi r)) (R32 r) μ μ' 0 0 := by
  refine g_ofW [1] rfl (by decide) (by decide) (fun p e s m below meth c ls C hM hl => ?_)
  replace C : gCx p s m _ meth c cX8_areUnits 1 (some .boolean) "areUnits" RX8 := C
  replace hl : lv_has ls 1 [(0, vi x0)] := hl
  unfold f_X8_areUnits at h
  refine m_iload_n (pc := 0) C dX8_areUnits_0 rfl (lv_at hl 0 rfl) ?_
  refine m_i2l (pc := 1) C rx0 dX8_areUnits_1 ?_
  refine m_lconst (v := 1) (pc := 2) C dX8_areUnits_2 rfl ?_
  refine m_ldc2 (n := 1000000) (pc := 3) C bw_5_154 rfl dX8_areUnits_3 ?_
  obtain ⟨a1, μ2, ca1, h⟩ := bd_some h
  refine V_X8_in (pc := 6) C hM ca1 (R32.to64 rx0) rl_1 rl_1000000 bw_5_43 ⟨Nat.le_of_ble_eq_true rfl, Nat.le_of_ble_eq_true rfl⟩ hl.1 rc0 ⟨Nat.le_refl _, Nat.le_refl _⟩ dX8_areUnits_6 (fun ra1 H locs hM => ?_)
  obtain ⟨q3, h⟩ := ck_some h
  cases h
  exact m_zret (pc := 9) C (nar_z q3.1 q3.2) hM ra1 dX8_areUnits_9
theorem hd_X8_areUnits : yX8_areUnits.cls ≠ "java/lang/invoke/MethodHandle" ∧ yX8_areUnits.cls ≠ "java/lang/invoke/VarHandle" ∧ (parseMethodDescriptor yX8_areUnits.desc).map (fun d => d.parameters.length) = some 1 := by decide +kernel

theorem V_X8_areUnits {p : Program} {l : Launch} {e : Env} {R : Room} {s : State} {m : MethodId} {args : Array Value} {below : List Frame} {meth : Method} {c : Code} {H : Heap} {locs : List Loc} {cells slots : Nat} {Q : State → Prop} {cc : ByteArray} {pc nL : Nat} {ls : Array Slot} {rest : List Value} {ret : Option FieldType} {nmm own : String} {E : gE} {μ μ1 : Mm} {index : Nat} (C : gCx p s m args meth c cc nL ret nmm own) (hM : MS E μ s H locs) {N : Nat} {x0 v : Int} (hc : f_X8_areUnits N x0 μ = some (v, μ1)) (rx0 : R32 x0) (h1 : Cond.methodLink own index yX8_areUnits ∈ bigL) (hR : 2 ≤ R.frames ∧ 45 ≤ R.locals) (hl : ls.size = nL) (hcat : RC rest 8) (hf : cells + 0 ≤ R.cells ∧ slots + 0 ≤ R.slots) (hdg : decode cc pc = .ok (.invokestatic index, 3)) (kk : (R32 v) → ∀ (H1 : Heap) (locs1 : List Loc), MS E μ1 s H1 locs1 → W p l e R s m args below meth c H1 locs1 (cells + 0) (slots + 0) Q (F0 m (pc + 3) ls (vi v :: rest))) : W p l e R s m args below meth c H locs cells slots Q (F0 m pc ls (vi x0 :: rest)) := g_callS C hM (c_X8_areUnits l E N x0 μ μ1 v hc rx0) (gS h1 bw_5_152 bw_1_13 bw_5_153) hd_X8_areUnits hR rfl hl rfl hcat hf hdg kk
/-! X8_checkEnter -/
def f_X8_checkEnter (N : Nat) (x0 x1 x2 x3 x4 : Int) (μ : Mm) : Rs :=
  ck (μ x0 (-2) = 10) <|
  bd (f_X8_noOwner N x0 x1 μ) fun a2 μ3 =>
  if ¬ a2 = 0 then
    (some ((-100000001), μ3))
  else
  bd (f_X8_noKind N x2 μ3) fun a5 μ6 =>
  if a5 = 0 then
    (bd (f_X8_areUnits N x3 μ6) fun a8 μ9 =>
     if a8 = 0 then
       (some ((-100000002), μ9))
     else
     bd (f_X8_in N x4 0 10000000 μ9) fun a11 μ12 =>
     if ¬ a11 = 0 then
       (ck (μ12 x0 (-2) = 10) <|
        bd (f_X8_ownerAt N x1 μ12) fun a15 μ16 =>
        nm (w32 (a15 + 2)) fun a17 =>
        ck (μ16 (μ12 x0 0) (-2) = 24 ∧ (0 : Int) ≤ a17 ∧ a17 < μ16 (μ12 x0 0) (-1)) <|
        if (μ16 (μ12 x0 0) a17) ≤ 0 then
          (ck (μ16 x0 (-2) = 10) <|
           ck (μ16 (μ16 x0 0) (-2) = 24 ∧ (0 : Int) ≤ 2 ∧ 2 < μ16 (μ16 x0 0) (-1)) <|
           if ¬ (μ16 (μ16 x0 0) 2) = 30 then
             (ck (μ16 x0 (-2) = 10) <|
              bd (f_X8_use N x0 x1 μ16) fun a24 μ25 =>
              ck (μ25 x0 (-2) = 10) <|
              nm (w32 (14 + x2)) fun a27 =>
              ck (μ25 (μ25 x0 0) (-2) = 24 ∧ (0 : Int) ≤ a27 ∧ a27 < μ25 (μ25 x0 0) (-1)) <|
              nm (w64 (x4 * (μ25 (μ25 x0 0) a27))) fun a29 =>
              nm (w64 (Int.tdiv a29 1000)) fun a30 =>
              nm (w64 (a24 + a30)) fun a32 =>
              ck (μ25 x0 (-2) = 10) <|
              bd (f_X8_ownerAt N x1 μ25) fun a34 μ35 =>
              nm (w32 (a34 + 1)) fun a36 =>
              ck (μ35 (μ25 x0 0) (-2) = 24 ∧ (0 : Int) ≤ a36 ∧ a36 < μ35 (μ25 x0 0) (-1)) <|
              ck (μ35 x0 (-2) = 10) <|
              bd (f_X8_isCovered N x0 a32 (μ35 (μ25 x0 0) a36) μ35) fun a39 μ40 =>
              if a39 = 0 then
                (ck (μ40 x0 (-2) = 10) <|
                 bd (f_X8_refuse N x0 2 μ40) fun a43 μ44 =>
                 some (a43, μ44))
              else
              some (0, μ40))
           else
           ck (μ16 x0 (-2) = 10) <|
           bd (f_X8_refuse N x0 5 μ16) fun a46 μ47 =>
           some (a46, μ47))
        else
        ck (μ16 x0 (-2) = 10) <|
        bd (f_X8_refuse N x0 1 μ16) fun a49 μ50 =>
        some (a49, μ50))
     else
     some ((-100000002), μ12))
  else
  some ((-100000001), μ6)
set_option maxHeartbeats 4000000 in
set_option maxRecDepth 100000 in
theorem c_X8_checkEnter (l : Launch) (E : gE) (N : Nat) (x0 x1 x2 x3 x4 : Int) (μ μ' : Mm) (r : Int) (h : f_X8_checkEnter N x0 x1 x2 x3 x4 μ = some (r, μ')) (rx1 : R32 x1) (rx2 : R32 x2) (rx3 : R32 x3) (rx4 : R32 x4) : gMet l E yX8_checkEnter cX8_checkEnter 5 (some .int) 5 117 [vr E x0, vi x1, vi x2, vi x3, vi x4] (some (vi r)) (R32 r) μ μ' 0 0 := by
  refine g_ofW [1, 1, 1, 1, 1] (by first | (simp only [List.map_cons, List.map_nil, vr_cat]; done) | (simp only [List.map_cons, List.map_nil, vr_cat]; rfl)) (by decide) (by decide) (fun p e s m below meth c ls C hM hl => ?_)
  replace C : gCx p s m _ meth c cX8_checkEnter 5 (some .int) "checkEnter" RX8 := C
  replace hl : lv_has ls 5 [(0, vr E x0), (1, vi x1), (2, vi x2), (3, vi x3), (4, vi x4)] := hl
  unfold f_X8_checkEnter at h
  refine m_aload_n (pc := 0) C dX8_checkEnter_0 rfl (lv_at hl 0 rfl) ?_
  refine m_iload_n (pc := 1) C dX8_checkEnter_1 rfl (lv_at hl 1 rfl) ?_
  obtain ⟨q1, h⟩ := ck_some h
  obtain ⟨a2, μ3, ca2, h⟩ := bd_some h
  refine V_X8_noOwner (pc := 2) C hM ca2 rx1 q1 bw_5_72 ⟨Nat.le_of_ble_eq_true rfl, Nat.le_of_ble_eq_true rfl⟩ hl.1 rc0 ⟨Nat.le_refl _, Nat.le_refl _⟩ dX8_checkEnter_2 (fun ra2 H locs hM => ?_)
  refine m_if_ne (tgt := 15) (pc := 5) C ra2 dX8_checkEnter_5 (by decide) (fun c4 => ?_) (fun c4 => ?_)
  · have h := if_t h c4
    refine m_ldc (n := -100000001) (pc := 15) C bw_5_46 rfl dX8_checkEnter_15 ?_
    cases h
    exact m_iret (pc := 17) C hM rk_m100000001 dX8_checkEnter_17
  · have h := if_f h c4
    refine m_iload_n (pc := 8) C dX8_checkEnter_8 rfl (lv_at hl 2 rfl) ?_
    obtain ⟨a5, μ6, ca5, h⟩ := bd_some h
    refine V_X8_noKind (pc := 9) C hM ca5 rx2 bw_5_130 ⟨Nat.le_of_ble_eq_true rfl, Nat.le_of_ble_eq_true rfl⟩ hl.1 rc0 ⟨Nat.le_refl _, Nat.le_refl _⟩ dX8_checkEnter_9 (fun ra5 H locs hM => ?_)
    refine m_if_eq (tgt := 18) (pc := 12) C ra5 dX8_checkEnter_12 (by decide) (fun c7 => ?_) (fun c7 => ?_)
    · have h := if_t h c7
      refine m_iload_n (pc := 18) C dX8_checkEnter_18 rfl (lv_at hl 3 rfl) ?_
      obtain ⟨a8, μ9, ca8, h⟩ := bd_some h
      refine V_X8_areUnits (pc := 19) C hM ca8 rx3 bw_5_151 ⟨Nat.le_of_ble_eq_true rfl, Nat.le_of_ble_eq_true rfl⟩ hl.1 rc0 ⟨Nat.le_refl _, Nat.le_refl _⟩ dX8_checkEnter_19 (fun ra8 H locs hM => ?_)
      refine m_if_eq (tgt := 38) (pc := 22) C ra8 dX8_checkEnter_22 (by decide) (fun c10 => ?_) (fun c10 => ?_)
      · have h := if_t h c10
        refine m_ldc (n := -100000002) (pc := 38) C bw_5_77 rfl dX8_checkEnter_38 ?_
        cases h
        exact m_iret (pc := 40) C hM rk_m100000002 dX8_checkEnter_40
      · have h := if_f h c10
        refine m_iload (pc := 25) C dX8_checkEnter_25 (lv_at hl 4 rfl) ?_
        refine m_i2l (pc := 27) C rx4 dX8_checkEnter_27 ?_
        refine m_lconst (v := 0) (pc := 28) C dX8_checkEnter_28 rfl ?_
        refine m_ldc2 (n := 10000000) (pc := 29) C bw_5_76 rfl dX8_checkEnter_29 ?_
        obtain ⟨a11, μ12, ca11, h⟩ := bd_some h
        refine V_X8_in (pc := 32) C hM ca11 (R32.to64 rx4) rl_0 rl_10000000 bw_5_43 ⟨Nat.le_of_ble_eq_true rfl, Nat.le_of_ble_eq_true rfl⟩ hl.1 rc0 ⟨Nat.le_refl _, Nat.le_refl _⟩ dX8_checkEnter_32 (fun ra11 H locs hM => ?_)
        refine m_if_ne (tgt := 41) (pc := 35) C ra11 dX8_checkEnter_35 (by decide) (fun c13 => ?_) (fun c13 => ?_)
        · have h := if_t h c13
          refine m_aload_n (pc := 41) C dX8_checkEnter_41 rfl (lv_at hl 0 rfl) ?_
          obtain ⟨q14, h⟩ := ck_some h
          refine G_X8_now (pc := 42) C hM bw_4_227 q14 dX8_checkEnter_42 ?_
          refine m_iload_n (pc := 45) C dX8_checkEnter_45 rfl (lv_at hl 1 rfl) ?_
          obtain ⟨a15, μ16, ca15, h⟩ := bd_some h
          refine V_X8_ownerAt (pc := 46) C hM ca15 rx1 bw_5_65 ⟨Nat.le_of_ble_eq_true rfl, Nat.le_of_ble_eq_true rfl⟩ hl.1 (rcR rc0) ⟨Nat.le_refl _, Nat.le_refl _⟩ dX8_checkEnter_46 (fun ra15 H locs hM => ?_)
          refine m_iconst (pc := 49) C dX8_checkEnter_49 ?_
          obtain ⟨a17, ea17, h⟩ := nm_some h
          have ra17 : R32 a17 := by rw [ea17]; exact w32_R _
          refine m_iadd (pc := 50) C dX8_checkEnter_50 ea17 ?_
          obtain ⟨q18, h⟩ := ck_some h
          have gq18 := Ar_lald hM q18.1 q18.2.1 q18.2.2
          refine m_lald (pc := 51) C hM q18.1 q18.2.1 q18.2.2 dX8_checkEnter_51 ?_
          refine m_lconst (v := 0) (pc := 52) C dX8_checkEnter_52 rfl ?_
          refine m_lcmp_le (tgt := 63) (pc := 53) C gq18 rl_0 dX8_checkEnter_53 dX8_checkEnter_54 (by decide) (fun c19 => ?_) (fun c19 => ?_)
          · have h := if_t h c19
            refine m_aload_n (pc := 63) C dX8_checkEnter_63 rfl (lv_at hl 0 rfl) ?_
            obtain ⟨q20, h⟩ := ck_some h
            refine G_X8_now (pc := 64) C hM bw_4_227 q20 dX8_checkEnter_64 ?_
            refine m_iconst (pc := 67) C dX8_checkEnter_67 ?_
            obtain ⟨q21, h⟩ := ck_some h
            have gq21 := Ar_lald hM q21.1 q21.2.1 q21.2.2
            refine m_lald (pc := 68) C hM q21.1 q21.2.1 q21.2.2 dX8_checkEnter_68 ?_
            refine m_ldc2 (n := 30) (pc := 69) C bw_4_224 rfl dX8_checkEnter_69 ?_
            refine m_lcmp_ne (tgt := 82) (pc := 72) C gq21 rl_30 dX8_checkEnter_72 dX8_checkEnter_73 (by decide) (fun c22 => ?_) (fun c22 => ?_)
            · have h := if_t h c22
              refine m_aload_n (pc := 82) C dX8_checkEnter_82 rfl (lv_at hl 0 rfl) ?_
              refine m_aload_n (pc := 83) C dX8_checkEnter_83 rfl (lv_at hl 0 rfl) ?_
              refine m_iload_n (pc := 84) C dX8_checkEnter_84 rfl (lv_at hl 1 rfl) ?_
              obtain ⟨q23, h⟩ := ck_some h
              obtain ⟨a24, μ25, ca24, h⟩ := bd_some h
              refine V_X8_use (pc := 85) C hM ca24 rx1 q23 bw_5_83 ⟨Nat.le_of_ble_eq_true rfl, Nat.le_of_ble_eq_true rfl⟩ hl.1 (rcR rc0) ⟨Nat.le_refl _, Nat.le_refl _⟩ dX8_checkEnter_85 (fun ra24 H locs hM => ?_)
              refine m_iload (pc := 88) C dX8_checkEnter_88 (lv_at hl 4 rfl) ?_
              refine m_i2l (pc := 90) C rx4 dX8_checkEnter_90 ?_
              refine m_aload_n (pc := 91) C dX8_checkEnter_91 rfl (lv_at hl 0 rfl) ?_
              obtain ⟨q26, h⟩ := ck_some h
              refine G_X8_now (pc := 92) C hM bw_4_227 q26 dX8_checkEnter_92 ?_
              refine m_bipush (pc := 95) C dX8_checkEnter_95 rfl ?_
              refine m_iload_n (pc := 97) C dX8_checkEnter_97 rfl (lv_at hl 2 rfl) ?_
              obtain ⟨a27, ea27, h⟩ := nm_some h
              have ra27 : R32 a27 := by rw [ea27]; exact w32_R _
              refine m_iadd (pc := 98) C dX8_checkEnter_98 ea27 ?_
              obtain ⟨q28, h⟩ := ck_some h
              have gq28 := Ar_lald hM q28.1 q28.2.1 q28.2.2
              refine m_lald (pc := 99) C hM q28.1 q28.2.1 q28.2.2 dX8_checkEnter_99 ?_
              obtain ⟨a29, ea29, h⟩ := nm_some h
              have ra29 : R64 a29 := by rw [ea29]; exact w64_R _
              refine m_lmul (pc := 100) C dX8_checkEnter_100 ea29 ?_
              refine m_ldc2 (n := 1000) (pc := 101) C bw_5_133 rfl dX8_checkEnter_101 ?_
              obtain ⟨a30, ea30, h⟩ := nm_some h
              have ra30 : R64 a30 := by rw [ea30]; exact w64_R _
              refine m_ldiv (pc := 104) C ra29 rl_1000 (by decide) dX8_checkEnter_104 ea30 ?_
              obtain ⟨a32, ea32, h⟩ := nm_some h
              have ra32 : R64 a32 := by rw [ea32]; exact w64_R _
              refine m_ladd (pc := 105) C dX8_checkEnter_105 ea32 ?_
              refine m_aload_n (pc := 106) C dX8_checkEnter_106 rfl (lv_at hl 0 rfl) ?_
              obtain ⟨q33, h⟩ := ck_some h
              refine G_X8_now (pc := 107) C hM bw_4_227 q33 dX8_checkEnter_107 ?_
              refine m_iload_n (pc := 110) C dX8_checkEnter_110 rfl (lv_at hl 1 rfl) ?_
              obtain ⟨a34, μ35, ca34, h⟩ := bd_some h
              refine V_X8_ownerAt (pc := 111) C hM ca34 rx1 bw_5_65 ⟨Nat.le_of_ble_eq_true rfl, Nat.le_of_ble_eq_true rfl⟩ hl.1 (rcR (rcL (rcR rc0))) ⟨Nat.le_refl _, Nat.le_refl _⟩ dX8_checkEnter_111 (fun ra34 H locs hM => ?_)
              refine m_iconst (pc := 114) C dX8_checkEnter_114 ?_
              obtain ⟨a36, ea36, h⟩ := nm_some h
              have ra36 : R32 a36 := by rw [ea36]; exact w32_R _
              refine m_iadd (pc := 115) C dX8_checkEnter_115 ea36 ?_
              obtain ⟨q37, h⟩ := ck_some h
              have gq37 := Ar_lald hM q37.1 q37.2.1 q37.2.2
              refine m_lald (pc := 116) C hM q37.1 q37.2.1 q37.2.2 dX8_checkEnter_116 ?_
              obtain ⟨q38, h⟩ := ck_some h
              obtain ⟨a39, μ40, ca39, h⟩ := bd_some h
              refine V_X8_isCovered (pc := 117) C hM ca39 ra32 gq37 q38 bw_5_117 ⟨Nat.le_of_ble_eq_true rfl, Nat.le_of_ble_eq_true rfl⟩ hl.1 rc0 ⟨Nat.le_refl _, Nat.le_refl _⟩ dX8_checkEnter_117 (fun ra39 H locs hM => ?_)
              refine m_if_eq (tgt := 127) (pc := 120) C ra39 dX8_checkEnter_120 (by decide) (fun c41 => ?_) (fun c41 => ?_)
              · have h := if_t h c41
                refine m_aload_n (pc := 127) C dX8_checkEnter_127 rfl (lv_at hl 0 rfl) ?_
                refine m_iconst (pc := 128) C dX8_checkEnter_128 ?_
                obtain ⟨q42, h⟩ := ck_some h
                obtain ⟨a43, μ44, ca43, h⟩ := bd_some h
                refine V_X8_refuse (pc := 129) C hM ca43 rk_2 q42 bw_5_121 ⟨Nat.le_of_ble_eq_true rfl, Nat.le_of_ble_eq_true rfl⟩ hl.1 rc0 ⟨Nat.le_refl _, Nat.le_refl _⟩ dX8_checkEnter_129 (fun ra43 H locs hM => ?_)
                cases h
                exact m_iret (pc := 132) C hM ra43 dX8_checkEnter_132
              · have h := if_f h c41
                refine m_iconst (pc := 123) C dX8_checkEnter_123 ?_
                refine m_goto (tgt := 132) (pc := 124) C dX8_checkEnter_124 (by decide) ?_
                cases h
                exact m_iret (pc := 132) C hM rk_0 dX8_checkEnter_132
            · have h := if_f h c22
              refine m_aload_n (pc := 76) C dX8_checkEnter_76 rfl (lv_at hl 0 rfl) ?_
              refine m_iconst (pc := 77) C dX8_checkEnter_77 ?_
              obtain ⟨q45, h⟩ := ck_some h
              obtain ⟨a46, μ47, ca46, h⟩ := bd_some h
              refine V_X8_refuse (pc := 78) C hM ca46 rk_5 q45 bw_5_121 ⟨Nat.le_of_ble_eq_true rfl, Nat.le_of_ble_eq_true rfl⟩ hl.1 rc0 ⟨Nat.le_refl _, Nat.le_refl _⟩ dX8_checkEnter_78 (fun ra46 H locs hM => ?_)
              cases h
              exact m_iret (pc := 81) C hM ra46 dX8_checkEnter_81
          · have h := if_f h c19
            refine m_aload_n (pc := 57) C dX8_checkEnter_57 rfl (lv_at hl 0 rfl) ?_
            refine m_iconst (pc := 58) C dX8_checkEnter_58 ?_
            obtain ⟨q48, h⟩ := ck_some h
            obtain ⟨a49, μ50, ca49, h⟩ := bd_some h
            refine V_X8_refuse (pc := 59) C hM ca49 rk_1 q48 bw_5_121 ⟨Nat.le_of_ble_eq_true rfl, Nat.le_of_ble_eq_true rfl⟩ hl.1 rc0 ⟨Nat.le_refl _, Nat.le_refl _⟩ dX8_checkEnter_59 (fun ra49 H locs hM => ?_)
            cases h
            exact m_iret (pc := 62) C hM ra49 dX8_checkEnter_62
        · have h := if_f h c13
          refine m_ldc (n := -100000002) (pc := 38) C bw_5_77 rfl dX8_checkEnter_38 ?_
          cases h
          exact m_iret (pc := 40) C hM rk_m100000002 dX8_checkEnter_40
    · have h := if_f h c7
      refine m_ldc (n := -100000001) (pc := 15) C bw_5_46 rfl dX8_checkEnter_15 ?_
      cases h
      exact m_iret (pc := 17) C hM rk_m100000001 dX8_checkEnter_17
theorem hd_X8_checkEnter : yX8_checkEnter.cls ≠ "java/lang/invoke/MethodHandle" ∧ yX8_checkEnter.cls ≠ "java/lang/invoke/VarHandle" ∧ (parseMethodDescriptor yX8_checkEnter.desc).map (fun d => d.parameters.length) = some 4 := by decide +kernel

theorem V_X8_checkEnter {p : Program} {l : Launch} {e : Env} {R : Room} {s : State} {m : MethodId} {args : Array Value} {below : List Frame} {meth : Method} {c : Code} {H : Heap} {locs : List Loc} {cells slots : Nat} {Q : State → Prop} {cc : ByteArray} {pc nL : Nat} {ls : Array Slot} {rest : List Value} {ret : Option FieldType} {nmm own : String} {E : gE} {μ μ1 : Mm} {index : Nat} (C : gCx p s m args meth c cc nL ret nmm own) (hM : MS E μ s H locs) {N : Nat} {x0 x1 x2 x3 x4 v : Int} (hc : f_X8_checkEnter N x0 x1 x2 x3 x4 μ = some (v, μ1)) (rx1 : R32 x1) (rx2 : R32 x2) (rx3 : R32 x3) (rx4 : R32 x4) (hck : μ x0 (-2) = 10) (h1 : Cond.methodLink own index yX8_checkEnter ∈ bigL) (hR : 6 ≤ R.frames ∧ 141 ≤ R.locals) (hl : ls.size = nL) (hcat : RC rest 8) (hf : cells + 0 ≤ R.cells ∧ slots + 0 ≤ R.slots) (hdg : decode cc pc = .ok (.invokevirtual index, 3)) (kk : (R32 v) → ∀ (H1 : Heap) (locs1 : List Loc), MS E μ1 s H1 locs1 → W p l e R s m args below meth c H1 locs1 (cells + 0) (slots + 0) Q (F0 m (pc + 3) ls (vi v :: rest))) : W p l e R s m args below meth c H locs cells slots Q (F0 m pc ls (vi x4 :: vi x3 :: vi x2 :: vi x1 :: vr E x0 :: rest)) := g_callV C KF_X8 hM (c_X8_checkEnter l E N x0 x1 x2 x3 x4 μ μ1 v hc rx1 rx2 rx3 rx4) hck (gV h1 bw_5_149 bs_32 bw_1_13 bw_5_150) ⟨rfl, hd_X8_checkEnter⟩ hR rfl hl rfl hcat hf hdg kk
/-! X8_enters -/
def f_X8_enters_b125 (N : Nat) : Nat → Int → Int → Int → Int → Mm → Rs
  | 0, _, _, _, _, _ => none
  | n + 1, x0, x5, x6, x7, μ =>
    if 11 ≤ x7 then
      (ck (μ x0 (-2) = 10) <|
       ck (μ (μ x0 0) (-2) = 24 ∧ (0 : Int) ≤ 2 ∧ 2 < μ (μ x0 0) (-1)) <|
       nm (w64 ((μ (μ x0 0) 2) + 1)) fun a4 =>
       ck (μ (μ x0 0) (-2) = 24 ∧ (0 : Int) ≤ 2 ∧ 2 < μ (μ x0 0) (-1)) <|
       nm (mset μ (μ x0 0) 2 a4) fun μ6 =>
       some (x5, μ6))
    else
    ck (μ x0 (-2) = 10) <|
    nm (w32 (x6 + x7)) fun a8 =>
    ck (μ (μ x0 0) (-2) = 24 ∧ (0 : Int) ≤ a8 ∧ a8 < μ (μ x0 0) (-1)) <|
    nm (mset μ (μ x0 0) a8 0) fun μ10 =>
    nm (w32 (x7 + 1)) fun a11 =>
    f_X8_enters_b125 N n x0 x5 x6 a11 μ10
def f_X8_enters (N : Nat) (x0 x1 x2 x3 x4 : Int) (μ : Mm) : Rs :=
  ck (μ x0 (-2) = 10) <|
  bd (f_X8_number N x0 2 μ) fun a2 μ3 =>
  bd (f_X8_lotAt N a2 μ3) fun a4 μ5 =>
  ck (μ5 x0 (-2) = 10) <|
  ck (μ5 (μ5 x0 0) (-2) = 24 ∧ (0 : Int) ≤ a4 ∧ a4 < μ5 (μ5 x0 0) (-1)) <|
  nm (mset μ5 (μ5 x0 0) a4 x1) fun μ8 =>
  ck (μ8 x0 (-2) = 10) <|
  nm (w32 (a4 + 1)) fun a10 =>
  ck (μ8 (μ8 x0 0) (-2) = 24 ∧ (0 : Int) ≤ a10 ∧ a10 < μ8 (μ8 x0 0) (-1)) <|
  nm (mset μ8 (μ8 x0 0) a10 x2) fun μ12 =>
  ck (μ12 x0 (-2) = 10) <|
  nm (w32 (a4 + 2)) fun a14 =>
  ck (μ12 (μ12 x0 0) (-2) = 24 ∧ (0 : Int) ≤ a14 ∧ a14 < μ12 (μ12 x0 0) (-1)) <|
  nm (mset μ12 (μ12 x0 0) a14 x3) fun μ16 =>
  ck (μ16 x0 (-2) = 10) <|
  nm (w32 (a4 + 3)) fun a18 =>
  ck (μ16 (μ16 x0 0) (-2) = 24 ∧ (0 : Int) ≤ a18 ∧ a18 < μ16 (μ16 x0 0) (-1)) <|
  nm (mset μ16 (μ16 x0 0) a18 x4) fun μ20 =>
  ck (μ20 x0 (-2) = 10) <|
  nm (w32 (a4 + 4)) fun a22 =>
  ck (μ20 x0 (-2) = 10) <|
  ck (μ20 (μ20 x0 0) (-2) = 24 ∧ (0 : Int) ≤ 0 ∧ 0 < μ20 (μ20 x0 0) (-1)) <|
  ck (μ20 (μ20 x0 0) (-2) = 24 ∧ (0 : Int) ≤ a22 ∧ a22 < μ20 (μ20 x0 0) (-1)) <|
  nm (mset μ20 (μ20 x0 0) a22 (μ20 (μ20 x0 0) 0)) fun μ26 =>
  ck (μ26 x0 (-2) = 10) <|
  nm (w32 (a4 + 5)) fun a28 =>
  ck (μ26 x0 (-2) = 10) <|
  ck (μ26 (μ26 x0 0) (-2) = 24 ∧ (0 : Int) ≤ 0 ∧ 0 < μ26 (μ26 x0 0) (-1)) <|
  ck (μ26 x0 (-2) = 10) <|
  ck (μ26 (μ26 x0 0) (-2) = 24 ∧ (0 : Int) ≤ 5 ∧ 5 < μ26 (μ26 x0 0) (-1)) <|
  nm (w64 ((μ26 (μ26 x0 0) 0) + (μ26 (μ26 x0 0) 5))) fun a33 =>
  ck (μ26 (μ26 x0 0) (-2) = 24 ∧ (0 : Int) ≤ a28 ∧ a28 < μ26 (μ26 x0 0) (-1)) <|
  nm (mset μ26 (μ26 x0 0) a28 a33) fun μ35 =>
  ck (μ35 x0 (-2) = 10) <|
  nm (w32 (a4 + 6)) fun a37 =>
  ck (μ35 x0 (-2) = 10) <|
  nm (w32 (14 + x2)) fun a39 =>
  ck (μ35 (μ35 x0 0) (-2) = 24 ∧ (0 : Int) ≤ a39 ∧ a39 < μ35 (μ35 x0 0) (-1)) <|
  nm (w64 (x4 * (μ35 (μ35 x0 0) a39))) fun a41 =>
  nm (w64 (Int.tdiv a41 1000)) fun a42 =>
  ck (μ35 (μ35 x0 0) (-2) = 24 ∧ (0 : Int) ≤ a37 ∧ a37 < μ35 (μ35 x0 0) (-1)) <|
  nm (mset μ35 (μ35 x0 0) a37 a42) fun μ45 =>
  f_X8_enters_b125 N N x0 a2 a4 7 μ45
set_option maxHeartbeats 4000000 in
set_option maxRecDepth 100000 in
theorem k_X8_enters_b125 (C : gCx p s m args meth c cX8_enters 8 (some .int) "enters" RX8) (N : Nat) {r : Int} {μ' : Mm} : ∀ (n : Nat), ∀ (x0 x5 x6 x7 : Int) (μ : Mm), f_X8_enters_b125 N n x0 x5 x6 x7 μ = some (r, μ') → R32 x5 → R32 x6 → R32 x7 → ∀ (H : Heap) (locs : List Loc) (ls : Array Slot), MS E μ s H locs → lv_has ls 8 [(0, vr E x0), (5, vi x5), (6, vi x6), (7, vi x7)] → W p l e ({ frames := 1, cells := 0, slots := 0, locals := 21 } : Room) s m args below meth c H locs 0 0 (MQ below (gQ E (some (vi r)) (R32 r) μ') args s 0 0 (gA E)) (F0 m 125 ls []) := by
  intro n
  induction n with
  | zero => intro x0 x5 x6 x7 μ h; simp [f_X8_enters_b125] at h
  | succ n ih =>
    intro x0 x5 x6 x7 μ h rx5 rx6 rx7 H locs ls hM hl
    rw [f_X8_enters_b125] at h
    refine m_iload (pc := 125) C dX8_enters_125 (lv_at hl 3 rfl) ?_
    refine m_bipush (pc := 127) C dX8_enters_127 rfl ?_
    refine m_icmp_ge (tgt := 149) (pc := 129) C rx7 rk_11 dX8_enters_129 (by decide) (fun c1 => ?_) (fun c1 => ?_)
    · have h := if_t h c1
      refine m_aload_n (pc := 149) C dX8_enters_149 rfl (lv_at hl 0 rfl) ?_
      obtain ⟨q2, h⟩ := ck_some h
      refine G_X8_now (pc := 150) C hM bw_4_227 q2 dX8_enters_150 ?_
      refine m_iconst (pc := 153) C dX8_enters_153 ?_
      refine m_dup2 (pc := 154) C rfl (vr_cat _ _) dX8_enters_154 ?_
      obtain ⟨q3, h⟩ := ck_some h
      have gq3 := Ar_lald hM q3.1 q3.2.1 q3.2.2
      refine m_lald (pc := 155) C hM q3.1 q3.2.1 q3.2.2 dX8_enters_155 ?_
      refine m_lconst (v := 1) (pc := 156) C dX8_enters_156 rfl ?_
      obtain ⟨a4, ea4, h⟩ := nm_some h
      have ra4 : R64 a4 := by rw [ea4]; exact w64_R _
      refine m_ladd (pc := 157) C dX8_enters_157 ea4 ?_
      obtain ⟨q5, h⟩ := ck_some h
      obtain ⟨μ6, eμ6, h⟩ := nm_some h
      refine m_last (pc := 158) C hM q5.1 q5.2.1  q5.2.2 ra4 eμ6 dX8_enters_158 (fun H locs hM => ?_)
      refine m_iload (pc := 159) C dX8_enters_159 (lv_at hl 1 rfl) ?_
      cases h
      exact m_iret (pc := 161) C hM rx5 dX8_enters_161
    · have h := if_f h c1
      refine m_aload_n (pc := 132) C dX8_enters_132 rfl (lv_at hl 0 rfl) ?_
      obtain ⟨q7, h⟩ := ck_some h
      refine G_X8_now (pc := 133) C hM bw_4_227 q7 dX8_enters_133 ?_
      refine m_iload (pc := 136) C dX8_enters_136 (lv_at hl 2 rfl) ?_
      refine m_iload (pc := 138) C dX8_enters_138 (lv_at hl 3 rfl) ?_
      obtain ⟨a8, ea8, h⟩ := nm_some h
      have ra8 : R32 a8 := by rw [ea8]; exact w32_R _
      refine m_iadd (pc := 140) C dX8_enters_140 ea8 ?_
      refine m_lconst (v := 0) (pc := 141) C dX8_enters_141 rfl ?_
      obtain ⟨q9, h⟩ := ck_some h
      obtain ⟨μ10, eμ10, h⟩ := nm_some h
      refine m_last (pc := 142) C hM q9.1 q9.2.1  q9.2.2 rl_0 eμ10 dX8_enters_142 (fun H locs hM => ?_)
      obtain ⟨a11, ea11, h⟩ := nm_some h
      have ra11 : R32 a11 := by rw [ea11]; exact w32_R _
      refine m_iinc (k := 3) (pc := 143) C dX8_enters_143 hl rfl (by decide) ea11 (lvK1 0 rfl (Nat.ne_of_beq_eq_false rfl) (Nat.ne_of_beq_eq_false rfl) (lvK1 1 rfl (Nat.ne_of_beq_eq_false rfl) (Nat.ne_of_beq_eq_false rfl) (lvK2 2 rfl (Nat.ne_of_beq_eq_false rfl) rfl lvK0))) (fun ls hl => ?_)
      refine m_goto (tgt := 125) (pc := 146) C dX8_enters_146 (by decide) ?_
      exact ih _ _ _ _ _ h rx5 rx6 ra11 _ _ _ hM (lv_sub hl [1, 2, 3, 0] rfl)
set_option maxHeartbeats 4000000 in
set_option maxRecDepth 100000 in
theorem c_X8_enters (l : Launch) (E : gE) (N : Nat) (x0 x1 x2 x3 x4 : Int) (μ μ' : Mm) (r : Int) (h : f_X8_enters N x0 x1 x2 x3 x4 μ = some (r, μ')) (rx1 : R32 x1) (rx2 : R32 x2) (rx3 : R32 x3) (rx4 : R32 x4) : gMet l E yX8_enters cX8_enters 8 (some .int) 1 21 [vr E x0, vi x1, vi x2, vi x3, vi x4] (some (vi r)) (R32 r) μ μ' 0 0 := by
  refine g_ofW [1, 1, 1, 1, 1] (by first | (simp only [List.map_cons, List.map_nil, vr_cat]; done) | (simp only [List.map_cons, List.map_nil, vr_cat]; rfl)) (by decide) (by decide) (fun p e s m below meth c ls C hM hl => ?_)
  replace C : gCx p s m _ meth c cX8_enters 8 (some .int) "enters" RX8 := C
  replace hl : lv_has ls 8 [(0, vr E x0), (1, vi x1), (2, vi x2), (3, vi x3), (4, vi x4)] := hl
  unfold f_X8_enters at h
  refine m_aload_n (pc := 0) C dX8_enters_0 rfl (lv_at hl 0 rfl) ?_
  refine m_iconst (pc := 1) C dX8_enters_1 ?_
  obtain ⟨q1, h⟩ := ck_some h
  obtain ⟨a2, μ3, ca2, h⟩ := bd_some h
  refine V_X8_number (pc := 2) C hM ca2 rk_2 q1 bw_5_47 ⟨Nat.le_of_ble_eq_true rfl, Nat.le_of_ble_eq_true rfl⟩ hl.1 rc0 ⟨Nat.le_refl _, Nat.le_refl _⟩ dX8_enters_2 (fun ra2 H locs hM => ?_)
  refine m_istore (pc := 5) C dX8_enters_5 hl (by decide) (lvK1 0 rfl (Nat.ne_of_beq_eq_false rfl) (Nat.ne_of_beq_eq_false rfl) (lvK1 1 rfl (Nat.ne_of_beq_eq_false rfl) (Nat.ne_of_beq_eq_false rfl) (lvK1 2 rfl (Nat.ne_of_beq_eq_false rfl) (Nat.ne_of_beq_eq_false rfl) (lvK1 3 rfl (Nat.ne_of_beq_eq_false rfl) (Nat.ne_of_beq_eq_false rfl) (lvK2 4 rfl (Nat.ne_of_beq_eq_false rfl) rfl lvK0))))) (fun ls hl => ?_)
  refine m_iload (pc := 7) C dX8_enters_7 (lv_at hl 0 rfl) ?_
  obtain ⟨a4, μ5, ca4, h⟩ := bd_some h
  refine V_X8_lotAt (pc := 9) C hM ca4 ra2 bw_5_87 ⟨Nat.le_of_ble_eq_true rfl, Nat.le_of_ble_eq_true rfl⟩ hl.1 rc0 ⟨Nat.le_refl _, Nat.le_refl _⟩ dX8_enters_9 (fun ra4 H locs hM => ?_)
  refine m_istore (pc := 12) C dX8_enters_12 hl (by decide) (lvK2 0 rfl (Nat.ne_of_beq_eq_false rfl) rfl (lvK1 1 rfl (Nat.ne_of_beq_eq_false rfl) (Nat.ne_of_beq_eq_false rfl) (lvK1 2 rfl (Nat.ne_of_beq_eq_false rfl) (Nat.ne_of_beq_eq_false rfl) (lvK1 3 rfl (Nat.ne_of_beq_eq_false rfl) (Nat.ne_of_beq_eq_false rfl) (lvK1 4 rfl (Nat.ne_of_beq_eq_false rfl) (Nat.ne_of_beq_eq_false rfl) (lvK1 5 rfl (Nat.ne_of_beq_eq_false rfl) (Nat.ne_of_beq_eq_false rfl) lvK0)))))) (fun ls hl => ?_)
  refine m_aload_n (pc := 14) C dX8_enters_14 rfl (lv_at hl 2 rfl) ?_
  obtain ⟨q6, h⟩ := ck_some h
  refine G_X8_now (pc := 15) C hM bw_4_227 q6 dX8_enters_15 ?_
  refine m_iload (pc := 18) C dX8_enters_18 (lv_at hl 0 rfl) ?_
  refine m_iload_n (pc := 20) C dX8_enters_20 rfl (lv_at hl 3 rfl) ?_
  refine m_i2l (pc := 21) C rx1 dX8_enters_21 ?_
  obtain ⟨q7, h⟩ := ck_some h
  obtain ⟨μ8, eμ8, h⟩ := nm_some h
  refine m_last (pc := 22) C hM q7.1 q7.2.1  q7.2.2 (R32.to64 rx1) eμ8 dX8_enters_22 (fun H locs hM => ?_)
  refine m_aload_n (pc := 23) C dX8_enters_23 rfl (lv_at hl 2 rfl) ?_
  obtain ⟨q9, h⟩ := ck_some h
  refine G_X8_now (pc := 24) C hM bw_4_227 q9 dX8_enters_24 ?_
  refine m_iload (pc := 27) C dX8_enters_27 (lv_at hl 0 rfl) ?_
  refine m_iconst (pc := 29) C dX8_enters_29 ?_
  obtain ⟨a10, ea10, h⟩ := nm_some h
  have ra10 : R32 a10 := by rw [ea10]; exact w32_R _
  refine m_iadd (pc := 30) C dX8_enters_30 ea10 ?_
  refine m_iload_n (pc := 31) C dX8_enters_31 rfl (lv_at hl 4 rfl) ?_
  refine m_i2l (pc := 32) C rx2 dX8_enters_32 ?_
  obtain ⟨q11, h⟩ := ck_some h
  obtain ⟨μ12, eμ12, h⟩ := nm_some h
  refine m_last (pc := 33) C hM q11.1 q11.2.1  q11.2.2 (R32.to64 rx2) eμ12 dX8_enters_33 (fun H locs hM => ?_)
  refine m_aload_n (pc := 34) C dX8_enters_34 rfl (lv_at hl 2 rfl) ?_
  obtain ⟨q13, h⟩ := ck_some h
  refine G_X8_now (pc := 35) C hM bw_4_227 q13 dX8_enters_35 ?_
  refine m_iload (pc := 38) C dX8_enters_38 (lv_at hl 0 rfl) ?_
  refine m_iconst (pc := 40) C dX8_enters_40 ?_
  obtain ⟨a14, ea14, h⟩ := nm_some h
  have ra14 : R32 a14 := by rw [ea14]; exact w32_R _
  refine m_iadd (pc := 41) C dX8_enters_41 ea14 ?_
  refine m_iload_n (pc := 42) C dX8_enters_42 rfl (lv_at hl 5 rfl) ?_
  refine m_i2l (pc := 43) C rx3 dX8_enters_43 ?_
  obtain ⟨q15, h⟩ := ck_some h
  obtain ⟨μ16, eμ16, h⟩ := nm_some h
  refine m_last (pc := 44) C hM q15.1 q15.2.1  q15.2.2 (R32.to64 rx3) eμ16 dX8_enters_44 (fun H locs hM => ?_)
  refine m_aload_n (pc := 45) C dX8_enters_45 rfl (lv_at hl 2 rfl) ?_
  obtain ⟨q17, h⟩ := ck_some h
  refine G_X8_now (pc := 46) C hM bw_4_227 q17 dX8_enters_46 ?_
  refine m_iload (pc := 49) C dX8_enters_49 (lv_at hl 0 rfl) ?_
  refine m_iconst (pc := 51) C dX8_enters_51 ?_
  obtain ⟨a18, ea18, h⟩ := nm_some h
  have ra18 : R32 a18 := by rw [ea18]; exact w32_R _
  refine m_iadd (pc := 52) C dX8_enters_52 ea18 ?_
  refine m_iload (pc := 53) C dX8_enters_53 (lv_at hl 6 rfl) ?_
  refine m_i2l (pc := 55) C rx4 dX8_enters_55 ?_
  obtain ⟨q19, h⟩ := ck_some h
  obtain ⟨μ20, eμ20, h⟩ := nm_some h
  refine m_last (pc := 56) C hM q19.1 q19.2.1  q19.2.2 (R32.to64 rx4) eμ20 dX8_enters_56 (fun H locs hM => ?_)
  refine m_aload_n (pc := 57) C dX8_enters_57 rfl (lv_at hl 2 rfl) ?_
  obtain ⟨q21, h⟩ := ck_some h
  refine G_X8_now (pc := 58) C hM bw_4_227 q21 dX8_enters_58 ?_
  refine m_iload (pc := 61) C dX8_enters_61 (lv_at hl 0 rfl) ?_
  refine m_iconst (pc := 63) C dX8_enters_63 ?_
  obtain ⟨a22, ea22, h⟩ := nm_some h
  have ra22 : R32 a22 := by rw [ea22]; exact w32_R _
  refine m_iadd (pc := 64) C dX8_enters_64 ea22 ?_
  refine m_aload_n (pc := 65) C dX8_enters_65 rfl (lv_at hl 2 rfl) ?_
  obtain ⟨q23, h⟩ := ck_some h
  refine G_X8_now (pc := 66) C hM bw_4_227 q23 dX8_enters_66 ?_
  refine m_iconst (pc := 69) C dX8_enters_69 ?_
  obtain ⟨q24, h⟩ := ck_some h
  have gq24 := Ar_lald hM q24.1 q24.2.1 q24.2.2
  refine m_lald (pc := 70) C hM q24.1 q24.2.1 q24.2.2 dX8_enters_70 ?_
  obtain ⟨q25, h⟩ := ck_some h
  obtain ⟨μ26, eμ26, h⟩ := nm_some h
  refine m_last (pc := 71) C hM q25.1 q25.2.1  q25.2.2 gq24 eμ26 dX8_enters_71 (fun H locs hM => ?_)
  refine m_aload_n (pc := 72) C dX8_enters_72 rfl (lv_at hl 2 rfl) ?_
  obtain ⟨q27, h⟩ := ck_some h
  refine G_X8_now (pc := 73) C hM bw_4_227 q27 dX8_enters_73 ?_
  refine m_iload (pc := 76) C dX8_enters_76 (lv_at hl 0 rfl) ?_
  refine m_iconst (pc := 78) C dX8_enters_78 ?_
  obtain ⟨a28, ea28, h⟩ := nm_some h
  have ra28 : R32 a28 := by rw [ea28]; exact w32_R _
  refine m_iadd (pc := 79) C dX8_enters_79 ea28 ?_
  refine m_aload_n (pc := 80) C dX8_enters_80 rfl (lv_at hl 2 rfl) ?_
  obtain ⟨q29, h⟩ := ck_some h
  refine G_X8_now (pc := 81) C hM bw_4_227 q29 dX8_enters_81 ?_
  refine m_iconst (pc := 84) C dX8_enters_84 ?_
  obtain ⟨q30, h⟩ := ck_some h
  have gq30 := Ar_lald hM q30.1 q30.2.1 q30.2.2
  refine m_lald (pc := 85) C hM q30.1 q30.2.1 q30.2.2 dX8_enters_85 ?_
  refine m_aload_n (pc := 86) C dX8_enters_86 rfl (lv_at hl 2 rfl) ?_
  obtain ⟨q31, h⟩ := ck_some h
  refine G_X8_now (pc := 87) C hM bw_4_227 q31 dX8_enters_87 ?_
  refine m_iconst (pc := 90) C dX8_enters_90 ?_
  obtain ⟨q32, h⟩ := ck_some h
  have gq32 := Ar_lald hM q32.1 q32.2.1 q32.2.2
  refine m_lald (pc := 91) C hM q32.1 q32.2.1 q32.2.2 dX8_enters_91 ?_
  obtain ⟨a33, ea33, h⟩ := nm_some h
  have ra33 : R64 a33 := by rw [ea33]; exact w64_R _
  refine m_ladd (pc := 92) C dX8_enters_92 ea33 ?_
  obtain ⟨q34, h⟩ := ck_some h
  obtain ⟨μ35, eμ35, h⟩ := nm_some h
  refine m_last (pc := 93) C hM q34.1 q34.2.1  q34.2.2 ra33 eμ35 dX8_enters_93 (fun H locs hM => ?_)
  refine m_aload_n (pc := 94) C dX8_enters_94 rfl (lv_at hl 2 rfl) ?_
  obtain ⟨q36, h⟩ := ck_some h
  refine G_X8_now (pc := 95) C hM bw_4_227 q36 dX8_enters_95 ?_
  refine m_iload (pc := 98) C dX8_enters_98 (lv_at hl 0 rfl) ?_
  refine m_bipush (pc := 100) C dX8_enters_100 rfl ?_
  obtain ⟨a37, ea37, h⟩ := nm_some h
  have ra37 : R32 a37 := by rw [ea37]; exact w32_R _
  refine m_iadd (pc := 102) C dX8_enters_102 ea37 ?_
  refine m_iload (pc := 103) C dX8_enters_103 (lv_at hl 6 rfl) ?_
  refine m_i2l (pc := 105) C rx4 dX8_enters_105 ?_
  refine m_aload_n (pc := 106) C dX8_enters_106 rfl (lv_at hl 2 rfl) ?_
  obtain ⟨q38, h⟩ := ck_some h
  refine G_X8_now (pc := 107) C hM bw_4_227 q38 dX8_enters_107 ?_
  refine m_bipush (pc := 110) C dX8_enters_110 rfl ?_
  refine m_iload_n (pc := 112) C dX8_enters_112 rfl (lv_at hl 4 rfl) ?_
  obtain ⟨a39, ea39, h⟩ := nm_some h
  have ra39 : R32 a39 := by rw [ea39]; exact w32_R _
  refine m_iadd (pc := 113) C dX8_enters_113 ea39 ?_
  obtain ⟨q40, h⟩ := ck_some h
  have gq40 := Ar_lald hM q40.1 q40.2.1 q40.2.2
  refine m_lald (pc := 114) C hM q40.1 q40.2.1 q40.2.2 dX8_enters_114 ?_
  obtain ⟨a41, ea41, h⟩ := nm_some h
  have ra41 : R64 a41 := by rw [ea41]; exact w64_R _
  refine m_lmul (pc := 115) C dX8_enters_115 ea41 ?_
  refine m_ldc2 (n := 1000) (pc := 116) C bw_5_133 rfl dX8_enters_116 ?_
  obtain ⟨a42, ea42, h⟩ := nm_some h
  have ra42 : R64 a42 := by rw [ea42]; exact w64_R _
  refine m_ldiv (pc := 119) C ra41 rl_1000 (by decide) dX8_enters_119 ea42 ?_
  obtain ⟨q44, h⟩ := ck_some h
  obtain ⟨μ45, eμ45, h⟩ := nm_some h
  refine m_last (pc := 120) C hM q44.1 q44.2.1  q44.2.2 ra42 eμ45 dX8_enters_120 (fun H locs hM => ?_)
  refine m_bipush (pc := 121) C dX8_enters_121 rfl ?_
  refine m_istore (pc := 123) C dX8_enters_123 hl (by decide) (lvK2 0 rfl (Nat.ne_of_beq_eq_false rfl) rfl (lvK1 1 rfl (Nat.ne_of_beq_eq_false rfl) (Nat.ne_of_beq_eq_false rfl) (lvK1 2 rfl (Nat.ne_of_beq_eq_false rfl) (Nat.ne_of_beq_eq_false rfl) lvK0))) (fun ls hl => ?_)
  exact k_X8_enters_b125 C N N _ _ _ _ _ h ra2 ra4 rk_7 _ _ _ hM (lv_sub hl [3, 2, 1, 0] rfl)
theorem hd_X8_enters : yX8_enters.cls ≠ "java/lang/invoke/MethodHandle" ∧ yX8_enters.cls ≠ "java/lang/invoke/VarHandle" ∧ (parseMethodDescriptor yX8_enters.desc).map (fun d => d.parameters.length) = some 4 := by decide +kernel

theorem V_X8_enters {p : Program} {l : Launch} {e : Env} {R : Room} {s : State} {m : MethodId} {args : Array Value} {below : List Frame} {meth : Method} {c : Code} {H : Heap} {locs : List Loc} {cells slots : Nat} {Q : State → Prop} {cc : ByteArray} {pc nL : Nat} {ls : Array Slot} {rest : List Value} {ret : Option FieldType} {nmm own : String} {E : gE} {μ μ1 : Mm} {index : Nat} (C : gCx p s m args meth c cc nL ret nmm own) (hM : MS E μ s H locs) {N : Nat} {x0 x1 x2 x3 x4 v : Int} (hc : f_X8_enters N x0 x1 x2 x3 x4 μ = some (v, μ1)) (rx1 : R32 x1) (rx2 : R32 x2) (rx3 : R32 x3) (rx4 : R32 x4) (hck : μ x0 (-2) = 10) (h1 : Cond.methodLink own index yX8_enters ∈ bigL) (hR : 2 ≤ R.frames ∧ 48 ≤ R.locals) (hl : ls.size = nL) (hcat : RC rest 8) (hf : cells + 0 ≤ R.cells ∧ slots + 0 ≤ R.slots) (hdg : decode cc pc = .ok (.invokevirtual index, 3)) (kk : (R32 v) → ∀ (H1 : Heap) (locs1 : List Loc), MS E μ1 s H1 locs1 → W p l e R s m args below meth c H1 locs1 (cells + 0) (slots + 0) Q (F0 m (pc + 3) ls (vi v :: rest))) : W p l e R s m args below meth c H locs cells slots Q (F0 m pc ls (vi x4 :: vi x3 :: vi x2 :: vi x1 :: vr E x0 :: rest)) := g_callV C KF_X8 hM (c_X8_enters l E N x0 x1 x2 x3 x4 μ μ1 v hc rx1 rx2 rx3 rx4) hck (gV h1 bw_5_157 bs_33 bw_1_13 bw_5_158) ⟨rfl, hd_X8_enters⟩ hR rfl hl rfl hcat hf hdg kk
/-! X8_cash -/
def f_X8_cash (N : Nat) (x0 x1 : Int) (μ : Mm) : Rs :=
  ck (μ x0 (-2) = 10) <|
  ck (μ x0 (-2) = 10) <|
  bd (f_X8_lotAt N x1 μ) fun a3 μ4 =>
  ck (μ4 (μ x0 0) (-2) = 24 ∧ (0 : Int) ≤ a3 ∧ a3 < μ4 (μ x0 0) (-1)) <|
  nm (w32 (μ4 (μ x0 0) a3)) fun a6 =>
  bd (f_X8_ownerAt N a6 μ4) fun a7 μ8 =>
  ck (μ8 (μ x0 0) (-2) = 24 ∧ (0 : Int) ≤ a7 ∧ a7 < μ8 (μ x0 0) (-1)) <|
  some (μ8 (μ x0 0) a7, μ8)
set_option maxHeartbeats 4000000 in
set_option maxRecDepth 100000 in
theorem c_X8_cash (l : Launch) (E : gE) (N : Nat) (x0 x1 : Int) (μ μ' : Mm) (r : Int) (h : f_X8_cash N x0 x1 μ = some (r, μ')) (rx1 : R32 x1) : gMet l E yX8_cash cX8_cash 2 (some .long) 1 20 [vr E x0, vi x1] (some (vl r)) (R64 r) μ μ' 0 0 := by
  refine g_ofW [1, 1] (by first | (simp only [List.map_cons, List.map_nil, vr_cat]; done) | (simp only [List.map_cons, List.map_nil, vr_cat]; rfl)) (by decide) (by decide) (fun p e s m below meth c ls C hM hl => ?_)
  replace C : gCx p s m _ meth c cX8_cash 2 (some .long) "cash" RX8 := C
  replace hl : lv_has ls 2 [(0, vr E x0), (1, vi x1)] := hl
  unfold f_X8_cash at h
  refine m_aload_n (pc := 0) C dX8_cash_0 rfl (lv_at hl 0 rfl) ?_
  obtain ⟨q1, h⟩ := ck_some h
  refine G_X8_now (pc := 1) C hM bw_4_227 q1 dX8_cash_1 ?_
  refine m_aload_n (pc := 4) C dX8_cash_4 rfl (lv_at hl 0 rfl) ?_
  obtain ⟨q2, h⟩ := ck_some h
  refine G_X8_now (pc := 5) C hM bw_4_227 q2 dX8_cash_5 ?_
  refine m_iload_n (pc := 8) C dX8_cash_8 rfl (lv_at hl 1 rfl) ?_
  obtain ⟨a3, μ4, ca3, h⟩ := bd_some h
  refine V_X8_lotAt (pc := 9) C hM ca3 rx1 bw_5_87 ⟨Nat.le_of_ble_eq_true rfl, Nat.le_of_ble_eq_true rfl⟩ hl.1 (rcR (rcR rc0)) ⟨Nat.le_refl _, Nat.le_refl _⟩ dX8_cash_9 (fun ra3 H locs hM => ?_)
  obtain ⟨q5, h⟩ := ck_some h
  have gq5 := Ar_lald hM q5.1 q5.2.1 q5.2.2
  refine m_lald (pc := 12) C hM q5.1 q5.2.1 q5.2.2 dX8_cash_12 ?_
  obtain ⟨a6, ea6, h⟩ := nm_some h
  have ra6 : R32 a6 := by rw [ea6]; exact w32_R _
  refine m_l2i (pc := 13) C dX8_cash_13 ea6 ?_
  obtain ⟨a7, μ8, ca7, h⟩ := bd_some h
  refine V_X8_ownerAt (pc := 14) C hM ca7 ra6 bw_5_65 ⟨Nat.le_of_ble_eq_true rfl, Nat.le_of_ble_eq_true rfl⟩ hl.1 (rcR rc0) ⟨Nat.le_refl _, Nat.le_refl _⟩ dX8_cash_14 (fun ra7 H locs hM => ?_)
  obtain ⟨q9, h⟩ := ck_some h
  have gq9 := Ar_lald hM q9.1 q9.2.1 q9.2.2
  refine m_lald (pc := 17) C hM q9.1 q9.2.1 q9.2.2 dX8_cash_17 ?_
  cases h
  exact m_lret (pc := 18) C hM gq9 dX8_cash_18
theorem hd_X8_cash : yX8_cash.cls ≠ "java/lang/invoke/MethodHandle" ∧ yX8_cash.cls ≠ "java/lang/invoke/VarHandle" ∧ (parseMethodDescriptor yX8_cash.desc).map (fun d => d.parameters.length) = some 1 := by decide +kernel

theorem V_X8_cash {p : Program} {l : Launch} {e : Env} {R : Room} {s : State} {m : MethodId} {args : Array Value} {below : List Frame} {meth : Method} {c : Code} {H : Heap} {locs : List Loc} {cells slots : Nat} {Q : State → Prop} {cc : ByteArray} {pc nL : Nat} {ls : Array Slot} {rest : List Value} {ret : Option FieldType} {nmm own : String} {E : gE} {μ μ1 : Mm} {index : Nat} (C : gCx p s m args meth c cc nL ret nmm own) (hM : MS E μ s H locs) {N : Nat} {x0 x1 v : Int} (hc : f_X8_cash N x0 x1 μ = some (v, μ1)) (rx1 : R32 x1) (hck : μ x0 (-2) = 10) (h1 : Cond.methodLink own index yX8_cash ∈ bigL) (hR : 2 ≤ R.frames ∧ 41 ≤ R.locals) (hl : ls.size = nL) (hcat : RC rest 8) (hf : cells + 0 ≤ R.cells ∧ slots + 0 ≤ R.slots) (hdg : decode cc pc = .ok (.invokevirtual index, 3)) (kk : (R64 v) → ∀ (H1 : Heap) (locs1 : List Loc), MS E μ1 s H1 locs1 → W p l e R s m args below meth c H1 locs1 (cells + 0) (slots + 0) Q (F0 m (pc + 3) ls (vl v :: rest))) : W p l e R s m args below meth c H locs cells slots Q (F0 m pc ls (vi x1 :: vr E x0 :: rest)) := g_callV C KF_X8 hM (c_X8_cash l E N x0 x1 μ μ1 v hc rx1) hck (gV h1 bw_5_177 bs_37 bw_1_13 bw_5_178) ⟨rfl, hd_X8_cash⟩ hR rfl hl rfl hcat hf hdg kk
/-! X8_checkUnits -/
def f_X8_checkUnits (N : Nat) (x0 x1 x2 : Int) (μ : Mm) : Rs :=
  ck (μ x0 (-2) = 10) <|
  bd (f_X8_noLot N x0 x1 μ) fun a2 μ3 =>
  if a2 = 0 then
    (bd (f_X8_areUnits N x2 μ3) fun a5 μ6 =>
     if ¬ a5 = 0 then
       (ck (μ6 x0 (-2) = 10) <|
        bd (f_X8_units N x0 x1 μ6) fun a9 μ10 =>
        if x2 ≤ a9 then
          (some (0, μ10))
        else
        ck (μ10 x0 (-2) = 10) <|
        bd (f_X8_refuse N x0 4 μ10) fun a13 μ14 =>
        some (a13, μ14))
     else
     some ((-100000002), μ6))
  else
  some ((-100000001), μ3)
set_option maxHeartbeats 4000000 in
set_option maxRecDepth 100000 in
theorem c_X8_checkUnits (l : Launch) (E : gE) (N : Nat) (x0 x1 x2 : Int) (μ μ' : Mm) (r : Int) (h : f_X8_checkUnits N x0 x1 x2 μ = some (r, μ')) (rx1 : R32 x1) (rx2 : R32 x2) : gMet l E yX8_checkUnits cX8_checkUnits 3 (some .int) 2 46 [vr E x0, vi x1, vi x2] (some (vi r)) (R32 r) μ μ' 0 0 := by
  refine g_ofW [1, 1, 1] (by first | (simp only [List.map_cons, List.map_nil, vr_cat]; done) | (simp only [List.map_cons, List.map_nil, vr_cat]; rfl)) (by decide) (by decide) (fun p e s m below meth c ls C hM hl => ?_)
  replace C : gCx p s m _ meth c cX8_checkUnits 3 (some .int) "checkUnits" RX8 := C
  replace hl : lv_has ls 3 [(0, vr E x0), (1, vi x1), (2, vi x2)] := hl
  unfold f_X8_checkUnits at h
  refine m_aload_n (pc := 0) C dX8_checkUnits_0 rfl (lv_at hl 0 rfl) ?_
  refine m_iload_n (pc := 1) C dX8_checkUnits_1 rfl (lv_at hl 1 rfl) ?_
  obtain ⟨q1, h⟩ := ck_some h
  obtain ⟨a2, μ3, ca2, h⟩ := bd_some h
  refine V_X8_noLot (pc := 2) C hM ca2 rx1 q1 bw_5_171 ⟨Nat.le_of_ble_eq_true rfl, Nat.le_of_ble_eq_true rfl⟩ hl.1 rc0 ⟨Nat.le_refl _, Nat.le_refl _⟩ dX8_checkUnits_2 (fun ra2 H locs hM => ?_)
  refine m_if_eq (tgt := 11) (pc := 5) C ra2 dX8_checkUnits_5 (by decide) (fun c4 => ?_) (fun c4 => ?_)
  · have h := if_t h c4
    refine m_iload_n (pc := 11) C dX8_checkUnits_11 rfl (lv_at hl 2 rfl) ?_
    obtain ⟨a5, μ6, ca5, h⟩ := bd_some h
    refine V_X8_areUnits (pc := 12) C hM ca5 rx2 bw_5_151 ⟨Nat.le_of_ble_eq_true rfl, Nat.le_of_ble_eq_true rfl⟩ hl.1 rc0 ⟨Nat.le_refl _, Nat.le_refl _⟩ dX8_checkUnits_12 (fun ra5 H locs hM => ?_)
    refine m_if_ne (tgt := 21) (pc := 15) C ra5 dX8_checkUnits_15 (by decide) (fun c7 => ?_) (fun c7 => ?_)
    · have h := if_t h c7
      refine m_iload_n (pc := 21) C dX8_checkUnits_21 rfl (lv_at hl 2 rfl) ?_
      refine m_i2l (pc := 22) C rx2 dX8_checkUnits_22 ?_
      refine m_aload_n (pc := 23) C dX8_checkUnits_23 rfl (lv_at hl 0 rfl) ?_
      refine m_iload_n (pc := 24) C dX8_checkUnits_24 rfl (lv_at hl 1 rfl) ?_
      obtain ⟨q8, h⟩ := ck_some h
      obtain ⟨a9, μ10, ca9, h⟩ := bd_some h
      refine V_X8_units (pc := 25) C hM ca9 rx1 q8 bw_5_94 ⟨Nat.le_of_ble_eq_true rfl, Nat.le_of_ble_eq_true rfl⟩ hl.1 (rcL rc0) ⟨Nat.le_refl _, Nat.le_refl _⟩ dX8_checkUnits_25 (fun ra9 H locs hM => ?_)
      refine m_lcmp_le (tgt := 40) (pc := 28) C (R32.to64 rx2) ra9 dX8_checkUnits_28 dX8_checkUnits_29 (by decide) (fun c11 => ?_) (fun c11 => ?_)
      · have h := if_t h c11
        refine m_iconst (pc := 40) C dX8_checkUnits_40 ?_
        cases h
        exact m_iret (pc := 41) C hM rk_0 dX8_checkUnits_41
      · have h := if_f h c11
        refine m_aload_n (pc := 32) C dX8_checkUnits_32 rfl (lv_at hl 0 rfl) ?_
        refine m_iconst (pc := 33) C dX8_checkUnits_33 ?_
        obtain ⟨q12, h⟩ := ck_some h
        obtain ⟨a13, μ14, ca13, h⟩ := bd_some h
        refine V_X8_refuse (pc := 34) C hM ca13 rk_4 q12 bw_5_121 ⟨Nat.le_of_ble_eq_true rfl, Nat.le_of_ble_eq_true rfl⟩ hl.1 rc0 ⟨Nat.le_refl _, Nat.le_refl _⟩ dX8_checkUnits_34 (fun ra13 H locs hM => ?_)
        refine m_goto (tgt := 41) (pc := 37) C dX8_checkUnits_37 (by decide) ?_
        cases h
        exact m_iret (pc := 41) C hM ra13 dX8_checkUnits_41
    · have h := if_f h c7
      refine m_ldc (n := -100000002) (pc := 18) C bw_5_77 rfl dX8_checkUnits_18 ?_
      cases h
      exact m_iret (pc := 20) C hM rk_m100000002 dX8_checkUnits_20
  · have h := if_f h c4
    refine m_ldc (n := -100000001) (pc := 8) C bw_5_46 rfl dX8_checkUnits_8 ?_
    cases h
    exact m_iret (pc := 10) C hM rk_m100000001 dX8_checkUnits_10
theorem hd_X8_checkUnits : yX8_checkUnits.cls ≠ "java/lang/invoke/MethodHandle" ∧ yX8_checkUnits.cls ≠ "java/lang/invoke/VarHandle" ∧ (parseMethodDescriptor yX8_checkUnits.desc).map (fun d => d.parameters.length) = some 2 := by decide +kernel

theorem V_X8_checkUnits {p : Program} {l : Launch} {e : Env} {R : Room} {s : State} {m : MethodId} {args : Array Value} {below : List Frame} {meth : Method} {c : Code} {H : Heap} {locs : List Loc} {cells slots : Nat} {Q : State → Prop} {cc : ByteArray} {pc nL : Nat} {ls : Array Slot} {rest : List Value} {ret : Option FieldType} {nmm own : String} {E : gE} {μ μ1 : Mm} {index : Nat} (C : gCx p s m args meth c cc nL ret nmm own) (hM : MS E μ s H locs) {N : Nat} {x0 x1 x2 v : Int} (hc : f_X8_checkUnits N x0 x1 x2 μ = some (v, μ1)) (rx1 : R32 x1) (rx2 : R32 x2) (hck : μ x0 (-2) = 10) (h1 : Cond.methodLink own index yX8_checkUnits ∈ bigL) (hR : 3 ≤ R.frames ∧ 68 ≤ R.locals) (hl : ls.size = nL) (hcat : RC rest 8) (hf : cells + 0 ≤ R.cells ∧ slots + 0 ≤ R.slots) (hdg : decode cc pc = .ok (.invokevirtual index, 3)) (kk : (R32 v) → ∀ (H1 : Heap) (locs1 : List Loc), MS E μ1 s H1 locs1 → W p l e R s m args below meth c H1 locs1 (cells + 0) (slots + 0) Q (F0 m (pc + 3) ls (vi v :: rest))) : W p l e R s m args below meth c H locs cells slots Q (F0 m pc ls (vi x2 :: vi x1 :: vr E x0 :: rest)) := g_callV C KF_X8 hM (c_X8_checkUnits l E N x0 x1 x2 μ μ1 v hc rx1 rx2) hck (gV h1 bw_5_169 bs_35 bw_1_13 bw_5_170) ⟨rfl, hd_X8_checkUnits⟩ hR rfl hl rfl hcat hf hdg kk
/-! X8_checkRelease -/
def f_X8_checkRelease (N : Nat) (x0 x1 x2 : Int) (μ : Mm) : Rs :=
  ck (μ x0 (-2) = 10) <|
  bd (f_X8_checkUnits N x0 x1 x2 μ) fun a2 μ3 =>
  if 0 ≤ a2 then
    (ck (μ3 x0 (-2) = 10) <|
     bd (f_X8_dutyNow N x0 x1 x2 μ3) fun a6 μ7 =>
     ck (μ7 x0 (-2) = 10) <|
     bd (f_X8_cash N x0 x1 μ7) fun a9 μ10 =>
     if a6 ≤ a9 then
       (some (0, μ10))
     else
     ck (μ10 x0 (-2) = 10) <|
     bd (f_X8_refuse N x0 3 μ10) fun a13 μ14 =>
     some (a13, μ14))
  else
  some (a2, μ3)
set_option maxHeartbeats 4000000 in
set_option maxRecDepth 100000 in
theorem c_X8_checkRelease (l : Launch) (E : gE) (N : Nat) (x0 x1 x2 : Int) (μ μ' : Mm) (r : Int) (h : f_X8_checkRelease N x0 x1 x2 μ = some (r, μ')) (rx1 : R32 x1) (rx2 : R32 x2) : gMet l E yX8_checkRelease cX8_checkRelease 4 (some .int) 3 72 [vr E x0, vi x1, vi x2] (some (vi r)) (R32 r) μ μ' 0 0 := by
  refine g_ofW [1, 1, 1] (by first | (simp only [List.map_cons, List.map_nil, vr_cat]; done) | (simp only [List.map_cons, List.map_nil, vr_cat]; rfl)) (by decide) (by decide) (fun p e s m below meth c ls C hM hl => ?_)
  replace C : gCx p s m _ meth c cX8_checkRelease 4 (some .int) "checkRelease" RX8 := C
  replace hl : lv_has ls 4 [(0, vr E x0), (1, vi x1), (2, vi x2)] := hl
  unfold f_X8_checkRelease at h
  refine m_aload_n (pc := 0) C dX8_checkRelease_0 rfl (lv_at hl 0 rfl) ?_
  refine m_iload_n (pc := 1) C dX8_checkRelease_1 rfl (lv_at hl 1 rfl) ?_
  refine m_iload_n (pc := 2) C dX8_checkRelease_2 rfl (lv_at hl 2 rfl) ?_
  obtain ⟨q1, h⟩ := ck_some h
  obtain ⟨a2, μ3, ca2, h⟩ := bd_some h
  refine V_X8_checkUnits (pc := 3) C hM ca2 rx1 rx2 q1 bw_5_167 ⟨Nat.le_of_ble_eq_true rfl, Nat.le_of_ble_eq_true rfl⟩ hl.1 rc0 ⟨Nat.le_refl _, Nat.le_refl _⟩ dX8_checkRelease_3 (fun ra2 H locs hM => ?_)
  refine m_istore_n (pc := 6) C dX8_checkRelease_6 rfl hl (by decide) (lvK1 0 rfl (Nat.ne_of_beq_eq_false rfl) (Nat.ne_of_beq_eq_false rfl) (lvK1 1 rfl (Nat.ne_of_beq_eq_false rfl) (Nat.ne_of_beq_eq_false rfl) (lvK2 2 rfl (Nat.ne_of_beq_eq_false rfl) rfl lvK0))) (fun ls hl => ?_)
  refine m_iload_n (pc := 7) C dX8_checkRelease_7 rfl (lv_at hl 0 rfl) ?_
  refine m_if_ge (tgt := 15) (pc := 8) C ra2 dX8_checkRelease_8 (by decide) (fun c4 => ?_) (fun c4 => ?_)
  · have h := if_t h c4
    refine m_aload_n (pc := 15) C dX8_checkRelease_15 rfl (lv_at hl 1 rfl) ?_
    refine m_iload_n (pc := 16) C dX8_checkRelease_16 rfl (lv_at hl 2 rfl) ?_
    refine m_iload_n (pc := 17) C dX8_checkRelease_17 rfl (lv_at hl 3 rfl) ?_
    refine m_i2l (pc := 18) C rx2 dX8_checkRelease_18 ?_
    obtain ⟨q5, h⟩ := ck_some h
    obtain ⟨a6, μ7, ca6, h⟩ := bd_some h
    refine V_X8_dutyNow (pc := 19) C hM ca6 rx1 (R32.to64 rx2) q5 bw_5_98 ⟨Nat.le_of_ble_eq_true rfl, Nat.le_of_ble_eq_true rfl⟩ hl.1 rc0 ⟨Nat.le_refl _, Nat.le_refl _⟩ dX8_checkRelease_19 (fun ra6 H locs hM => ?_)
    refine m_aload_n (pc := 22) C dX8_checkRelease_22 rfl (lv_at hl 1 rfl) ?_
    refine m_iload_n (pc := 23) C dX8_checkRelease_23 rfl (lv_at hl 2 rfl) ?_
    obtain ⟨q8, h⟩ := ck_some h
    obtain ⟨a9, μ10, ca9, h⟩ := bd_some h
    refine V_X8_cash (pc := 24) C hM ca9 rx1 q8 bw_5_175 ⟨Nat.le_of_ble_eq_true rfl, Nat.le_of_ble_eq_true rfl⟩ hl.1 (rcL rc0) ⟨Nat.le_refl _, Nat.le_refl _⟩ dX8_checkRelease_24 (fun ra9 H locs hM => ?_)
    refine m_lcmp_le (tgt := 39) (pc := 27) C ra6 ra9 dX8_checkRelease_27 dX8_checkRelease_28 (by decide) (fun c11 => ?_) (fun c11 => ?_)
    · have h := if_t h c11
      refine m_iconst (pc := 39) C dX8_checkRelease_39 ?_
      cases h
      exact m_iret (pc := 40) C hM rk_0 dX8_checkRelease_40
    · have h := if_f h c11
      refine m_aload_n (pc := 31) C dX8_checkRelease_31 rfl (lv_at hl 1 rfl) ?_
      refine m_iconst (pc := 32) C dX8_checkRelease_32 ?_
      obtain ⟨q12, h⟩ := ck_some h
      obtain ⟨a13, μ14, ca13, h⟩ := bd_some h
      refine V_X8_refuse (pc := 33) C hM ca13 rk_3 q12 bw_5_121 ⟨Nat.le_of_ble_eq_true rfl, Nat.le_of_ble_eq_true rfl⟩ hl.1 rc0 ⟨Nat.le_refl _, Nat.le_refl _⟩ dX8_checkRelease_33 (fun ra13 H locs hM => ?_)
      refine m_goto (tgt := 40) (pc := 36) C dX8_checkRelease_36 (by decide) ?_
      cases h
      exact m_iret (pc := 40) C hM ra13 dX8_checkRelease_40
  · have h := if_f h c4
    refine m_iload_n (pc := 11) C dX8_checkRelease_11 rfl (lv_at hl 0 rfl) ?_
    refine m_goto (tgt := 40) (pc := 12) C dX8_checkRelease_12 (by decide) ?_
    cases h
    exact m_iret (pc := 40) C hM ra2 dX8_checkRelease_40
theorem hd_X8_checkRelease : yX8_checkRelease.cls ≠ "java/lang/invoke/MethodHandle" ∧ yX8_checkRelease.cls ≠ "java/lang/invoke/VarHandle" ∧ (parseMethodDescriptor yX8_checkRelease.desc).map (fun d => d.parameters.length) = some 2 := by decide +kernel

theorem V_X8_checkRelease {p : Program} {l : Launch} {e : Env} {R : Room} {s : State} {m : MethodId} {args : Array Value} {below : List Frame} {meth : Method} {c : Code} {H : Heap} {locs : List Loc} {cells slots : Nat} {Q : State → Prop} {cc : ByteArray} {pc nL : Nat} {ls : Array Slot} {rest : List Value} {ret : Option FieldType} {nmm own : String} {E : gE} {μ μ1 : Mm} {index : Nat} (C : gCx p s m args meth c cc nL ret nmm own) (hM : MS E μ s H locs) {N : Nat} {x0 x1 x2 v : Int} (hc : f_X8_checkRelease N x0 x1 x2 μ = some (v, μ1)) (rx1 : R32 x1) (rx2 : R32 x2) (hck : μ x0 (-2) = 10) (h1 : Cond.methodLink own index yX8_checkRelease ∈ bigL) (hR : 4 ≤ R.frames ∧ 95 ≤ R.locals) (hl : ls.size = nL) (hcat : RC rest 8) (hf : cells + 0 ≤ R.cells ∧ slots + 0 ≤ R.slots) (hdg : decode cc pc = .ok (.invokevirtual index, 3)) (kk : (R32 v) → ∀ (H1 : Heap) (locs1 : List Loc), MS E μ1 s H1 locs1 → W p l e R s m args below meth c H1 locs1 (cells + 0) (slots + 0) Q (F0 m (pc + 3) ls (vi v :: rest))) : W p l e R s m args below meth c H locs cells slots Q (F0 m pc ls (vi x2 :: vi x1 :: vr E x0 :: rest)) := g_callV C KF_X8 hM (c_X8_checkRelease l E N x0 x1 x2 μ μ1 v hc rx1 rx2) hck (gV h1 bw_5_165 bs_34 bw_1_13 bw_5_166) ⟨rfl, hd_X8_checkRelease⟩ hR rfl hl rfl hcat hf hdg kk
/-! X8_releases -/
def f_X8_releases (N : Nat) (x0 x1 x2 : Int) (μ : Mm) : Rs :=
  ck (μ x0 (-2) = 10) <|
  bd (f_X8_dutyNow N x0 x1 x2 μ) fun a2 μ3 =>
  ck (μ3 x0 (-2) = 10) <|
  bd (f_X8_take N x0 x1 x2 μ3) fun a5 μ6 =>
  ck (μ6 x0 (-2) = 10) <|
  bd (f_X8_pay N x0 x1 a2 μ6) fun a8 μ9 =>
  nm (w32 a2) fun a10 =>
  some (a10, μ9)
set_option maxHeartbeats 4000000 in
set_option maxRecDepth 100000 in
theorem c_X8_releases (l : Launch) (E : gE) (N : Nat) (x0 x1 x2 : Int) (μ μ' : Mm) (r : Int) (h : f_X8_releases N x0 x1 x2 μ = some (r, μ')) (rx1 : R32 x1) (rx2 : R32 x2) : gMet l E yX8_releases cX8_releases 5 (some .int) 3 72 [vr E x0, vi x1, vi x2] (some (vi r)) (R32 r) μ μ' 0 0 := by
  refine g_ofW [1, 1, 1] (by first | (simp only [List.map_cons, List.map_nil, vr_cat]; done) | (simp only [List.map_cons, List.map_nil, vr_cat]; rfl)) (by decide) (by decide) (fun p e s m below meth c ls C hM hl => ?_)
  replace C : gCx p s m _ meth c cX8_releases 5 (some .int) "releases" RX8 := C
  replace hl : lv_has ls 5 [(0, vr E x0), (1, vi x1), (2, vi x2)] := hl
  unfold f_X8_releases at h
  refine m_aload_n (pc := 0) C dX8_releases_0 rfl (lv_at hl 0 rfl) ?_
  refine m_iload_n (pc := 1) C dX8_releases_1 rfl (lv_at hl 1 rfl) ?_
  refine m_iload_n (pc := 2) C dX8_releases_2 rfl (lv_at hl 2 rfl) ?_
  refine m_i2l (pc := 3) C rx2 dX8_releases_3 ?_
  obtain ⟨q1, h⟩ := ck_some h
  obtain ⟨a2, μ3, ca2, h⟩ := bd_some h
  refine V_X8_dutyNow (pc := 4) C hM ca2 rx1 (R32.to64 rx2) q1 bw_5_98 ⟨Nat.le_of_ble_eq_true rfl, Nat.le_of_ble_eq_true rfl⟩ hl.1 rc0 ⟨Nat.le_refl _, Nat.le_refl _⟩ dX8_releases_4 (fun ra2 H locs hM => ?_)
  refine m_lstore_n (pc := 7) C dX8_releases_7 rfl hl (by decide) (lvK1 0 rfl (Nat.ne_of_beq_eq_false rfl) (Nat.ne_of_beq_eq_false rfl) (lvK1 1 rfl (Nat.ne_of_beq_eq_false rfl) (Nat.ne_of_beq_eq_false rfl) (lvK2 2 rfl (Nat.ne_of_beq_eq_false rfl) rfl lvK0))) (lvN1 (Nat.ne_of_beq_eq_false rfl) (lvN1 (Nat.ne_of_beq_eq_false rfl) (lvN1 (Nat.ne_of_beq_eq_false rfl) lvN0))) (fun ls hl => ?_)
  refine m_aload_n (pc := 8) C dX8_releases_8 rfl (lv_at hl 1 rfl) ?_
  refine m_iload_n (pc := 9) C dX8_releases_9 rfl (lv_at hl 2 rfl) ?_
  refine m_iload_n (pc := 10) C dX8_releases_10 rfl (lv_at hl 3 rfl) ?_
  refine m_i2l (pc := 11) C rx2 dX8_releases_11 ?_
  obtain ⟨q4, h⟩ := ck_some h
  obtain ⟨a5, μ6, ca5, h⟩ := bd_some h
  refine V_X8_take (pc := 12) C hM ca5 rx1 (R32.to64 rx2) q4 bw_5_183 ⟨Nat.le_of_ble_eq_true rfl, Nat.le_of_ble_eq_true rfl⟩ hl.1 rc0 ⟨Nat.le_refl _, Nat.le_refl _⟩ dX8_releases_12 (fun _ H locs hM => ?_)
  refine m_aload_n (pc := 15) C dX8_releases_15 rfl (lv_at hl 1 rfl) ?_
  refine m_iload_n (pc := 16) C dX8_releases_16 rfl (lv_at hl 2 rfl) ?_
  refine m_lload_n (pc := 17) C dX8_releases_17 rfl (lv_at hl 0 rfl) ?_
  obtain ⟨q7, h⟩ := ck_some h
  obtain ⟨a8, μ9, ca8, h⟩ := bd_some h
  refine V_X8_pay (pc := 18) C hM ca8 rx1 ra2 q7 bw_5_187 ⟨Nat.le_of_ble_eq_true rfl, Nat.le_of_ble_eq_true rfl⟩ hl.1 rc0 ⟨Nat.le_refl _, Nat.le_refl _⟩ dX8_releases_18 (fun _ H locs hM => ?_)
  refine m_lload_n (pc := 21) C dX8_releases_21 rfl (lv_at hl 0 rfl) ?_
  obtain ⟨a10, ea10, h⟩ := nm_some h
  have ra10 : R32 a10 := by rw [ea10]; exact w32_R _
  refine m_l2i (pc := 22) C dX8_releases_22 ea10 ?_
  cases h
  exact m_iret (pc := 23) C hM ra10 dX8_releases_23
theorem hd_X8_releases : yX8_releases.cls ≠ "java/lang/invoke/MethodHandle" ∧ yX8_releases.cls ≠ "java/lang/invoke/VarHandle" ∧ (parseMethodDescriptor yX8_releases.desc).map (fun d => d.parameters.length) = some 2 := by decide +kernel

theorem V_X8_releases {p : Program} {l : Launch} {e : Env} {R : Room} {s : State} {m : MethodId} {args : Array Value} {below : List Frame} {meth : Method} {c : Code} {H : Heap} {locs : List Loc} {cells slots : Nat} {Q : State → Prop} {cc : ByteArray} {pc nL : Nat} {ls : Array Slot} {rest : List Value} {ret : Option FieldType} {nmm own : String} {E : gE} {μ μ1 : Mm} {index : Nat} (C : gCx p s m args meth c cc nL ret nmm own) (hM : MS E μ s H locs) {N : Nat} {x0 x1 x2 v : Int} (hc : f_X8_releases N x0 x1 x2 μ = some (v, μ1)) (rx1 : R32 x1) (rx2 : R32 x2) (hck : μ x0 (-2) = 10) (h1 : Cond.methodLink own index yX8_releases ∈ bigL) (hR : 4 ≤ R.frames ∧ 96 ≤ R.locals) (hl : ls.size = nL) (hcat : RC rest 8) (hf : cells + 0 ≤ R.cells ∧ slots + 0 ≤ R.slots) (hdg : decode cc pc = .ok (.invokevirtual index, 3)) (kk : (R32 v) → ∀ (H1 : Heap) (locs1 : List Loc), MS E μ1 s H1 locs1 → W p l e R s m args below meth c H1 locs1 (cells + 0) (slots + 0) Q (F0 m (pc + 3) ls (vi v :: rest))) : W p l e R s m args below meth c H locs cells slots Q (F0 m pc ls (vi x2 :: vi x1 :: vr E x0 :: rest)) := g_callV C KF_X8 hM (c_X8_releases l E N x0 x1 x2 μ μ1 v hc rx1 rx2) hck (gV h1 bw_5_181 bs_38 bw_1_13 bw_5_182) ⟨rfl, hd_X8_releases⟩ hR rfl hl rfl hcat hf hdg kk
/-! X8_free -/
def f_X8_free (N : Nat) (x0 x1 x2 : Int) (μ : Mm) : Rs :=
  ck (μ x0 (-2) = 10) <|
  bd (f_X8_lotAt N x1 μ) fun a2 μ3 =>
  nm (w32 (a2 + 2)) fun a4 =>
  ck (μ3 (μ x0 0) (-2) = 24 ∧ (0 : Int) ≤ a4 ∧ a4 < μ3 (μ x0 0) (-1)) <|
  ck (μ3 x0 (-2) = 10) <|
  ck (μ3 (μ3 x0 0) (-2) = 24 ∧ (0 : Int) ≤ 8 ∧ 8 < μ3 (μ3 x0 0) (-1)) <|
  nm (w64 ((μ3 (μ x0 0) a4) * (μ3 (μ3 x0 0) 8))) fun a8 =>
  nm (w64 (Int.tdiv a8 1000)) fun a9 =>
  ck (μ3 x0 (-2) = 10) <|
  bd (f_X8_lotAt N x1 μ3) fun a12 μ13 =>
  nm (w32 (a12 + 10)) fun a14 =>
  ck (μ13 (μ3 x0 0) (-2) = 24 ∧ (0 : Int) ≤ a14 ∧ a14 < μ13 (μ3 x0 0) (-1)) <|
  nm (w64 (a9 - (μ13 (μ3 x0 0) a14))) fun a16 =>
  if 0 ≤ a16 then
    (if x2 ≤ a16 then
       (some (x2, μ13))
     else
     some (a16, μ13))
  else
  some (0, μ13)
set_option maxHeartbeats 4000000 in
set_option maxRecDepth 100000 in
theorem c_X8_free (l : Launch) (E : gE) (N : Nat) (x0 x1 x2 : Int) (μ μ' : Mm) (r : Int) (h : f_X8_free N x0 x1 x2 μ = some (r, μ')) (rx1 : R32 x1) (rx2 : R64 x2) : gMet l E yX8_free cX8_free 6 (some .long) 1 20 [vr E x0, vi x1, vl x2] (some (vl r)) (R64 r) μ μ' 0 0 := by
  refine g_ofW [1, 1, 2] (by first | (simp only [List.map_cons, List.map_nil, vr_cat]; done) | (simp only [List.map_cons, List.map_nil, vr_cat]; rfl)) (by decide) (by decide) (fun p e s m below meth c ls C hM hl => ?_)
  replace C : gCx p s m _ meth c cX8_free 6 (some .long) "free" RX8 := C
  replace hl : lv_has ls 6 [(0, vr E x0), (1, vi x1), (2, vl x2)] := hl
  unfold f_X8_free at h
  refine m_aload_n (pc := 0) C dX8_free_0 rfl (lv_at hl 0 rfl) ?_
  obtain ⟨q1, h⟩ := ck_some h
  refine G_X8_now (pc := 1) C hM bw_4_227 q1 dX8_free_1 ?_
  refine m_iload_n (pc := 4) C dX8_free_4 rfl (lv_at hl 1 rfl) ?_
  obtain ⟨a2, μ3, ca2, h⟩ := bd_some h
  refine V_X8_lotAt (pc := 5) C hM ca2 rx1 bw_5_87 ⟨Nat.le_of_ble_eq_true rfl, Nat.le_of_ble_eq_true rfl⟩ hl.1 (rcR rc0) ⟨Nat.le_refl _, Nat.le_refl _⟩ dX8_free_5 (fun ra2 H locs hM => ?_)
  refine m_iconst (pc := 8) C dX8_free_8 ?_
  obtain ⟨a4, ea4, h⟩ := nm_some h
  have ra4 : R32 a4 := by rw [ea4]; exact w32_R _
  refine m_iadd (pc := 9) C dX8_free_9 ea4 ?_
  obtain ⟨q5, h⟩ := ck_some h
  have gq5 := Ar_lald hM q5.1 q5.2.1 q5.2.2
  refine m_lald (pc := 10) C hM q5.1 q5.2.1 q5.2.2 dX8_free_10 ?_
  refine m_aload_n (pc := 11) C dX8_free_11 rfl (lv_at hl 0 rfl) ?_
  obtain ⟨q6, h⟩ := ck_some h
  refine G_X8_now (pc := 12) C hM bw_4_227 q6 dX8_free_12 ?_
  refine m_bipush (pc := 15) C dX8_free_15 rfl ?_
  obtain ⟨q7, h⟩ := ck_some h
  have gq7 := Ar_lald hM q7.1 q7.2.1 q7.2.2
  refine m_lald (pc := 17) C hM q7.1 q7.2.1 q7.2.2 dX8_free_17 ?_
  obtain ⟨a8, ea8, h⟩ := nm_some h
  have ra8 : R64 a8 := by rw [ea8]; exact w64_R _
  refine m_lmul (pc := 18) C dX8_free_18 ea8 ?_
  refine m_ldc2 (n := 1000) (pc := 19) C bw_5_133 rfl dX8_free_19 ?_
  obtain ⟨a9, ea9, h⟩ := nm_some h
  have ra9 : R64 a9 := by rw [ea9]; exact w64_R _
  refine m_ldiv (pc := 22) C ra8 rl_1000 (by decide) dX8_free_22 ea9 ?_
  refine m_aload_n (pc := 23) C dX8_free_23 rfl (lv_at hl 0 rfl) ?_
  obtain ⟨q11, h⟩ := ck_some h
  refine G_X8_now (pc := 24) C hM bw_4_227 q11 dX8_free_24 ?_
  refine m_iload_n (pc := 27) C dX8_free_27 rfl (lv_at hl 1 rfl) ?_
  obtain ⟨a12, μ13, ca12, h⟩ := bd_some h
  refine V_X8_lotAt (pc := 28) C hM ca12 rx1 bw_5_87 ⟨Nat.le_of_ble_eq_true rfl, Nat.le_of_ble_eq_true rfl⟩ hl.1 (rcR (rcL rc0)) ⟨Nat.le_refl _, Nat.le_refl _⟩ dX8_free_28 (fun ra12 H locs hM => ?_)
  refine m_bipush (pc := 31) C dX8_free_31 rfl ?_
  obtain ⟨a14, ea14, h⟩ := nm_some h
  have ra14 : R32 a14 := by rw [ea14]; exact w32_R _
  refine m_iadd (pc := 33) C dX8_free_33 ea14 ?_
  obtain ⟨q15, h⟩ := ck_some h
  have gq15 := Ar_lald hM q15.1 q15.2.1 q15.2.2
  refine m_lald (pc := 34) C hM q15.1 q15.2.1 q15.2.2 dX8_free_34 ?_
  obtain ⟨a16, ea16, h⟩ := nm_some h
  have ra16 : R64 a16 := by rw [ea16]; exact w64_R _
  refine m_lsub (pc := 35) C dX8_free_35 ea16 ?_
  refine m_lstore (pc := 36) C dX8_free_36 hl (by decide) (lvK1 2 rfl (Nat.ne_of_beq_eq_false rfl) (Nat.ne_of_beq_eq_false rfl) lvK0) (lvN1 (Nat.ne_of_beq_eq_false rfl) lvN0) (fun ls hl => ?_)
  refine m_lload (pc := 38) C dX8_free_38 (lv_at hl 0 rfl) ?_
  refine m_lconst (v := 0) (pc := 40) C dX8_free_40 rfl ?_
  refine m_lcmp_ge (tgt := 49) (pc := 41) C ra16 rl_0 dX8_free_41 dX8_free_42 (by decide) (fun c17 => ?_) (fun c17 => ?_)
  · have h := if_t h c17
    refine m_lload (pc := 49) C dX8_free_49 (lv_at hl 0 rfl) ?_
    refine m_lload_n (pc := 51) C dX8_free_51 rfl (lv_at hl 1 rfl) ?_
    refine m_lcmp_ge (tgt := 61) (pc := 52) C ra16 rx2 dX8_free_52 dX8_free_53 (by decide) (fun c18 => ?_) (fun c18 => ?_)
    · have h := if_t h c18
      refine m_lload_n (pc := 61) C dX8_free_61 rfl (lv_at hl 1 rfl) ?_
      cases h
      exact m_lret (pc := 62) C hM rx2 dX8_free_62
    · have h := if_f h c18
      refine m_lload (pc := 56) C dX8_free_56 (lv_at hl 0 rfl) ?_
      refine m_goto (tgt := 62) (pc := 58) C dX8_free_58 (by decide) ?_
      cases h
      exact m_lret (pc := 62) C hM ra16 dX8_free_62
  · have h := if_f h c17
    refine m_lconst (v := 0) (pc := 45) C dX8_free_45 rfl ?_
    refine m_goto (tgt := 62) (pc := 46) C dX8_free_46 (by decide) ?_
    cases h
    exact m_lret (pc := 62) C hM rl_0 dX8_free_62
theorem hd_X8_free : yX8_free.cls ≠ "java/lang/invoke/MethodHandle" ∧ yX8_free.cls ≠ "java/lang/invoke/VarHandle" ∧ (parseMethodDescriptor yX8_free.desc).map (fun d => d.parameters.length) = some 2 := by decide +kernel

theorem V_X8_free {p : Program} {l : Launch} {e : Env} {R : Room} {s : State} {m : MethodId} {args : Array Value} {below : List Frame} {meth : Method} {c : Code} {H : Heap} {locs : List Loc} {cells slots : Nat} {Q : State → Prop} {cc : ByteArray} {pc nL : Nat} {ls : Array Slot} {rest : List Value} {ret : Option FieldType} {nmm own : String} {E : gE} {μ μ1 : Mm} {index : Nat} (C : gCx p s m args meth c cc nL ret nmm own) (hM : MS E μ s H locs) {N : Nat} {x0 x1 x2 v : Int} (hc : f_X8_free N x0 x1 x2 μ = some (v, μ1)) (rx1 : R32 x1) (rx2 : R64 x2) (hck : μ x0 (-2) = 10) (h1 : Cond.methodLink own index yX8_free ∈ bigL) (hR : 2 ≤ R.frames ∧ 45 ≤ R.locals) (hl : ls.size = nL) (hcat : RC rest 8) (hf : cells + 0 ≤ R.cells ∧ slots + 0 ≤ R.slots) (hdg : decode cc pc = .ok (.invokevirtual index, 3)) (kk : (R64 v) → ∀ (H1 : Heap) (locs1 : List Loc), MS E μ1 s H1 locs1 → W p l e R s m args below meth c H1 locs1 (cells + 0) (slots + 0) Q (F0 m (pc + 3) ls (vl v :: rest))) : W p l e R s m args below meth c H locs cells slots Q (F0 m pc ls (vl x2 :: vi x1 :: vr E x0 :: rest)) := g_callV C KF_X8 hM (c_X8_free l E N x0 x1 x2 μ μ1 v hc rx1 rx2) hck (gV h1 bw_5_205 bs_43 bw_1_13 bw_5_206) ⟨rfl, hd_X8_free⟩ hR rfl hl rfl hcat hf hdg kk
/-! X8_paidFor -/
def f_X8_paidFor (N : Nat) (x0 x1 x2 : Int) (μ : Mm) : Rs :=
  ck (μ x0 (-2) = 10) <|
  bd (f_X8_free N x0 x1 x2 μ) fun a2 μ3 =>
  ck (μ3 x0 (-2) = 10) <|
  bd (f_X8_lotAt N x1 μ3) fun a5 μ6 =>
  nm (w32 (a5 + 7)) fun a7 =>
  ck (μ6 (μ3 x0 0) (-2) = 24 ∧ (0 : Int) ≤ a7 ∧ a7 < μ6 (μ3 x0 0) (-1)) <|
  nm (w64 ((μ6 (μ3 x0 0) a7) + a2)) fun a9 =>
  nm (w64 (x2 - a2)) fun a10 =>
  ck (μ6 x0 (-2) = 10) <|
  bd (f_X8_duty N x0 x1 a9 a10 μ6) fun a12 μ13 =>
  some (a12, μ13)
set_option maxHeartbeats 4000000 in
set_option maxRecDepth 100000 in
theorem c_X8_paidFor (l : Launch) (E : gE) (N : Nat) (x0 x1 x2 : Int) (μ μ' : Mm) (r : Int) (h : f_X8_paidFor N x0 x1 x2 μ = some (r, μ')) (rx1 : R32 x1) (rx2 : R64 x2) : gMet l E yX8_paidFor cX8_paidFor 6 (some .long) 2 49 [vr E x0, vi x1, vl x2] (some (vl r)) (R64 r) μ μ' 0 0 := by
  refine g_ofW [1, 1, 2] (by first | (simp only [List.map_cons, List.map_nil, vr_cat]; done) | (simp only [List.map_cons, List.map_nil, vr_cat]; rfl)) (by decide) (by decide) (fun p e s m below meth c ls C hM hl => ?_)
  replace C : gCx p s m _ meth c cX8_paidFor 6 (some .long) "paidFor" RX8 := C
  replace hl : lv_has ls 6 [(0, vr E x0), (1, vi x1), (2, vl x2)] := hl
  unfold f_X8_paidFor at h
  refine m_aload_n (pc := 0) C dX8_paidFor_0 rfl (lv_at hl 0 rfl) ?_
  refine m_iload_n (pc := 1) C dX8_paidFor_1 rfl (lv_at hl 1 rfl) ?_
  refine m_lload_n (pc := 2) C dX8_paidFor_2 rfl (lv_at hl 2 rfl) ?_
  obtain ⟨q1, h⟩ := ck_some h
  obtain ⟨a2, μ3, ca2, h⟩ := bd_some h
  refine V_X8_free (pc := 3) C hM ca2 rx1 rx2 q1 bw_5_203 ⟨Nat.le_of_ble_eq_true rfl, Nat.le_of_ble_eq_true rfl⟩ hl.1 rc0 ⟨Nat.le_refl _, Nat.le_refl _⟩ dX8_paidFor_3 (fun ra2 H locs hM => ?_)
  refine m_lstore (pc := 6) C dX8_paidFor_6 hl (by decide) (lvK1 0 rfl (Nat.ne_of_beq_eq_false rfl) (Nat.ne_of_beq_eq_false rfl) (lvK1 1 rfl (Nat.ne_of_beq_eq_false rfl) (Nat.ne_of_beq_eq_false rfl) (lvK1 2 rfl (Nat.ne_of_beq_eq_false rfl) (Nat.ne_of_beq_eq_false rfl) lvK0))) (lvN1 (Nat.ne_of_beq_eq_false rfl) (lvN1 (Nat.ne_of_beq_eq_false rfl) (lvN1 (Nat.ne_of_beq_eq_false rfl) lvN0))) (fun ls hl => ?_)
  refine m_aload_n (pc := 8) C dX8_paidFor_8 rfl (lv_at hl 1 rfl) ?_
  refine m_iload_n (pc := 9) C dX8_paidFor_9 rfl (lv_at hl 2 rfl) ?_
  refine m_aload_n (pc := 10) C dX8_paidFor_10 rfl (lv_at hl 1 rfl) ?_
  obtain ⟨q4, h⟩ := ck_some h
  refine G_X8_now (pc := 11) C hM bw_4_227 q4 dX8_paidFor_11 ?_
  refine m_iload_n (pc := 14) C dX8_paidFor_14 rfl (lv_at hl 2 rfl) ?_
  obtain ⟨a5, μ6, ca5, h⟩ := bd_some h
  refine V_X8_lotAt (pc := 15) C hM ca5 rx1 bw_5_87 ⟨Nat.le_of_ble_eq_true rfl, Nat.le_of_ble_eq_true rfl⟩ hl.1 (rcR (rcI (rcR rc0))) ⟨Nat.le_refl _, Nat.le_refl _⟩ dX8_paidFor_15 (fun ra5 H locs hM => ?_)
  refine m_bipush (pc := 18) C dX8_paidFor_18 rfl ?_
  obtain ⟨a7, ea7, h⟩ := nm_some h
  have ra7 : R32 a7 := by rw [ea7]; exact w32_R _
  refine m_iadd (pc := 20) C dX8_paidFor_20 ea7 ?_
  obtain ⟨q8, h⟩ := ck_some h
  have gq8 := Ar_lald hM q8.1 q8.2.1 q8.2.2
  refine m_lald (pc := 21) C hM q8.1 q8.2.1 q8.2.2 dX8_paidFor_21 ?_
  refine m_lload (pc := 22) C dX8_paidFor_22 (lv_at hl 0 rfl) ?_
  obtain ⟨a9, ea9, h⟩ := nm_some h
  have ra9 : R64 a9 := by rw [ea9]; exact w64_R _
  refine m_ladd (pc := 24) C dX8_paidFor_24 ea9 ?_
  refine m_lload_n (pc := 25) C dX8_paidFor_25 rfl (lv_at hl 3 rfl) ?_
  refine m_lload (pc := 26) C dX8_paidFor_26 (lv_at hl 0 rfl) ?_
  obtain ⟨a10, ea10, h⟩ := nm_some h
  have ra10 : R64 a10 := by rw [ea10]; exact w64_R _
  refine m_lsub (pc := 28) C dX8_paidFor_28 ea10 ?_
  obtain ⟨q11, h⟩ := ck_some h
  obtain ⟨a12, μ13, ca12, h⟩ := bd_some h
  refine V_X8_duty (pc := 29) C hM ca12 rx1 ra9 ra10 q11 bw_5_102 ⟨Nat.le_of_ble_eq_true rfl, Nat.le_of_ble_eq_true rfl⟩ hl.1 rc0 ⟨Nat.le_refl _, Nat.le_refl _⟩ dX8_paidFor_29 (fun ra12 H locs hM => ?_)
  cases h
  exact m_lret (pc := 32) C hM ra12 dX8_paidFor_32
theorem hd_X8_paidFor : yX8_paidFor.cls ≠ "java/lang/invoke/MethodHandle" ∧ yX8_paidFor.cls ≠ "java/lang/invoke/VarHandle" ∧ (parseMethodDescriptor yX8_paidFor.desc).map (fun d => d.parameters.length) = some 2 := by decide +kernel

theorem V_X8_paidFor {p : Program} {l : Launch} {e : Env} {R : Room} {s : State} {m : MethodId} {args : Array Value} {below : List Frame} {meth : Method} {c : Code} {H : Heap} {locs : List Loc} {cells slots : Nat} {Q : State → Prop} {cc : ByteArray} {pc nL : Nat} {ls : Array Slot} {rest : List Value} {ret : Option FieldType} {nmm own : String} {E : gE} {μ μ1 : Mm} {index : Nat} (C : gCx p s m args meth c cc nL ret nmm own) (hM : MS E μ s H locs) {N : Nat} {x0 x1 x2 v : Int} (hc : f_X8_paidFor N x0 x1 x2 μ = some (v, μ1)) (rx1 : R32 x1) (rx2 : R64 x2) (hck : μ x0 (-2) = 10) (h1 : Cond.methodLink own index yX8_paidFor ∈ bigL) (hR : 3 ≤ R.frames ∧ 74 ≤ R.locals) (hl : ls.size = nL) (hcat : RC rest 8) (hf : cells + 0 ≤ R.cells ∧ slots + 0 ≤ R.slots) (hdg : decode cc pc = .ok (.invokevirtual index, 3)) (kk : (R64 v) → ∀ (H1 : Heap) (locs1 : List Loc), MS E μ1 s H1 locs1 → W p l e R s m args below meth c H1 locs1 (cells + 0) (slots + 0) Q (F0 m (pc + 3) ls (vl v :: rest))) : W p l e R s m args below meth c H locs cells slots Q (F0 m pc ls (vl x2 :: vi x1 :: vr E x0 :: rest)) := g_callV C KF_X8 hM (c_X8_paidFor l E N x0 x1 x2 μ μ1 v hc rx1 rx2) hck (gV h1 bw_5_201 bs_42 bw_1_13 bw_5_202) ⟨rfl, hd_X8_paidFor⟩ hR rfl hl rfl hcat hf hdg kk
/-! X8_checkSample -/
def f_X8_checkSample (N : Nat) (x0 x1 x2 : Int) (μ : Mm) : Rs :=
  ck (μ x0 (-2) = 10) <|
  bd (f_X8_checkUnits N x0 x1 x2 μ) fun a2 μ3 =>
  if 0 ≤ a2 then
    (ck (μ3 x0 (-2) = 10) <|
     bd (f_X8_paidFor N x0 x1 x2 μ3) fun a6 μ7 =>
     ck (μ7 x0 (-2) = 10) <|
     bd (f_X8_cash N x0 x1 μ7) fun a9 μ10 =>
     if a6 ≤ a9 then
       (some (0, μ10))
     else
     ck (μ10 x0 (-2) = 10) <|
     bd (f_X8_refuse N x0 3 μ10) fun a13 μ14 =>
     some (a13, μ14))
  else
  some (a2, μ3)
set_option maxHeartbeats 4000000 in
set_option maxRecDepth 100000 in
theorem c_X8_checkSample (l : Launch) (E : gE) (N : Nat) (x0 x1 x2 : Int) (μ μ' : Mm) (r : Int) (h : f_X8_checkSample N x0 x1 x2 μ = some (r, μ')) (rx1 : R32 x1) (rx2 : R32 x2) : gMet l E yX8_checkSample cX8_checkSample 4 (some .int) 3 74 [vr E x0, vi x1, vi x2] (some (vi r)) (R32 r) μ μ' 0 0 := by
  refine g_ofW [1, 1, 1] (by first | (simp only [List.map_cons, List.map_nil, vr_cat]; done) | (simp only [List.map_cons, List.map_nil, vr_cat]; rfl)) (by decide) (by decide) (fun p e s m below meth c ls C hM hl => ?_)
  replace C : gCx p s m _ meth c cX8_checkSample 4 (some .int) "checkSample" RX8 := C
  replace hl : lv_has ls 4 [(0, vr E x0), (1, vi x1), (2, vi x2)] := hl
  unfold f_X8_checkSample at h
  refine m_aload_n (pc := 0) C dX8_checkSample_0 rfl (lv_at hl 0 rfl) ?_
  refine m_iload_n (pc := 1) C dX8_checkSample_1 rfl (lv_at hl 1 rfl) ?_
  refine m_iload_n (pc := 2) C dX8_checkSample_2 rfl (lv_at hl 2 rfl) ?_
  obtain ⟨q1, h⟩ := ck_some h
  obtain ⟨a2, μ3, ca2, h⟩ := bd_some h
  refine V_X8_checkUnits (pc := 3) C hM ca2 rx1 rx2 q1 bw_5_167 ⟨Nat.le_of_ble_eq_true rfl, Nat.le_of_ble_eq_true rfl⟩ hl.1 rc0 ⟨Nat.le_refl _, Nat.le_refl _⟩ dX8_checkSample_3 (fun ra2 H locs hM => ?_)
  refine m_istore_n (pc := 6) C dX8_checkSample_6 rfl hl (by decide) (lvK1 0 rfl (Nat.ne_of_beq_eq_false rfl) (Nat.ne_of_beq_eq_false rfl) (lvK1 1 rfl (Nat.ne_of_beq_eq_false rfl) (Nat.ne_of_beq_eq_false rfl) (lvK2 2 rfl (Nat.ne_of_beq_eq_false rfl) rfl lvK0))) (fun ls hl => ?_)
  refine m_iload_n (pc := 7) C dX8_checkSample_7 rfl (lv_at hl 0 rfl) ?_
  refine m_if_ge (tgt := 15) (pc := 8) C ra2 dX8_checkSample_8 (by decide) (fun c4 => ?_) (fun c4 => ?_)
  · have h := if_t h c4
    refine m_aload_n (pc := 15) C dX8_checkSample_15 rfl (lv_at hl 1 rfl) ?_
    refine m_iload_n (pc := 16) C dX8_checkSample_16 rfl (lv_at hl 2 rfl) ?_
    refine m_iload_n (pc := 17) C dX8_checkSample_17 rfl (lv_at hl 3 rfl) ?_
    refine m_i2l (pc := 18) C rx2 dX8_checkSample_18 ?_
    obtain ⟨q5, h⟩ := ck_some h
    obtain ⟨a6, μ7, ca6, h⟩ := bd_some h
    refine V_X8_paidFor (pc := 19) C hM ca6 rx1 (R32.to64 rx2) q5 bw_5_199 ⟨Nat.le_of_ble_eq_true rfl, Nat.le_of_ble_eq_true rfl⟩ hl.1 rc0 ⟨Nat.le_refl _, Nat.le_refl _⟩ dX8_checkSample_19 (fun ra6 H locs hM => ?_)
    refine m_aload_n (pc := 22) C dX8_checkSample_22 rfl (lv_at hl 1 rfl) ?_
    refine m_iload_n (pc := 23) C dX8_checkSample_23 rfl (lv_at hl 2 rfl) ?_
    obtain ⟨q8, h⟩ := ck_some h
    obtain ⟨a9, μ10, ca9, h⟩ := bd_some h
    refine V_X8_cash (pc := 24) C hM ca9 rx1 q8 bw_5_175 ⟨Nat.le_of_ble_eq_true rfl, Nat.le_of_ble_eq_true rfl⟩ hl.1 (rcL rc0) ⟨Nat.le_refl _, Nat.le_refl _⟩ dX8_checkSample_24 (fun ra9 H locs hM => ?_)
    refine m_lcmp_le (tgt := 39) (pc := 27) C ra6 ra9 dX8_checkSample_27 dX8_checkSample_28 (by decide) (fun c11 => ?_) (fun c11 => ?_)
    · have h := if_t h c11
      refine m_iconst (pc := 39) C dX8_checkSample_39 ?_
      cases h
      exact m_iret (pc := 40) C hM rk_0 dX8_checkSample_40
    · have h := if_f h c11
      refine m_aload_n (pc := 31) C dX8_checkSample_31 rfl (lv_at hl 1 rfl) ?_
      refine m_iconst (pc := 32) C dX8_checkSample_32 ?_
      obtain ⟨q12, h⟩ := ck_some h
      obtain ⟨a13, μ14, ca13, h⟩ := bd_some h
      refine V_X8_refuse (pc := 33) C hM ca13 rk_3 q12 bw_5_121 ⟨Nat.le_of_ble_eq_true rfl, Nat.le_of_ble_eq_true rfl⟩ hl.1 rc0 ⟨Nat.le_refl _, Nat.le_refl _⟩ dX8_checkSample_33 (fun ra13 H locs hM => ?_)
      refine m_goto (tgt := 40) (pc := 36) C dX8_checkSample_36 (by decide) ?_
      cases h
      exact m_iret (pc := 40) C hM ra13 dX8_checkSample_40
  · have h := if_f h c4
    refine m_iload_n (pc := 11) C dX8_checkSample_11 rfl (lv_at hl 0 rfl) ?_
    refine m_goto (tgt := 40) (pc := 12) C dX8_checkSample_12 (by decide) ?_
    cases h
    exact m_iret (pc := 40) C hM ra2 dX8_checkSample_40
theorem hd_X8_checkSample : yX8_checkSample.cls ≠ "java/lang/invoke/MethodHandle" ∧ yX8_checkSample.cls ≠ "java/lang/invoke/VarHandle" ∧ (parseMethodDescriptor yX8_checkSample.desc).map (fun d => d.parameters.length) = some 2 := by decide +kernel

theorem V_X8_checkSample {p : Program} {l : Launch} {e : Env} {R : Room} {s : State} {m : MethodId} {args : Array Value} {below : List Frame} {meth : Method} {c : Code} {H : Heap} {locs : List Loc} {cells slots : Nat} {Q : State → Prop} {cc : ByteArray} {pc nL : Nat} {ls : Array Slot} {rest : List Value} {ret : Option FieldType} {nmm own : String} {E : gE} {μ μ1 : Mm} {index : Nat} (C : gCx p s m args meth c cc nL ret nmm own) (hM : MS E μ s H locs) {N : Nat} {x0 x1 x2 v : Int} (hc : f_X8_checkSample N x0 x1 x2 μ = some (v, μ1)) (rx1 : R32 x1) (rx2 : R32 x2) (hck : μ x0 (-2) = 10) (h1 : Cond.methodLink own index yX8_checkSample ∈ bigL) (hR : 4 ≤ R.frames ∧ 97 ≤ R.locals) (hl : ls.size = nL) (hcat : RC rest 8) (hf : cells + 0 ≤ R.cells ∧ slots + 0 ≤ R.slots) (hdg : decode cc pc = .ok (.invokevirtual index, 3)) (kk : (R32 v) → ∀ (H1 : Heap) (locs1 : List Loc), MS E μ1 s H1 locs1 → W p l e R s m args below meth c H1 locs1 (cells + 0) (slots + 0) Q (F0 m (pc + 3) ls (vi v :: rest))) : W p l e R s m args below meth c H locs cells slots Q (F0 m pc ls (vi x2 :: vi x1 :: vr E x0 :: rest)) := g_callV C KF_X8 hM (c_X8_checkSample l E N x0 x1 x2 μ μ1 v hc rx1 rx2) hck (gV h1 bw_5_197 bs_41 bw_1_13 bw_5_198) ⟨rfl, hd_X8_checkSample⟩ hR rfl hl rfl hcat hf hdg kk
/-! X8_samples -/
def f_X8_samples (N : Nat) (x0 x1 x2 : Int) (μ : Mm) : Rs :=
  ck (μ x0 (-2) = 10) <|
  bd (f_X8_paidFor N x0 x1 x2 μ) fun a2 μ3 =>
  ck (μ3 x0 (-2) = 10) <|
  bd (f_X8_lotAt N x1 μ3) fun a5 μ6 =>
  nm (w32 (a5 + 9)) fun a7 =>
  ck (μ6 (μ3 x0 0) (-2) = 24 ∧ (0 : Int) ≤ a7 ∧ a7 < μ6 (μ3 x0 0) (-1)) <|
  ck (μ6 x0 (-2) = 10) <|
  bd (f_X8_free N x0 x1 x2 μ6) fun a10 μ11 =>
  ck (μ11 x0 (-2) = 10) <|
  bd (f_X8_dutyNow N x0 x1 a10 μ11) fun a13 μ14 =>
  nm (w64 ((μ6 (μ3 x0 0) a7) + a13)) fun a15 =>
  ck (μ14 (μ3 x0 0) (-2) = 24 ∧ (0 : Int) ≤ a7 ∧ a7 < μ14 (μ3 x0 0) (-1)) <|
  nm (mset μ14 (μ3 x0 0) a7 a15) fun μ17 =>
  ck (μ17 x0 (-2) = 10) <|
  bd (f_X8_take N x0 x1 x2 μ17) fun a19 μ20 =>
  ck (μ20 x0 (-2) = 10) <|
  bd (f_X8_lotAt N x1 μ20) fun a22 μ23 =>
  nm (w32 (a22 + 10)) fun a24 =>
  ck (μ23 (μ20 x0 0) (-2) = 24 ∧ (0 : Int) ≤ a24 ∧ a24 < μ23 (μ20 x0 0) (-1)) <|
  nm (w64 ((μ23 (μ20 x0 0) a24) + x2)) fun a26 =>
  ck (μ23 (μ20 x0 0) (-2) = 24 ∧ (0 : Int) ≤ a24 ∧ a24 < μ23 (μ20 x0 0) (-1)) <|
  nm (mset μ23 (μ20 x0 0) a24 a26) fun μ28 =>
  ck (μ28 x0 (-2) = 10) <|
  bd (f_X8_pay N x0 x1 a2 μ28) fun a30 μ31 =>
  nm (w32 a2) fun a32 =>
  some (a32, μ31)
set_option maxHeartbeats 4000000 in
set_option maxRecDepth 100000 in
theorem c_X8_samples (l : Launch) (E : gE) (N : Nat) (x0 x1 x2 : Int) (μ μ' : Mm) (r : Int) (h : f_X8_samples N x0 x1 x2 μ = some (r, μ')) (rx1 : R32 x1) (rx2 : R32 x2) : gMet l E yX8_samples cX8_samples 5 (some .int) 3 74 [vr E x0, vi x1, vi x2] (some (vi r)) (R32 r) μ μ' 0 0 := by
  refine g_ofW [1, 1, 1] (by first | (simp only [List.map_cons, List.map_nil, vr_cat]; done) | (simp only [List.map_cons, List.map_nil, vr_cat]; rfl)) (by decide) (by decide) (fun p e s m below meth c ls C hM hl => ?_)
  replace C : gCx p s m _ meth c cX8_samples 5 (some .int) "samples" RX8 := C
  replace hl : lv_has ls 5 [(0, vr E x0), (1, vi x1), (2, vi x2)] := hl
  unfold f_X8_samples at h
  refine m_aload_n (pc := 0) C dX8_samples_0 rfl (lv_at hl 0 rfl) ?_
  refine m_iload_n (pc := 1) C dX8_samples_1 rfl (lv_at hl 1 rfl) ?_
  refine m_iload_n (pc := 2) C dX8_samples_2 rfl (lv_at hl 2 rfl) ?_
  refine m_i2l (pc := 3) C rx2 dX8_samples_3 ?_
  obtain ⟨q1, h⟩ := ck_some h
  obtain ⟨a2, μ3, ca2, h⟩ := bd_some h
  refine V_X8_paidFor (pc := 4) C hM ca2 rx1 (R32.to64 rx2) q1 bw_5_199 ⟨Nat.le_of_ble_eq_true rfl, Nat.le_of_ble_eq_true rfl⟩ hl.1 rc0 ⟨Nat.le_refl _, Nat.le_refl _⟩ dX8_samples_4 (fun ra2 H locs hM => ?_)
  refine m_lstore_n (pc := 7) C dX8_samples_7 rfl hl (by decide) (lvK1 0 rfl (Nat.ne_of_beq_eq_false rfl) (Nat.ne_of_beq_eq_false rfl) (lvK1 1 rfl (Nat.ne_of_beq_eq_false rfl) (Nat.ne_of_beq_eq_false rfl) (lvK2 2 rfl (Nat.ne_of_beq_eq_false rfl) rfl lvK0))) (lvN1 (Nat.ne_of_beq_eq_false rfl) (lvN1 (Nat.ne_of_beq_eq_false rfl) (lvN1 (Nat.ne_of_beq_eq_false rfl) lvN0))) (fun ls hl => ?_)
  refine m_aload_n (pc := 8) C dX8_samples_8 rfl (lv_at hl 1 rfl) ?_
  obtain ⟨q4, h⟩ := ck_some h
  refine G_X8_now (pc := 9) C hM bw_4_227 q4 dX8_samples_9 ?_
  refine m_iload_n (pc := 12) C dX8_samples_12 rfl (lv_at hl 2 rfl) ?_
  obtain ⟨a5, μ6, ca5, h⟩ := bd_some h
  refine V_X8_lotAt (pc := 13) C hM ca5 rx1 bw_5_87 ⟨Nat.le_of_ble_eq_true rfl, Nat.le_of_ble_eq_true rfl⟩ hl.1 (rcR rc0) ⟨Nat.le_refl _, Nat.le_refl _⟩ dX8_samples_13 (fun ra5 H locs hM => ?_)
  refine m_bipush (pc := 16) C dX8_samples_16 rfl ?_
  obtain ⟨a7, ea7, h⟩ := nm_some h
  have ra7 : R32 a7 := by rw [ea7]; exact w32_R _
  refine m_iadd (pc := 18) C dX8_samples_18 ea7 ?_
  refine m_dup2 (pc := 19) C rfl (vr_cat _ _) dX8_samples_19 ?_
  obtain ⟨q8, h⟩ := ck_some h
  have gq8 := Ar_lald hM q8.1 q8.2.1 q8.2.2
  refine m_lald (pc := 20) C hM q8.1 q8.2.1 q8.2.2 dX8_samples_20 ?_
  refine m_aload_n (pc := 21) C dX8_samples_21 rfl (lv_at hl 1 rfl) ?_
  refine m_iload_n (pc := 22) C dX8_samples_22 rfl (lv_at hl 2 rfl) ?_
  refine m_aload_n (pc := 23) C dX8_samples_23 rfl (lv_at hl 1 rfl) ?_
  refine m_iload_n (pc := 24) C dX8_samples_24 rfl (lv_at hl 2 rfl) ?_
  refine m_iload_n (pc := 25) C dX8_samples_25 rfl (lv_at hl 3 rfl) ?_
  refine m_i2l (pc := 26) C rx2 dX8_samples_26 ?_
  obtain ⟨q9, h⟩ := ck_some h
  obtain ⟨a10, μ11, ca10, h⟩ := bd_some h
  refine V_X8_free (pc := 27) C hM ca10 rx1 (R32.to64 rx2) q9 bw_5_203 ⟨Nat.le_of_ble_eq_true rfl, Nat.le_of_ble_eq_true rfl⟩ hl.1 (rcI (rcR (rcL (rcI (rcR rc0))))) ⟨Nat.le_refl _, Nat.le_refl _⟩ dX8_samples_27 (fun ra10 H locs hM => ?_)
  obtain ⟨q12, h⟩ := ck_some h
  obtain ⟨a13, μ14, ca13, h⟩ := bd_some h
  refine V_X8_dutyNow (pc := 30) C hM ca13 rx1 ra10 q12 bw_5_98 ⟨Nat.le_of_ble_eq_true rfl, Nat.le_of_ble_eq_true rfl⟩ hl.1 (rcL (rcI (rcR rc0))) ⟨Nat.le_refl _, Nat.le_refl _⟩ dX8_samples_30 (fun ra13 H locs hM => ?_)
  obtain ⟨a15, ea15, h⟩ := nm_some h
  have ra15 : R64 a15 := by rw [ea15]; exact w64_R _
  refine m_ladd (pc := 33) C dX8_samples_33 ea15 ?_
  obtain ⟨q16, h⟩ := ck_some h
  obtain ⟨μ17, eμ17, h⟩ := nm_some h
  refine m_last (pc := 34) C hM q16.1 q16.2.1  q16.2.2 ra15 eμ17 dX8_samples_34 (fun H locs hM => ?_)
  refine m_aload_n (pc := 35) C dX8_samples_35 rfl (lv_at hl 1 rfl) ?_
  refine m_iload_n (pc := 36) C dX8_samples_36 rfl (lv_at hl 2 rfl) ?_
  refine m_iload_n (pc := 37) C dX8_samples_37 rfl (lv_at hl 3 rfl) ?_
  refine m_i2l (pc := 38) C rx2 dX8_samples_38 ?_
  obtain ⟨q18, h⟩ := ck_some h
  obtain ⟨a19, μ20, ca19, h⟩ := bd_some h
  refine V_X8_take (pc := 39) C hM ca19 rx1 (R32.to64 rx2) q18 bw_5_183 ⟨Nat.le_of_ble_eq_true rfl, Nat.le_of_ble_eq_true rfl⟩ hl.1 rc0 ⟨Nat.le_refl _, Nat.le_refl _⟩ dX8_samples_39 (fun _ H locs hM => ?_)
  refine m_aload_n (pc := 42) C dX8_samples_42 rfl (lv_at hl 1 rfl) ?_
  obtain ⟨q21, h⟩ := ck_some h
  refine G_X8_now (pc := 43) C hM bw_4_227 q21 dX8_samples_43 ?_
  refine m_iload_n (pc := 46) C dX8_samples_46 rfl (lv_at hl 2 rfl) ?_
  obtain ⟨a22, μ23, ca22, h⟩ := bd_some h
  refine V_X8_lotAt (pc := 47) C hM ca22 rx1 bw_5_87 ⟨Nat.le_of_ble_eq_true rfl, Nat.le_of_ble_eq_true rfl⟩ hl.1 (rcR rc0) ⟨Nat.le_refl _, Nat.le_refl _⟩ dX8_samples_47 (fun ra22 H locs hM => ?_)
  refine m_bipush (pc := 50) C dX8_samples_50 rfl ?_
  obtain ⟨a24, ea24, h⟩ := nm_some h
  have ra24 : R32 a24 := by rw [ea24]; exact w32_R _
  refine m_iadd (pc := 52) C dX8_samples_52 ea24 ?_
  refine m_dup2 (pc := 53) C rfl (vr_cat _ _) dX8_samples_53 ?_
  obtain ⟨q25, h⟩ := ck_some h
  have gq25 := Ar_lald hM q25.1 q25.2.1 q25.2.2
  refine m_lald (pc := 54) C hM q25.1 q25.2.1 q25.2.2 dX8_samples_54 ?_
  refine m_iload_n (pc := 55) C dX8_samples_55 rfl (lv_at hl 3 rfl) ?_
  refine m_i2l (pc := 56) C rx2 dX8_samples_56 ?_
  obtain ⟨a26, ea26, h⟩ := nm_some h
  have ra26 : R64 a26 := by rw [ea26]; exact w64_R _
  refine m_ladd (pc := 57) C dX8_samples_57 ea26 ?_
  obtain ⟨q27, h⟩ := ck_some h
  obtain ⟨μ28, eμ28, h⟩ := nm_some h
  refine m_last (pc := 58) C hM q27.1 q27.2.1  q27.2.2 ra26 eμ28 dX8_samples_58 (fun H locs hM => ?_)
  refine m_aload_n (pc := 59) C dX8_samples_59 rfl (lv_at hl 1 rfl) ?_
  refine m_iload_n (pc := 60) C dX8_samples_60 rfl (lv_at hl 2 rfl) ?_
  refine m_lload_n (pc := 61) C dX8_samples_61 rfl (lv_at hl 0 rfl) ?_
  obtain ⟨q29, h⟩ := ck_some h
  obtain ⟨a30, μ31, ca30, h⟩ := bd_some h
  refine V_X8_pay (pc := 62) C hM ca30 rx1 ra2 q29 bw_5_187 ⟨Nat.le_of_ble_eq_true rfl, Nat.le_of_ble_eq_true rfl⟩ hl.1 rc0 ⟨Nat.le_refl _, Nat.le_refl _⟩ dX8_samples_62 (fun _ H locs hM => ?_)
  refine m_lload_n (pc := 65) C dX8_samples_65 rfl (lv_at hl 0 rfl) ?_
  obtain ⟨a32, ea32, h⟩ := nm_some h
  have ra32 : R32 a32 := by rw [ea32]; exact w32_R _
  refine m_l2i (pc := 66) C dX8_samples_66 ea32 ?_
  cases h
  exact m_iret (pc := 67) C hM ra32 dX8_samples_67
theorem hd_X8_samples : yX8_samples.cls ≠ "java/lang/invoke/MethodHandle" ∧ yX8_samples.cls ≠ "java/lang/invoke/VarHandle" ∧ (parseMethodDescriptor yX8_samples.desc).map (fun d => d.parameters.length) = some 2 := by decide +kernel

theorem V_X8_samples {p : Program} {l : Launch} {e : Env} {R : Room} {s : State} {m : MethodId} {args : Array Value} {below : List Frame} {meth : Method} {c : Code} {H : Heap} {locs : List Loc} {cells slots : Nat} {Q : State → Prop} {cc : ByteArray} {pc nL : Nat} {ls : Array Slot} {rest : List Value} {ret : Option FieldType} {nmm own : String} {E : gE} {μ μ1 : Mm} {index : Nat} (C : gCx p s m args meth c cc nL ret nmm own) (hM : MS E μ s H locs) {N : Nat} {x0 x1 x2 v : Int} (hc : f_X8_samples N x0 x1 x2 μ = some (v, μ1)) (rx1 : R32 x1) (rx2 : R32 x2) (hck : μ x0 (-2) = 10) (h1 : Cond.methodLink own index yX8_samples ∈ bigL) (hR : 4 ≤ R.frames ∧ 98 ≤ R.locals) (hl : ls.size = nL) (hcat : RC rest 8) (hf : cells + 0 ≤ R.cells ∧ slots + 0 ≤ R.slots) (hdg : decode cc pc = .ok (.invokevirtual index, 3)) (kk : (R32 v) → ∀ (H1 : Heap) (locs1 : List Loc), MS E μ1 s H1 locs1 → W p l e R s m args below meth c H1 locs1 (cells + 0) (slots + 0) Q (F0 m (pc + 3) ls (vi v :: rest))) : W p l e R s m args below meth c H locs cells slots Q (F0 m pc ls (vi x2 :: vi x1 :: vr E x0 :: rest)) := g_callV C KF_X8 hM (c_X8_samples l E N x0 x1 x2 μ μ1 v hc rx1 rx2) hck (gV h1 bw_5_209 bs_44 bw_1_13 bw_5_210) ⟨rfl, hd_X8_samples⟩ hR rfl hl rfl hcat hf hdg kk
end G12
