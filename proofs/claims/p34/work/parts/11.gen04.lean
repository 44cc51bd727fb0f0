section G04
variable {p : Program} {l : Launch} {e : Env} {R : Room} {s : State} {m : MethodId} {args : Array Value} {below : List Frame} {meth : Method} {c : Code} {E : gE}
/-! X6_callDuty -/
def f_X6_callDuty (N : Nat) (x0 x1 x2 : Int) (μ : Mm) : Rs :=
  ck (μ x1 (-2) = 4) <|
  nm (w32 ((μ x1 8) + x2)) fun a2 =>
  ck (μ x1 (-2) = 4) <|
  nm (mset μ x1 8 a2) fun μ4 =>
  ck (μ4 x1 (-2) = 4) <|
  ck (μ4 x0 (-2) = 8) <|
  bd (f_X6_findOwner N x0 (μ4 x1 0) μ4) fun a7 μ8 =>
  ck ((0 : Int) ≤ a7) <|
  if a7 = 0 then
    (some (0, μ8))
  else
  ck (μ8 a7 (-2) = 6) <|
  bd (f_X4_answerFor N a7 x2 μ8) fun a12 μ13 =>
  some (0, μ13)
set_option maxHeartbeats 4000000 in
set_option maxRecDepth 100000 in
theorem c_X6_callDuty (l : Launch) (E : gE) (N : Nat) (x0 x1 x2 : Int) (μ μ' : Mm) (r : Int) (h : f_X6_callDuty N x0 x1 x2 μ = some (r, μ')) (rx2 : R32 x2) : gMet l E yX6_callDuty cX6_callDuty 4 none 1 22 [vr E x0, vr E x1, vi x2] none True μ μ' 0 0 := by
  refine g_ofW [1, 1, 1] (by first | (simp only [List.map_cons, List.map_nil, vr_cat]; done) | (simp only [List.map_cons, List.map_nil, vr_cat]; rfl)) (by decide) (by decide) (fun p e s m below meth c ls C hM hl => ?_)
  replace C : gCx p s m _ meth c cX6_callDuty 4 none "callDuty" RX6 := C
  replace hl : lv_has ls 4 [(0, vr E x0), (1, vr E x1), (2, vi x2)] := hl
  unfold f_X6_callDuty at h
  refine m_aload_n (pc := 0) C dX6_callDuty_0 rfl (lv_at hl 1 rfl) ?_
  refine m_dup (pc := 1) C (vr_cat _ _) dX6_callDuty_1 ?_
  obtain ⟨q1, h⟩ := ck_some h
  have gq1 := Gr_X2_paid hM q1
  refine G_X2_paid (pc := 2) C hM bw_1_118 q1 dX6_callDuty_2 ?_
  refine m_iload_n (pc := 5) C dX6_callDuty_5 rfl (lv_at hl 2 rfl) ?_
  obtain ⟨a2, ea2, h⟩ := nm_some h
  have ra2 : R32 a2 := by rw [ea2]; exact w32_R _
  refine m_iadd (pc := 6) C dX6_callDuty_6 ea2 ?_
  obtain ⟨q3, h⟩ := ck_some h
  obtain ⟨μ4, eμ4, h⟩ := nm_some h
  refine P_X2_paid (pc := 7) C hM bw_1_118 q3 ra2 eμ4 dX6_callDuty_7 (fun H locs hM => ?_)
  refine m_aload_n (pc := 10) C dX6_callDuty_10 rfl (lv_at hl 0 rfl) ?_
  refine m_aload_n (pc := 11) C dX6_callDuty_11 rfl (lv_at hl 1 rfl) ?_
  obtain ⟨q5, h⟩ := ck_some h
  have gq5 := Gr_X2_owner hM q5
  refine G_X2_owner (pc := 12) C hM bw_1_99 q5 dX6_callDuty_12 ?_
  obtain ⟨q6, h⟩ := ck_some h
  obtain ⟨a7, μ8, ca7, h⟩ := bd_some h
  refine V_X6_findOwner (pc := 15) C hM ca7 gq5 q6 bw_2_184 ⟨Nat.le_of_ble_eq_true rfl, Nat.le_of_ble_eq_true rfl⟩ hl.1 rc0 ⟨Nat.le_refl _, Nat.le_refl _⟩ dX6_callDuty_15 (fun _ H locs hM => ?_)
  refine m_astore_n (pc := 18) C dX6_callDuty_18 rfl hl (by decide) (lvK2 2 rfl (Nat.ne_of_beq_eq_false rfl) rfl lvK0) (fun ls hl => ?_)
  refine m_aload_n (pc := 19) C dX6_callDuty_19 rfl (lv_at hl 0 rfl) ?_
  obtain ⟨q10, h⟩ := ck_some h
  refine m_ifnull (tgt := 28) (pc := 20) C q10 dX6_callDuty_20 (by decide) (fun c9 => ?_) (fun c9 => ?_)
  · have h := if_t h c9
    cases h
    exact m_vret (pc := 28) C hM trivial dX6_callDuty_28
  · have h := if_f h c9
    refine m_aload_n (pc := 23) C dX6_callDuty_23 rfl (lv_at hl 0 rfl) ?_
    refine m_iload_n (pc := 24) C dX6_callDuty_24 rfl (lv_at hl 1 rfl) ?_
    obtain ⟨q11, h⟩ := ck_some h
    obtain ⟨a12, μ13, ca12, h⟩ := bd_some h
    refine V_X4_answerFor (pc := 25) C hM ca12 rx2 q11 bw_2_188 ⟨Nat.le_of_ble_eq_true rfl, Nat.le_of_ble_eq_true rfl⟩ hl.1 rc0 ⟨Nat.le_refl _, Nat.le_refl _⟩ dX6_callDuty_25 (fun _ H locs hM => ?_)
    cases h
    exact m_vret (pc := 28) C hM trivial dX6_callDuty_28
theorem hd_X6_callDuty : yX6_callDuty.cls ≠ "java/lang/invoke/MethodHandle" ∧ yX6_callDuty.cls ≠ "java/lang/invoke/VarHandle" ∧ (parseMethodDescriptor yX6_callDuty.desc).map (fun d => d.parameters.length) = some 2 := by decide +kernel

theorem V_X6_callDuty {p : Program} {l : Launch} {e : Env} {R : Room} {s : State} {m : MethodId} {args : Array Value} {below : List Frame} {meth : Method} {c : Code} {H : Heap} {locs : List Loc} {cells slots : Nat} {Q : State → Prop} {cc : ByteArray} {pc nL : Nat} {ls : Array Slot} {rest : List Value} {ret : Option FieldType} {nmm own : String} {E : gE} {μ μ1 : Mm} {index : Nat} (C : gCx p s m args meth c cc nL ret nmm own) (hM : MS E μ s H locs) {N : Nat} {x0 x1 x2 v : Int} (hc : f_X6_callDuty N x0 x1 x2 μ = some (v, μ1)) (rx2 : R32 x2) (hck : μ x0 (-2) = 8) (h1 : Cond.methodLink own index yX6_callDuty ∈ bigL) (hR : 2 ≤ R.frames ∧ 45 ≤ R.locals) (hl : ls.size = nL) (hcat : RC rest 8) (hf : cells + 0 ≤ R.cells ∧ slots + 0 ≤ R.slots) (hdg : decode cc pc = .ok (.invokevirtual index, 3)) (kk : True → ∀ (H1 : Heap) (locs1 : List Loc), MS E μ1 s H1 locs1 → W p l e R s m args below meth c H1 locs1 (cells + 0) (slots + 0) Q (F0 m (pc + 3) ls rest)) : W p l e R s m args below meth c H locs cells slots Q (F0 m pc ls (vi x2 :: vr E x1 :: vr E x0 :: rest)) := g_callV C KF_X6 hM (c_X6_callDuty l E N x0 x1 x2 μ μ1 v hc rx2) hck (gV h1 bw_2_182 bs_4 bw_1_2 bw_2_183) ⟨rfl, hd_X6_callDuty⟩ hR rfl hl rfl hcat hf hdg kk
/-! X6_loseExports -/
def f_X6_loseExports_b4 (N : Nat) : Nat → Int → Int → Int → Mm → Rs
  | 0, _, _, _, _ => none
  | n + 1, x0, x1, x2, μ =>
    ck (μ x0 (-2) = 8) <|
    if (μ x0 6) ≤ x2 then
      (some (x1, μ))
    else
    ck (μ x0 (-2) = 8) <|
    ck (μ (μ x0 3) (-2) = 29 ∧ (0 : Int) ≤ x2 ∧ x2 < μ (μ x0 3) (-1)) <|
    ck (μ (μ (μ x0 3) x2) (-2) = 2) <|
    ck (μ x0 (-2) = 8) <|
    bd (f_X6_findLot N x0 (μ (μ (μ x0 3) x2) 0) μ) fun a7 μ8 =>
    ck ((0 : Int) ≤ a7) <|
    if a7 = 0 then
      (nm (w32 (x2 + 1)) fun a11 =>
       f_X6_loseExports_b4 N n x0 x1 a11 μ8)
    else
    ck (μ8 x0 (-2) = 8) <|
    ck (μ8 (μ (μ x0 3) x2) (-2) = 2) <|
    bd (f_X0_endsBefore N (μ (μ x0 3) x2) (μ8 x0 8) μ8) fun a14 μ15 =>
    if a14 = 0 then
      (nm (w32 (x2 + 1)) fun a17 =>
       f_X6_loseExports_b4 N n x0 x1 a17 μ15)
    else
    ck (μ15 (μ (μ x0 3) x2) (-2) = 2) <|
    nm (mset μ15 (μ (μ x0 3) x2) 4 2) fun μ19 =>
    ck (μ19 (μ (μ x0 3) x2) (-2) = 2) <|
    ck (μ19 x0 (-2) = 8) <|
    bd (f_X6_callDuty N x0 a7 (μ19 (μ (μ x0 3) x2) 2) μ19) fun a22 μ23 =>
    ck (μ23 (μ (μ x0 3) x2) (-2) = 2) <|
    nm (w32 (x1 + (μ23 (μ (μ x0 3) x2) 2))) fun a25 =>
    nm (w32 (x2 + 1)) fun a26 =>
    f_X6_loseExports_b4 N n x0 a25 a26 μ23
def f_X6_loseExports (N : Nat) (x0 : Int) (μ : Mm) : Rs :=
  f_X6_loseExports_b4 N N x0 0 0 μ
set_option maxHeartbeats 4000000 in
set_option maxRecDepth 100000 in
theorem k_X6_loseExports_b4 (C : gCx p s m args meth c cX6_loseExports 5 (some .int) "loseExports" RX6) (N : Nat) {r : Int} {μ' : Mm} : ∀ (n : Nat), ∀ (x0 x1 x2 : Int) (μ : Mm), f_X6_loseExports_b4 N n x0 x1 x2 μ = some (r, μ') → R32 x1 → R32 x2 → ∀ (H : Heap) (locs : List Loc) (ls : Array Slot), MS E μ s H locs → lv_has ls 5 [(0, vr E x0), (1, vi x1), (2, vi x2)] → W p l e ({ frames := 2, cells := 0, slots := 0, locals := 45 } : Room) s m args below meth c H locs 0 0 (MQ below (gQ E (some (vi r)) (R32 r) μ') args s 0 0 (gA E)) (F0 m 4 ls []) := by
  intro n
  induction n with
  | zero => intro x0 x1 x2 μ h; simp [f_X6_loseExports_b4] at h
  | succ n ih =>
    intro x0 x1 x2 μ h rx1 rx2 H locs ls hM hl
    rw [f_X6_loseExports_b4] at h
    refine m_iload_n (pc := 4) C dX6_loseExports_4 rfl (lv_at hl 2 rfl) ?_
    refine m_aload_n (pc := 5) C dX6_loseExports_5 rfl (lv_at hl 0 rfl) ?_
    obtain ⟨q1, h⟩ := ck_some h
    have gq1 := Gr_X6_exportCount hM q1
    refine G_X6_exportCount (pc := 6) C hM bw_1_191 q1 dX6_loseExports_6 ?_
    refine m_icmp_ge (tgt := 73) (pc := 9) C rx2 gq1 dX6_loseExports_9 (by decide) (fun c2 => ?_) (fun c2 => ?_)
    · have h := if_t h c2
      refine m_iload_n (pc := 73) C dX6_loseExports_73 rfl (lv_at hl 1 rfl) ?_
      cases h
      exact m_iret (pc := 74) C hM rx1 dX6_loseExports_74
    · have h := if_f h c2
      refine m_aload_n (pc := 12) C dX6_loseExports_12 rfl (lv_at hl 0 rfl) ?_
      obtain ⟨q3, h⟩ := ck_some h
      refine G_X6_exports (pc := 13) C hM bw_1_185 q3 dX6_loseExports_13 ?_
      refine m_iload_n (pc := 16) C dX6_loseExports_16 rfl (lv_at hl 2 rfl) ?_
      obtain ⟨q4, h⟩ := ck_some h
      refine m_aald (pc := 17) C hM q4.1 (by decide) (by decide) q4.2.1 q4.2.2 dX6_loseExports_17 ?_
      refine m_astore_n (pc := 18) C dX6_loseExports_18 rfl hl (by decide) (lvK1 0 rfl (Nat.ne_of_beq_eq_false rfl) (Nat.ne_of_beq_eq_false rfl) (lvK1 1 rfl (Nat.ne_of_beq_eq_false rfl) (Nat.ne_of_beq_eq_false rfl) (lvK2 2 rfl (Nat.ne_of_beq_eq_false rfl) rfl lvK0))) (fun ls hl => ?_)
      refine m_aload_n (pc := 19) C dX6_loseExports_19 rfl (lv_at hl 1 rfl) ?_
      refine m_aload_n (pc := 20) C dX6_loseExports_20 rfl (lv_at hl 0 rfl) ?_
      obtain ⟨q5, h⟩ := ck_some h
      have gq5 := Gr_X0_lot hM q5
      refine G_X0_lot (pc := 21) C hM bw_1_156 q5 dX6_loseExports_21 ?_
      obtain ⟨q6, h⟩ := ck_some h
      obtain ⟨a7, μ8, ca7, h⟩ := bd_some h
      refine V_X6_findLot (pc := 24) C hM ca7 gq5 q6 bw_2_174 ⟨Nat.le_of_ble_eq_true rfl, Nat.le_of_ble_eq_true rfl⟩ hl.1 rc0 ⟨Nat.le_refl _, Nat.le_refl _⟩ dX6_loseExports_24 (fun _ H locs hM => ?_)
      refine m_astore (pc := 27) C dX6_loseExports_27 hl (by decide) (lvK2 0 rfl (Nat.ne_of_beq_eq_false rfl) (vr_cat _ _) (lvK1 1 rfl (Nat.ne_of_beq_eq_false rfl) (Nat.ne_of_beq_eq_false rfl) (lvK1 2 rfl (Nat.ne_of_beq_eq_false rfl) (Nat.ne_of_beq_eq_false rfl) (lvK1 3 rfl (Nat.ne_of_beq_eq_false rfl) (Nat.ne_of_beq_eq_false rfl) lvK0)))) (fun ls hl => ?_)
      refine m_aload (pc := 29) C dX6_loseExports_29 (lv_at hl 0 rfl) ?_
      obtain ⟨q10, h⟩ := ck_some h
      refine m_ifnull (tgt := 67) (pc := 31) C q10 dX6_loseExports_31 (by decide) (fun c9 => ?_) (fun c9 => ?_)
      · have h := if_t h c9
        obtain ⟨a11, ea11, h⟩ := nm_some h
        have ra11 : R32 a11 := by rw [ea11]; exact w32_R _
        refine m_iinc (k := 4) (pc := 67) C dX6_loseExports_67 hl rfl (by decide) ea11 (lvK1 2 rfl (Nat.ne_of_beq_eq_false rfl) (Nat.ne_of_beq_eq_false rfl) (lvK2 3 rfl (Nat.ne_of_beq_eq_false rfl) rfl lvK0)) (fun ls hl => ?_)
        refine m_goto (tgt := 4) (pc := 70) C dX6_loseExports_70 (by decide) ?_
        exact ih _ _ _ _ h rx1 ra11 _ _ _ hM (lv_sub hl [1, 2, 0] rfl)
      · have h := if_f h c9
        refine m_aload_n (pc := 34) C dX6_loseExports_34 rfl (lv_at hl 1 rfl) ?_
        refine m_aload_n (pc := 35) C dX6_loseExports_35 rfl (lv_at hl 2 rfl) ?_
        obtain ⟨q12, h⟩ := ck_some h
        have gq12 := Gr_X6_day hM q12
        refine G_X6_day (pc := 36) C hM bw_1_195 q12 dX6_loseExports_36 ?_
        obtain ⟨q13, h⟩ := ck_some h
        obtain ⟨a14, μ15, ca14, h⟩ := bd_some h
        refine V_X0_endsBefore (pc := 39) C hM ca14 gq12 q13 bw_2_175 ⟨Nat.le_of_ble_eq_true rfl, Nat.le_of_ble_eq_true rfl⟩ hl.1 rc0 ⟨Nat.le_refl _, Nat.le_refl _⟩ dX6_loseExports_39 (fun ra14 H locs hM => ?_)
        refine m_if_eq (tgt := 67) (pc := 42) C ra14 dX6_loseExports_42 (by decide) (fun c16 => ?_) (fun c16 => ?_)
        · have h := if_t h c16
          obtain ⟨a17, ea17, h⟩ := nm_some h
          have ra17 : R32 a17 := by rw [ea17]; exact w32_R _
          refine m_iinc (k := 4) (pc := 67) C dX6_loseExports_67 hl rfl (by decide) ea17 (lvK1 2 rfl (Nat.ne_of_beq_eq_false rfl) (Nat.ne_of_beq_eq_false rfl) (lvK2 3 rfl (Nat.ne_of_beq_eq_false rfl) rfl lvK0)) (fun ls hl => ?_)
          refine m_goto (tgt := 4) (pc := 70) C dX6_loseExports_70 (by decide) ?_
          exact ih _ _ _ _ h rx1 ra17 _ _ _ hM (lv_sub hl [1, 2, 0] rfl)
        · have h := if_f h c16
          refine m_aload_n (pc := 45) C dX6_loseExports_45 rfl (lv_at hl 1 rfl) ?_
          refine m_iconst (pc := 46) C dX6_loseExports_46 ?_
          obtain ⟨q18, h⟩ := ck_some h
          obtain ⟨μ19, eμ19, h⟩ := nm_some h
          refine P_X0_state (pc := 47) C hM bw_1_167 q18 rk_2 eμ19 dX6_loseExports_47 (fun H locs hM => ?_)
          refine m_aload_n (pc := 50) C dX6_loseExports_50 rfl (lv_at hl 2 rfl) ?_
          refine m_aload (pc := 51) C dX6_loseExports_51 (lv_at hl 0 rfl) ?_
          refine m_aload_n (pc := 53) C dX6_loseExports_53 rfl (lv_at hl 1 rfl) ?_
          obtain ⟨q20, h⟩ := ck_some h
          have gq20 := Gr_X0_duty hM q20
          refine G_X0_duty (pc := 54) C hM bw_1_162 q20 dX6_loseExports_54 ?_
          obtain ⟨q21, h⟩ := ck_some h
          obtain ⟨a22, μ23, ca22, h⟩ := bd_some h
          refine V_X6_callDuty (pc := 57) C hM ca22 gq20 q21 bw_2_180 ⟨Nat.le_of_ble_eq_true rfl, Nat.le_of_ble_eq_true rfl⟩ hl.1 rc0 ⟨Nat.le_refl _, Nat.le_refl _⟩ dX6_loseExports_57 (fun _ H locs hM => ?_)
          refine m_iload_n (pc := 60) C dX6_loseExports_60 rfl (lv_at hl 3 rfl) ?_
          refine m_aload_n (pc := 61) C dX6_loseExports_61 rfl (lv_at hl 1 rfl) ?_
          obtain ⟨q24, h⟩ := ck_some h
          have gq24 := Gr_X0_duty hM q24
          refine G_X0_duty (pc := 62) C hM bw_1_162 q24 dX6_loseExports_62 ?_
          obtain ⟨a25, ea25, h⟩ := nm_some h
          have ra25 : R32 a25 := by rw [ea25]; exact w32_R _
          refine m_iadd (pc := 65) C dX6_loseExports_65 ea25 ?_
          refine m_istore_n (pc := 66) C dX6_loseExports_66 rfl hl (by decide) (lvK2 2 rfl (Nat.ne_of_beq_eq_false rfl) (vr_cat _ _) (lvK1 4 rfl (Nat.ne_of_beq_eq_false rfl) (Nat.ne_of_beq_eq_false rfl) lvK0)) (fun ls hl => ?_)
          obtain ⟨a26, ea26, h⟩ := nm_some h
          have ra26 : R32 a26 := by rw [ea26]; exact w32_R _
          refine m_iinc (k := 2) (pc := 67) C dX6_loseExports_67 hl rfl (by decide) ea26 (lvK2 0 rfl (Nat.ne_of_beq_eq_false rfl) rfl (lvK1 1 rfl (Nat.ne_of_beq_eq_false rfl) (Nat.ne_of_beq_eq_false rfl) lvK0)) (fun ls hl => ?_)
          refine m_goto (tgt := 4) (pc := 70) C dX6_loseExports_70 (by decide) ?_
          exact ih _ _ _ _ h ra25 ra26 _ _ _ hM (lv_sub hl [2, 1, 0] rfl)
set_option maxHeartbeats 4000000 in
set_option maxRecDepth 100000 in
theorem c_X6_loseExports (l : Launch) (E : gE) (N : Nat) (x0 : Int) (μ μ' : Mm) (r : Int) (h : f_X6_loseExports N x0 μ = some (r, μ')) : gMet l E yX6_loseExports cX6_loseExports 5 (some .int) 2 45 [vr E x0] (some (vi r)) (R32 r) μ μ' 0 0 := by
  refine g_ofW [1] (by first | (simp only [List.map_cons, List.map_nil, vr_cat]; done) | (simp only [List.map_cons, List.map_nil, vr_cat]; rfl)) (by decide) (by decide) (fun p e s m below meth c ls C hM hl => ?_)
  replace C : gCx p s m _ meth c cX6_loseExports 5 (some .int) "loseExports" RX6 := C
  replace hl : lv_has ls 5 [(0, vr E x0)] := hl
  unfold f_X6_loseExports at h
  refine m_iconst (pc := 0) C dX6_loseExports_0 ?_
  refine m_istore_n (pc := 1) C dX6_loseExports_1 rfl hl (by decide) (lvK2 0 rfl (Nat.ne_of_beq_eq_false rfl) (vr_cat _ _) lvK0) (fun ls hl => ?_)
  refine m_iconst (pc := 2) C dX6_loseExports_2 ?_
  refine m_istore_n (pc := 3) C dX6_loseExports_3 rfl hl (by decide) (lvK2 0 rfl (Nat.ne_of_beq_eq_false rfl) rfl (lvK1 1 rfl (Nat.ne_of_beq_eq_false rfl) (Nat.ne_of_beq_eq_false rfl) lvK0)) (fun ls hl => ?_)
  exact k_X6_loseExports_b4 C N N _ _ _ _ h rk_0 rk_0 _ _ _ hM (lv_sub hl [2, 1, 0] rfl)
theorem hd_X6_loseExports : yX6_loseExports.cls ≠ "java/lang/invoke/MethodHandle" ∧ yX6_loseExports.cls ≠ "java/lang/invoke/VarHandle" ∧ (parseMethodDescriptor yX6_loseExports.desc).map (fun d => d.parameters.length) = some 0 := by decide +kernel

theorem V_X6_loseExports {p : Program} {l : Launch} {e : Env} {R : Room} {s : State} {m : MethodId} {args : Array Value} {below : List Frame} {meth : Method} {c : Code} {H : Heap} {locs : List Loc} {cells slots : Nat} {Q : State → Prop} {cc : ByteArray} {pc nL : Nat} {ls : Array Slot} {rest : List Value} {ret : Option FieldType} {nmm own : String} {E : gE} {μ μ1 : Mm} {index : Nat} (C : gCx p s m args meth c cc nL ret nmm own) (hM : MS E μ s H locs) {N : Nat} {x0 v : Int} (hc : f_X6_loseExports N x0 μ = some (v, μ1)) (hck : μ x0 (-2) = 8) (h1 : Cond.methodLink own index yX6_loseExports ∈ bigL) (hR : 3 ≤ R.frames ∧ 69 ≤ R.locals) (hl : ls.size = nL) (hcat : RC rest 8) (hf : cells + 0 ≤ R.cells ∧ slots + 0 ≤ R.slots) (hdg : decode cc pc = .ok (.invokevirtual index, 3)) (kk : (R32 v) → ∀ (H1 : Heap) (locs1 : List Loc), MS E μ1 s H1 locs1 → W p l e R s m args below meth c H1 locs1 (cells + 0) (slots + 0) Q (F0 m (pc + 3) ls (vi v :: rest))) : W p l e R s m args below meth c H locs cells slots Q (F0 m pc ls (vr E x0 :: rest)) := g_callV C KF_X6 hM (c_X6_loseExports l E N x0 μ μ1 v hc) hck (gV h1 bw_2_171 bw_2_172 bw_1_2 bw_2_173) ⟨rfl, hd_X6_loseExports⟩ hR rfl hl rfl hcat hf hdg kk
/-! X6_seizeLots -/
def f_X6_seizeLots_b4 (N : Nat) : Nat → Int → Int → Int → Mm → Rs
  | 0, _, _, _, _ => none
  | n + 1, x0, x1, x2, μ =>
    ck (μ x0 (-2) = 8) <|
    if (μ x0 5) ≤ x2 then
      (some (x1, μ))
    else
    ck (μ x0 (-2) = 8) <|
    ck (μ (μ x0 2) (-2) = 28 ∧ (0 : Int) ≤ x2 ∧ x2 < μ (μ x0 2) (-1)) <|
    ck (μ x0 (-2) = 8) <|
    ck (μ (μ (μ x0 2) x2) (-2) = 4) <|
    bd (f_X2_endsBefore N (μ (μ x0 2) x2) (μ x0 8) μ) fun a7 μ8 =>
    if a7 = 0 then
      (nm (w32 (x2 + 1)) fun a10 =>
       f_X6_seizeLots_b4 N n x0 x1 a10 μ8)
    else
    ck (μ8 (μ (μ x0 2) x2) (-2) = 4) <|
    ck (μ8 (μ (μ x0 2) x2) (-2) = 4) <|
    bd (f_X2_dutyOfNext N (μ (μ x0 2) x2) 0 (μ8 (μ (μ x0 2) x2) 7) μ8) fun a13 μ14 =>
    ck (μ14 (μ (μ x0 2) x2) (-2) = 4) <|
    nm (mset μ14 (μ (μ x0 2) x2) 7 0) fun μ16 =>
    ck (μ16 x0 (-2) = 8) <|
    nm (w32 ((μ16 x0 7) + 1)) fun a18 =>
    ck (μ16 x0 (-2) = 8) <|
    nm (mset μ16 x0 7 a18) fun μ20 =>
    ck (μ20 x0 (-2) = 8) <|
    bd (f_X6_callDuty N x0 (μ (μ x0 2) x2) a13 μ20) fun a22 μ23 =>
    nm (w32 (x1 + a13)) fun a24 =>
    nm (w32 (x2 + 1)) fun a25 =>
    f_X6_seizeLots_b4 N n x0 a24 a25 μ23
def f_X6_seizeLots (N : Nat) (x0 : Int) (μ : Mm) : Rs :=
  f_X6_seizeLots_b4 N N x0 0 0 μ
set_option maxHeartbeats 4000000 in
set_option maxRecDepth 100000 in
theorem k_X6_seizeLots_b4 (C : gCx p s m args meth c cX6_seizeLots 5 (some .int) "seizeLots" RX6) (N : Nat) {r : Int} {μ' : Mm} : ∀ (n : Nat), ∀ (x0 x1 x2 : Int) (μ : Mm), f_X6_seizeLots_b4 N n x0 x1 x2 μ = some (r, μ') → R32 x1 → R32 x2 → ∀ (H : Heap) (locs : List Loc) (ls : Array Slot), MS E μ s H locs → lv_has ls 5 [(0, vr E x0), (1, vi x1), (2, vi x2)] → W p l e ({ frames := 2, cells := 0, slots := 0, locals := 45 } : Room) s m args below meth c H locs 0 0 (MQ below (gQ E (some (vi r)) (R32 r) μ') args s 0 0 (gA E)) (F0 m 4 ls []) := by
  intro n
  induction n with
  | zero => intro x0 x1 x2 μ h; simp [f_X6_seizeLots_b4] at h
  | succ n ih =>
    intro x0 x1 x2 μ h rx1 rx2 H locs ls hM hl
    rw [f_X6_seizeLots_b4] at h
    refine m_iload_n (pc := 4) C dX6_seizeLots_4 rfl (lv_at hl 2 rfl) ?_
    refine m_aload_n (pc := 5) C dX6_seizeLots_5 rfl (lv_at hl 0 rfl) ?_
    obtain ⟨q1, h⟩ := ck_some h
    have gq1 := Gr_X6_lotCount hM q1
    refine G_X6_lotCount (pc := 6) C hM bw_1_189 q1 dX6_seizeLots_6 ?_
    refine m_icmp_ge (tgt := 74) (pc := 9) C rx2 gq1 dX6_seizeLots_9 (by decide) (fun c2 => ?_) (fun c2 => ?_)
    · have h := if_t h c2
      refine m_iload_n (pc := 74) C dX6_seizeLots_74 rfl (lv_at hl 1 rfl) ?_
      cases h
      exact m_iret (pc := 75) C hM rx1 dX6_seizeLots_75
    · have h := if_f h c2
      refine m_aload_n (pc := 12) C dX6_seizeLots_12 rfl (lv_at hl 0 rfl) ?_
      obtain ⟨q3, h⟩ := ck_some h
      refine G_X6_lots (pc := 13) C hM bw_1_183 q3 dX6_seizeLots_13 ?_
      refine m_iload_n (pc := 16) C dX6_seizeLots_16 rfl (lv_at hl 2 rfl) ?_
      obtain ⟨q4, h⟩ := ck_some h
      refine m_aald (pc := 17) C hM q4.1 (by decide) (by decide) q4.2.1 q4.2.2 dX6_seizeLots_17 ?_
      refine m_astore_n (pc := 18) C dX6_seizeLots_18 rfl hl (by decide) (lvK1 0 rfl (Nat.ne_of_beq_eq_false rfl) (Nat.ne_of_beq_eq_false rfl) (lvK1 1 rfl (Nat.ne_of_beq_eq_false rfl) (Nat.ne_of_beq_eq_false rfl) (lvK2 2 rfl (Nat.ne_of_beq_eq_false rfl) rfl lvK0))) (fun ls hl => ?_)
      refine m_aload_n (pc := 19) C dX6_seizeLots_19 rfl (lv_at hl 0 rfl) ?_
      refine m_aload_n (pc := 20) C dX6_seizeLots_20 rfl (lv_at hl 1 rfl) ?_
      obtain ⟨q5, h⟩ := ck_some h
      have gq5 := Gr_X6_day hM q5
      refine G_X6_day (pc := 21) C hM bw_1_195 q5 dX6_seizeLots_21 ?_
      obtain ⟨q6, h⟩ := ck_some h
      obtain ⟨a7, μ8, ca7, h⟩ := bd_some h
      refine V_X2_endsBefore (pc := 24) C hM ca7 gq5 q6 bw_2_196 ⟨Nat.le_of_ble_eq_true rfl, Nat.le_of_ble_eq_true rfl⟩ hl.1 rc0 ⟨Nat.le_refl _, Nat.le_refl _⟩ dX6_seizeLots_24 (fun ra7 H locs hM => ?_)
      refine m_if_eq (tgt := 68) (pc := 27) C ra7 dX6_seizeLots_27 (by decide) (fun c9 => ?_) (fun c9 => ?_)
      · have h := if_t h c9
        obtain ⟨a10, ea10, h⟩ := nm_some h
        have ra10 : R32 a10 := by rw [ea10]; exact w32_R _
        refine m_iinc (k := 3) (pc := 68) C dX6_seizeLots_68 hl rfl (by decide) ea10 (lvK1 1 rfl (Nat.ne_of_beq_eq_false rfl) (Nat.ne_of_beq_eq_false rfl) (lvK2 2 rfl (Nat.ne_of_beq_eq_false rfl) rfl lvK0)) (fun ls hl => ?_)
        refine m_goto (tgt := 4) (pc := 71) C dX6_seizeLots_71 (by decide) ?_
        exact ih _ _ _ _ h rx1 ra10 _ _ _ hM (lv_sub hl [1, 2, 0] rfl)
      · have h := if_f h c9
        refine m_aload_n (pc := 30) C dX6_seizeLots_30 rfl (lv_at hl 0 rfl) ?_
        refine m_iconst (pc := 31) C dX6_seizeLots_31 ?_
        refine m_aload_n (pc := 32) C dX6_seizeLots_32 rfl (lv_at hl 0 rfl) ?_
        obtain ⟨q11, h⟩ := ck_some h
        have gq11 := Gr_X2_stored hM q11
        refine G_X2_stored (pc := 33) C hM bw_1_115 q11 dX6_seizeLots_33 ?_
        obtain ⟨q12, h⟩ := ck_some h
        obtain ⟨a13, μ14, ca13, h⟩ := bd_some h
        refine V_X2_dutyOfNext (pc := 36) C hM ca13 rk_0 gq11 q12 bw_2_200 ⟨Nat.le_of_ble_eq_true rfl, Nat.le_of_ble_eq_true rfl⟩ hl.1 rc0 ⟨Nat.le_refl _, Nat.le_refl _⟩ dX6_seizeLots_36 (fun ra13 H locs hM => ?_)
        refine m_istore (pc := 39) C dX6_seizeLots_39 hl (by decide) (lvK2 0 rfl (Nat.ne_of_beq_eq_false rfl) (vr_cat _ _) (lvK1 1 rfl (Nat.ne_of_beq_eq_false rfl) (Nat.ne_of_beq_eq_false rfl) (lvK1 2 rfl (Nat.ne_of_beq_eq_false rfl) (Nat.ne_of_beq_eq_false rfl) (lvK1 3 rfl (Nat.ne_of_beq_eq_false rfl) (Nat.ne_of_beq_eq_false rfl) lvK0)))) (fun ls hl => ?_)
        refine m_aload_n (pc := 41) C dX6_seizeLots_41 rfl (lv_at hl 1 rfl) ?_
        refine m_iconst (pc := 42) C dX6_seizeLots_42 ?_
        obtain ⟨q15, h⟩ := ck_some h
        obtain ⟨μ16, eμ16, h⟩ := nm_some h
        refine P_X2_stored (pc := 43) C hM bw_1_115 q15 rk_0 eμ16 dX6_seizeLots_43 (fun H locs hM => ?_)
        refine m_aload_n (pc := 46) C dX6_seizeLots_46 rfl (lv_at hl 2 rfl) ?_
        refine m_dup (pc := 47) C (vr_cat _ _) dX6_seizeLots_47 ?_
        obtain ⟨q17, h⟩ := ck_some h
        have gq17 := Gr_X6_seizedLots hM q17
        refine G_X6_seizedLots (pc := 48) C hM bw_1_193 q17 dX6_seizeLots_48 ?_
        refine m_iconst (pc := 51) C dX6_seizeLots_51 ?_
        obtain ⟨a18, ea18, h⟩ := nm_some h
        have ra18 : R32 a18 := by rw [ea18]; exact w32_R _
        refine m_iadd (pc := 52) C dX6_seizeLots_52 ea18 ?_
        obtain ⟨q19, h⟩ := ck_some h
        obtain ⟨μ20, eμ20, h⟩ := nm_some h
        refine P_X6_seizedLots (pc := 53) C hM bw_1_193 q19 ra18 eμ20 dX6_seizeLots_53 (fun H locs hM => ?_)
        refine m_aload_n (pc := 56) C dX6_seizeLots_56 rfl (lv_at hl 2 rfl) ?_
        refine m_aload_n (pc := 57) C dX6_seizeLots_57 rfl (lv_at hl 1 rfl) ?_
        refine m_iload (pc := 58) C dX6_seizeLots_58 (lv_at hl 0 rfl) ?_
        obtain ⟨q21, h⟩ := ck_some h
        obtain ⟨a22, μ23, ca22, h⟩ := bd_some h
        refine V_X6_callDuty (pc := 60) C hM ca22 ra13 q21 bw_2_180 ⟨Nat.le_of_ble_eq_true rfl, Nat.le_of_ble_eq_true rfl⟩ hl.1 rc0 ⟨Nat.le_refl _, Nat.le_refl _⟩ dX6_seizeLots_60 (fun _ H locs hM => ?_)
        refine m_iload_n (pc := 63) C dX6_seizeLots_63 rfl (lv_at hl 3 rfl) ?_
        refine m_iload (pc := 64) C dX6_seizeLots_64 (lv_at hl 0 rfl) ?_
        obtain ⟨a24, ea24, h⟩ := nm_some h
        have ra24 : R32 a24 := by rw [ea24]; exact w32_R _
        refine m_iadd (pc := 66) C dX6_seizeLots_66 ea24 ?_
        refine m_istore_n (pc := 67) C dX6_seizeLots_67 rfl hl (by decide) (lvK2 2 rfl (Nat.ne_of_beq_eq_false rfl) (vr_cat _ _) (lvK1 4 rfl (Nat.ne_of_beq_eq_false rfl) (Nat.ne_of_beq_eq_false rfl) lvK0)) (fun ls hl => ?_)
        obtain ⟨a25, ea25, h⟩ := nm_some h
        have ra25 : R32 a25 := by rw [ea25]; exact w32_R _
        refine m_iinc (k := 2) (pc := 68) C dX6_seizeLots_68 hl rfl (by decide) ea25 (lvK2 0 rfl (Nat.ne_of_beq_eq_false rfl) rfl (lvK1 1 rfl (Nat.ne_of_beq_eq_false rfl) (Nat.ne_of_beq_eq_false rfl) lvK0)) (fun ls hl => ?_)
        refine m_goto (tgt := 4) (pc := 71) C dX6_seizeLots_71 (by decide) ?_
        exact ih _ _ _ _ h ra24 ra25 _ _ _ hM (lv_sub hl [2, 1, 0] rfl)
set_option maxHeartbeats 4000000 in
set_option maxRecDepth 100000 in
theorem c_X6_seizeLots (l : Launch) (E : gE) (N : Nat) (x0 : Int) (μ μ' : Mm) (r : Int) (h : f_X6_seizeLots N x0 μ = some (r, μ')) : gMet l E yX6_seizeLots cX6_seizeLots 5 (some .int) 2 45 [vr E x0] (some (vi r)) (R32 r) μ μ' 0 0 := by
  refine g_ofW [1] (by first | (simp only [List.map_cons, List.map_nil, vr_cat]; done) | (simp only [List.map_cons, List.map_nil, vr_cat]; rfl)) (by decide) (by decide) (fun p e s m below meth c ls C hM hl => ?_)
  replace C : gCx p s m _ meth c cX6_seizeLots 5 (some .int) "seizeLots" RX6 := C
  replace hl : lv_has ls 5 [(0, vr E x0)] := hl
  unfold f_X6_seizeLots at h
  refine m_iconst (pc := 0) C dX6_seizeLots_0 ?_
  refine m_istore_n (pc := 1) C dX6_seizeLots_1 rfl hl (by decide) (lvK2 0 rfl (Nat.ne_of_beq_eq_false rfl) (vr_cat _ _) lvK0) (fun ls hl => ?_)
  refine m_iconst (pc := 2) C dX6_seizeLots_2 ?_
  refine m_istore_n (pc := 3) C dX6_seizeLots_3 rfl hl (by decide) (lvK2 0 rfl (Nat.ne_of_beq_eq_false rfl) rfl (lvK1 1 rfl (Nat.ne_of_beq_eq_false rfl) (Nat.ne_of_beq_eq_false rfl) lvK0)) (fun ls hl => ?_)
  exact k_X6_seizeLots_b4 C N N _ _ _ _ h rk_0 rk_0 _ _ _ hM (lv_sub hl [2, 1, 0] rfl)
theorem hd_X6_seizeLots : yX6_seizeLots.cls ≠ "java/lang/invoke/MethodHandle" ∧ yX6_seizeLots.cls ≠ "java/lang/invoke/VarHandle" ∧ (parseMethodDescriptor yX6_seizeLots.desc).map (fun d => d.parameters.length) = some 0 := by decide +kernel

theorem V_X6_seizeLots {p : Program} {l : Launch} {e : Env} {R : Room} {s : State} {m : MethodId} {args : Array Value} {below : List Frame} {meth : Method} {c : Code} {H : Heap} {locs : List Loc} {cells slots : Nat} {Q : State → Prop} {cc : ByteArray} {pc nL : Nat} {ls : Array Slot} {rest : List Value} {ret : Option FieldType} {nmm own : String} {E : gE} {μ μ1 : Mm} {index : Nat} (C : gCx p s m args meth c cc nL ret nmm own) (hM : MS E μ s H locs) {N : Nat} {x0 v : Int} (hc : f_X6_seizeLots N x0 μ = some (v, μ1)) (hck : μ x0 (-2) = 8) (h1 : Cond.methodLink own index yX6_seizeLots ∈ bigL) (hR : 3 ≤ R.frames ∧ 69 ≤ R.locals) (hl : ls.size = nL) (hcat : RC rest 8) (hf : cells + 0 ≤ R.cells ∧ slots + 0 ≤ R.slots) (hdg : decode cc pc = .ok (.invokevirtual index, 3)) (kk : (R32 v) → ∀ (H1 : Heap) (locs1 : List Loc), MS E μ1 s H1 locs1 → W p l e R s m args below meth c H1 locs1 (cells + 0) (slots + 0) Q (F0 m (pc + 3) ls (vi v :: rest))) : W p l e R s m args below meth c H locs cells slots Q (F0 m pc ls (vr E x0 :: rest)) := g_callV C KF_X6 hM (c_X6_seizeLots l E N x0 μ μ1 v hc) hck (gV h1 bw_2_193 bw_2_194 bw_1_2 bw_2_195) ⟨rfl, hd_X6_seizeLots⟩ hR rfl hl rfl hcat hf hdg kk
/-! J5_init_d00df -/
def f_J5_init_d00df (N : Nat) (x0 x1 : Int) (μ : Mm) : Rs :=
  ck ((1 : Int) ≤ x0) <|
  if (1 : Int) = 0 then
    (none)
  else
  ck ((1 : Int) ≤ 1 ∧ (0 : Int) ≤ x1 ∧ (x1 : Int) ≤ 16 ∧ (x1 : Int) ≤ 4096) <|
  nm (μ 0 0 + 1) fun o5 =>
  nm (mnew μ 21 x1 x1) fun μ4 =>
  ck (μ4 x0 (-2) = 1) <|
  nm (mset μ4 x0 0 o5) fun μ7 =>
  ck (μ7 x0 (-2) = 1 ∧ (-128 : Int) ≤ 0 ∧ 0 ≤ (127 : Int)) <|
  nm (mset μ7 x0 1 0) fun μ9 =>
  some (0, μ9)
set_option maxHeartbeats 4000000 in
set_option maxRecDepth 100000 in
theorem c_J5_init_d00df (l : Launch) (E : gE) (N : Nat) (x0 x1 : Int) (μ μ' : Mm) (r : Int) (h : f_J5_init_d00df N x0 x1 μ = some (r, μ')) (rx1 : R32 x1) : gMet l E yJ5_init_d00df cJ5_init_d00df 2 none 1 20 [vr E x0, vi x1] none True μ μ' 1 16 := by
  refine g_ofW [1, 1] (by first | (simp only [List.map_cons, List.map_nil, vr_cat]; done) | (simp only [List.map_cons, List.map_nil, vr_cat]; rfl)) (by decide) (by decide) (fun p e s m below meth c ls C hM hl => ?_)
  replace C : gCx p s m _ meth c cJ5_init_d00df 2 none "<init>" RJ5 := C
  replace hl : lv_has ls 2 [(0, vr E x0), (1, vi x1)] := hl
  unfold f_J5_init_d00df at h
  have hb : ((0 : Nat) : Int) + 1 ≤ 1 ∧ (0 : Int) ≤ 1 ∧ ((0 : Nat) : Int) + 16 ≤ 16 ∧ (0 : Int) ≤ 16 := by decide
  refine m_aload_n (pc := 0) C dJ5_init_d00df_0 rfl (lv_at hl 0 rfl) ?_
  obtain ⟨q1, h⟩ := ck_some h
  refine m_objInit (pc := 1) C q1 bw_2_39 bw_1_26 bw_1_27 hl.1 rc0 ⟨Nat.le_of_ble_eq_true rfl, Nat.le_of_ble_eq_true rfl⟩ dJ5_init_d00df_1 ?_
  refine m_compact (pc := 4) C hM bw_2_40 dJ5_init_d00df_4 ?_
  refine m_if_eq (tgt := 25) (pc := 7) C rk_1 dJ5_init_d00df_7 (by decide) (fun c2 => ?_) (fun c2 => ?_)
  · have h := if_t h c2
    refine m_aload_n (pc := 25) C dJ5_init_d00df_25 rfl (lv_at hl 0 rfl) ?_
    refine m_iload_n (pc := 26) C dJ5_init_d00df_26 rfl (lv_at hl 1 rfl) ?_
    cases h
  · have h := if_f h c2
    refine m_aload_n (pc := 10) C dJ5_init_d00df_10 rfl (lv_at hl 0 rfl) ?_
    refine m_iload_n (pc := 11) C dJ5_init_d00df_11 rfl (lv_at hl 1 rfl) ?_
    obtain ⟨q3, h⟩ := ck_some h
    obtain ⟨o5, eo5, h⟩ := nm_some h
    obtain ⟨μ4, eμ4, h⟩ := nm_some h
    have po5 : 1 ≤ o5 := by have := hM.wf.1; omega
    refine m_newa (atype := .byte) (kc := 21) (t0 := 0) (pc := 12) C hM rfl (by decide) rfl (fun C => by intro q; cases q) bw_2_62 rx1 q3.2.1 (nb8 q3.2.2.2 (by decide)) (by show _ + 1 ≤ 1; omega) (by show _ + (x1 : Int).toNat ≤ 16; omega) eμ4 dJ5_init_d00df_12 (fun H hM => ?_)
    rw [← eo5]
    replace hb : ((0 + 1 : Nat) : Int) + (1 - 1) ≤ 1 ∧ (0 : Int) ≤ 1 - 1 ∧ ((0 + (x1 : Int).toNat : Nat) : Int) + (16 - x1) ≤ 16 ∧ (0 : Int) ≤ 16 - x1 := by omega
    obtain ⟨q6, h⟩ := ck_some h
    obtain ⟨μ7, eμ7, h⟩ := nm_some h
    refine P_J4_value (pc := 14) C hM bw_2_49 q6 eμ7 dJ5_init_d00df_14 (fun H locs hM => ?_)
    refine m_aload_n (pc := 17) C dJ5_init_d00df_17 rfl (lv_at hl 0 rfl) ?_
    refine m_iconst (pc := 18) C dJ5_init_d00df_18 ?_
    obtain ⟨q8, h⟩ := ck_some h
    obtain ⟨μ9, eμ9, h⟩ := nm_some h
    refine P_J4_coder (pc := 19) C hM bw_2_50 q8.1 q8.2 eμ9 dJ5_init_d00df_19 (fun H locs hM => ?_)
    refine m_goto (tgt := 38) (pc := 22) C dJ5_init_d00df_22 (by decide) ?_
    cases h
    refine W.widen (k := 1) (n := 16) (by omega) (by omega) ?_
    exact m_vret (pc := 38) C hM trivial dJ5_init_d00df_38
theorem hd_J5_init_d00df : yJ5_init_d00df.cls ≠ "java/lang/invoke/MethodHandle" ∧ yJ5_init_d00df.cls ≠ "java/lang/invoke/VarHandle" ∧ (parseMethodDescriptor yJ5_init_d00df.desc).map (fun d => d.parameters.length) = some 1 := by decide +kernel

theorem V_J5_init_d00df {p : Program} {l : Launch} {e : Env} {R : Room} {s : State} {m : MethodId} {args : Array Value} {below : List Frame} {meth : Method} {c : Code} {H : Heap} {locs : List Loc} {cells slots : Nat} {Q : State → Prop} {cc : ByteArray} {pc nL : Nat} {ls : Array Slot} {rest : List Value} {ret : Option FieldType} {nmm own : String} {E : gE} {μ μ1 : Mm} {index : Nat} (C : gCx p s m args meth c cc nL ret nmm own) (hM : MS E μ s H locs) {N : Nat} {x0 x1 v : Int} (hc : f_J5_init_d00df N x0 x1 μ = some (v, μ1)) (rx1 : R32 x1) (hck : 1 ≤ x0) (h1 : Cond.methodLink own index yJ5_init_d00df ∈ bigL) (hR : 2 ≤ R.frames ∧ 41 ≤ R.locals) (hl : ls.size = nL) (hcat : RC rest 8) (hf : cells + 1 ≤ R.cells ∧ slots + 16 ≤ R.slots) (hdg : decode cc pc = .ok (.invokespecial index, 3)) (kk : True → ∀ (H1 : Heap) (locs1 : List Loc), MS E μ1 s H1 locs1 → W p l e R s m args below meth c H1 locs1 (cells + 1) (slots + 16) Q (F0 m (pc + 3) ls rest)) : W p l e R s m args below meth c H locs cells slots Q (F0 m pc ls (vi x1 :: vr E x0 :: rest)) := g_callI C hM (c_J5_init_d00df l E N x0 x1 μ μ1 v hc rx1) hck h1 bw_2_37 bw_1_9 bw_2_38 rfl hd_J5_init_d00df hR rfl hl rfl hcat hf hdg kk
/-! J4_init_da8c8 -/
def f_J4_init_da8c8 (N : Nat) (x0 : Int) (μ : Mm) : Rs :=
  ck ((1 : Int) ≤ x0) <|
  ck ((1 : Int) ≤ 1 ∧ (16 : Int) ≤ 16) <|
  bd (f_J5_init_d00df N x0 16 μ) fun a3 μ4 =>
  some (0, μ4)
set_option maxHeartbeats 4000000 in
set_option maxRecDepth 100000 in
theorem c_J4_init_da8c8 (l : Launch) (E : gE) (N : Nat) (x0 : Int) (μ μ' : Mm) (r : Int) (h : f_J4_init_da8c8 N x0 μ = some (r, μ')) : gMet l E yJ4_init_da8c8 cJ4_init_da8c8 1 none 2 41 [vr E x0] none True μ μ' 1 16 := by
  refine g_ofW [1] (by first | (simp only [List.map_cons, List.map_nil, vr_cat]; done) | (simp only [List.map_cons, List.map_nil, vr_cat]; rfl)) (by decide) (by decide) (fun p e s m below meth c ls C hM hl => ?_)
  replace C : gCx p s m _ meth c cJ4_init_da8c8 1 none "<init>" RJ4 := C
  replace hl : lv_has ls 1 [(0, vr E x0)] := hl
  unfold f_J4_init_da8c8 at h
  have hb : ((0 : Nat) : Int) + 1 ≤ 1 ∧ (0 : Int) ≤ 1 ∧ ((0 : Nat) : Int) + 16 ≤ 16 ∧ (0 : Int) ≤ 16 := by decide
  refine m_aload_n (pc := 0) C dJ4_init_da8c8_0 rfl (lv_at hl 0 rfl) ?_
  refine m_bipush (pc := 1) C dJ4_init_da8c8_1 rfl ?_
  obtain ⟨q1, h⟩ := ck_some h
  obtain ⟨q2, h⟩ := ck_some h
  obtain ⟨a3, μ4, ca3, h⟩ := bd_some h
  refine V_J5_init_d00df (pc := 3) C hM ca3 rk_16 q1 bw_2_36 ⟨Nat.le_of_ble_eq_true rfl, Nat.le_of_ble_eq_true rfl⟩ hl.1 rc0 ⟨by show _ + 1 ≤ 1; omega, by show _ + 16 ≤ 16; omega⟩ dJ4_init_da8c8_3 (fun _ H locs hM => ?_)
  replace hb : ((0 + 1 : Nat) : Int) + (1 - 1) ≤ 1 ∧ (0 : Int) ≤ 1 - 1 ∧ ((0 + 16 : Nat) : Int) + (16 - 16) ≤ 16 ∧ (0 : Int) ≤ 16 - 16 := by omega
  cases h
  refine W.widen (k := 1) (n := 16) (by omega) (by omega) ?_
  exact m_vret (pc := 6) C hM trivial dJ4_init_da8c8_6
theorem hd_J4_init_da8c8 : yJ4_init_da8c8.cls ≠ "java/lang/invoke/MethodHandle" ∧ yJ4_init_da8c8.cls ≠ "java/lang/invoke/VarHandle" ∧ (parseMethodDescriptor yJ4_init_da8c8.desc).map (fun d => d.parameters.length) = some 0 := by decide +kernel

theorem V_J4_init_da8c8 {p : Program} {l : Launch} {e : Env} {R : Room} {s : State} {m : MethodId} {args : Array Value} {below : List Frame} {meth : Method} {c : Code} {H : Heap} {locs : List Loc} {cells slots : Nat} {Q : State → Prop} {cc : ByteArray} {pc nL : Nat} {ls : Array Slot} {rest : List Value} {ret : Option FieldType} {nmm own : String} {E : gE} {μ μ1 : Mm} {index : Nat} (C : gCx p s m args meth c cc nL ret nmm own) (hM : MS E μ s H locs) {N : Nat} {x0 v : Int} (hc : f_J4_init_da8c8 N x0 μ = some (v, μ1)) (hck : 1 ≤ x0) (h1 : Cond.methodLink own index yJ4_init_da8c8 ∈ bigL) (hR : 3 ≤ R.frames ∧ 61 ≤ R.locals) (hl : ls.size = nL) (hcat : RC rest 8) (hf : cells + 1 ≤ R.cells ∧ slots + 16 ≤ R.slots) (hdg : decode cc pc = .ok (.invokespecial index, 3)) (kk : True → ∀ (H1 : Heap) (locs1 : List Loc), MS E μ1 s H1 locs1 → W p l e R s m args below meth c H1 locs1 (cells + 1) (slots + 16) Q (F0 m (pc + 3) ls rest)) : W p l e R s m args below meth c H locs cells slots Q (F0 m pc ls (vr E x0 :: rest)) := g_callI C hM (c_J4_init_da8c8 l E N x0 μ μ1 v hc) hck h1 bw_2_34 bw_1_10 bw_2_35 rfl hd_J4_init_da8c8 hR rfl hl rfl hcat hf hdg kk
/-! X7_init -/
def f_X7_init_b36 (N : Nat) : Nat → Int → Int → Int → Int → Mm → Rs
  | 0, _, _, _, _, _ => none
  | n + 1, x0, x1, bc, bs, μ =>
    if 2 ≤ x1 then
      (ck ((1 : Int) ≤ bc ∧ (0 : Int) ≤ 2 ∧ (2 : Int) ≤ bs ∧ (2 : Int) ≤ 4096) <|
       nm (μ 0 0 + 1) fun o4 =>
       nm (mnew μ 25 2 2) fun μ3 =>
       ck (μ3 x0 (-2) = 9) <|
       nm (mset μ3 x0 3 o4) fun μ6 =>
       ck ((1 : Int) ≤ (bc - 1) ∧ (5 : Int) ≤ (bs - 2)) <|
       nm (μ6 0 0 + 1) fun o9 =>
       nm (mnew μ6 5 0 5) fun μ8 =>
       ck ((1 : Int) ≤ o9) <|
       ck ((2 : Int) ≤ (bc - 1 - 1) ∧ (84 : Int) ≤ (bs - 2 - 5)) <|
       bd (f_X3_init N o9 μ8) fun a12 μ13 =>
       ck (μ13 x0 (-2) = 9) <|
       nm (mset μ13 x0 4 o9) fun μ15 =>
       ck ((1 : Int) ≤ (bc - 1 - 1 - 2) ∧ (4 : Int) ≤ (bs - 2 - 5 - 84)) <|
       nm (μ15 0 0 + 1) fun o18 =>
       nm (mnew μ15 1 0 4) fun μ17 =>
       ck ((1 : Int) ≤ o18) <|
       ck ((1 : Int) ≤ (bc - 1 - 1 - 2 - 1) ∧ (16 : Int) ≤ (bs - 2 - 5 - 84 - 4)) <|
       bd (f_J4_init_da8c8 N o18 μ17) fun a21 μ22 =>
       ck (μ22 x0 (-2) = 9) <|
       nm (mset μ22 x0 5 o18) fun μ24 =>
       ck (μ24 x0 (-2) = 9) <|
       nm (mset μ24 x0 6 0) fun μ26 =>
       some (0, μ26))
    else
    ck (μ x0 (-2) = 9) <|
    ck ((1 : Int) ≤ bc ∧ (11 : Int) ≤ bs) <|
    nm (μ 0 0 + 1) fun o30 =>
    nm (mnew μ 8 0 11) fun μ29 =>
    ck ((1 : Int) ≤ o30) <|
    ck ((70 : Int) ≤ (bc - 1) ∧ (577 : Int) ≤ (bs - 11)) <|
    bd (f_X6_init N o30 μ29) fun a33 μ34 =>
    ck (μ34 (μ x0 2) (-2) = 26 ∧ (0 : Int) ≤ x1 ∧ x1 < μ34 (μ x0 2) (-1) ∧ μ34 o30 (-2) = 8) <|
    nm (mset μ34 (μ x0 2) x1 o30) fun μ36 =>
    nm (w32 (x1 + 1)) fun a37 =>
    f_X7_init_b36 N n x0 a37 (bc - 1 - 70) (bs - 11 - 577) μ36
def f_X7_init (N : Nat) (x0 : Int) (μ : Mm) : Rs :=
  ck ((1 : Int) ≤ x0) <|
  ck ((1 : Int) ≤ 719 ∧ (11 : Int) ≤ 6003) <|
  nm (μ 0 0 + 1) fun o4 =>
  nm (mnew μ 8 0 11) fun μ3 =>
  ck ((1 : Int) ≤ o4) <|
  ck ((70 : Int) ≤ (719 - 1) ∧ (577 : Int) ≤ (6003 - 11)) <|
  bd (f_X6_init N o4 μ3) fun a7 μ8 =>
  ck (μ8 x0 (-2) = 9) <|
  nm (mset μ8 x0 0 o4) fun μ10 =>
  ck ((1 : Int) ≤ (719 - 1 - 70) ∧ (3 : Int) ≤ (6003 - 11 - 577)) <|
  nm (μ10 0 0 + 1) fun o13 =>
  nm (mnew μ10 3 0 3) fun μ12 =>
  ck ((1 : Int) ≤ o13) <|
  ck ((498 : Int) ≤ (719 - 1 - 70 - 1) ∧ (4123 : Int) ≤ (6003 - 11 - 577 - 3)) <|
  bd (f_X1_init N o13 μ12) fun a16 μ17 =>
  ck (μ17 x0 (-2) = 9) <|
  nm (mset μ17 x0 1 o13) fun μ19 =>
  ck ((1 : Int) ≤ (719 - 1 - 70 - 1 - 498) ∧ (0 : Int) ≤ 2 ∧ (2 : Int) ≤ (6003 - 11 - 577 - 3 - 4123) ∧ (2 : Int) ≤ 4096) <|
  nm (μ19 0 0 + 1) fun o22 =>
  nm (mnew μ19 26 2 2) fun μ21 =>
  ck (μ21 x0 (-2) = 9) <|
  nm (mset μ21 x0 2 o22) fun μ24 =>
  f_X7_init_b36 N N x0 0 (719 - 1 - 70 - 1 - 498 - 1) (6003 - 11 - 577 - 3 - 4123 - 2) μ24
set_option maxHeartbeats 4000000 in
set_option maxRecDepth 100000 in
theorem k_X7_init_b36 (C : gCx p s m args meth c cX7_init 2 none "<init>" RX7) (N : Nat) {r : Int} {μ' : Mm} : ∀ (n : Nat), ∀ (x0 x1 bc bs : Int) (μ : Mm), f_X7_init_b36 N n x0 x1 bc bs μ = some (r, μ') → R32 x1 → ∀ (H : Heap) (locs : List Loc) (ls : Array Slot) (cells slots : Nat), (cells : Int) + bc ≤ 719 ∧ 0 ≤ bc ∧ (slots : Int) + bs ≤ 6003 ∧ 0 ≤ bs → MS E μ s H locs → lv_has ls 2 [(0, vr E x0), (1, vi x1)] → W p l e ({ frames := 4, cells := 719, slots := 6003, locals := 83 } : Room) s m args below meth c H locs cells slots (MQ below (gQ E none True μ') args s 719 6003 (gA E)) (F0 m 36 ls []) := by
  intro n
  induction n with
  | zero => intro x0 x1 bc bs μ h; simp [f_X7_init_b36] at h
  | succ n ih =>
    intro x0 x1 bc bs μ h rx1 H locs ls cells slots hb hM hl
    rw [f_X7_init_b36] at h
    refine m_iload_n (pc := 36) C dX7_init_36 rfl (lv_at hl 1 rfl) ?_
    refine m_iconst (pc := 37) C dX7_init_37 ?_
    refine m_icmp_ge (tgt := 60) (pc := 38) C rx1 rk_2 dX7_init_38 (by decide) (fun c1 => ?_) (fun c1 => ?_)
    · have h := if_t h c1
      refine m_aload_n (pc := 60) C dX7_init_60 rfl (lv_at hl 0 rfl) ?_
      refine m_iconst (pc := 61) C dX7_init_61 ?_
      obtain ⟨q2, h⟩ := ck_some h
      obtain ⟨o4, eo4, h⟩ := nm_some h
      obtain ⟨μ3, eμ3, h⟩ := nm_some h
      have po4 : 1 ≤ o4 := by have := hM.wf.1; omega
      refine m_newa (atype := .boolean) (kc := 25) (t0 := 4) (pc := 62) C hM rfl (by decide) rfl (fun C => by intro q; cases q) bw_2_29 rk_2 q2.2.1 (nb8 q2.2.2.2 (by decide)) (by show _ + 1 ≤ 719; omega) (by show _ + (2 : Int).toNat ≤ 6003; omega) eμ3 dX7_init_62 (fun H hM => ?_)
      rw [← eo4]
      replace hb : ((cells + 1 : Nat) : Int) + (bc - 1) ≤ 719 ∧ (0 : Int) ≤ bc - 1 ∧ ((slots + (2 : Int).toNat : Nat) : Int) + (bs - 2) ≤ 6003 ∧ (0 : Int) ≤ bs - 2 := by omega
      obtain ⟨q5, h⟩ := ck_some h
      obtain ⟨μ6, eμ6, h⟩ := nm_some h
      refine P_X7_filled (pc := 64) C hM bw_2_66 q5 eμ6 dX7_init_64 (fun H locs hM => ?_)
      refine m_aload_n (pc := 67) C dX7_init_67 rfl (lv_at hl 0 rfl) ?_
      obtain ⟨q7, h⟩ := ck_some h
      obtain ⟨o9, eo9, h⟩ := nm_some h
      obtain ⟨μ8, eμ8, h⟩ := nm_some h
      have po9 : 1 ≤ o9 := by have := hM.wf.1; omega
      refine m_new (pc := 68) C KF_X3 hM bw_2_4 bw_2_5 bw_1_8 fl_X3 (by show _ + 1 ≤ 719; omega) (by show _ + 5 ≤ 6003; omega) eμ8 dX7_init_68 (fun H hM => ?_)
      rw [← eo9]
      replace hb : ((cells + 1 + 1 : Nat) : Int) + (bc - 1 - 1) ≤ 719 ∧ (0 : Int) ≤ bc - 1 - 1 ∧ ((slots + (2 : Int).toNat + 5 : Nat) : Int) + (bs - 2 - 5) ≤ 6003 ∧ (0 : Int) ≤ bs - 2 - 5 := by omega
      refine m_dup (pc := 71) C (vr_cat _ _) dX7_init_71 ?_
      obtain ⟨q10, h⟩ := ck_some h
      obtain ⟨q11, h⟩ := ck_some h
      obtain ⟨a12, μ13, ca12, h⟩ := bd_some h
      refine V_X3_init (pc := 72) C hM ca12 q10 bw_2_6 ⟨Nat.le_of_ble_eq_true rfl, Nat.le_of_ble_eq_true rfl⟩ hl.1 (rcR (rcR rc0)) ⟨by show _ + 2 ≤ 719; omega, by show _ + 84 ≤ 6003; omega⟩ dX7_init_72 (fun _ H locs hM => ?_)
      replace hb : ((cells + 1 + 1 + 2 : Nat) : Int) + (bc - 1 - 1 - 2) ≤ 719 ∧ (0 : Int) ≤ bc - 1 - 1 - 2 ∧ ((slots + (2 : Int).toNat + 5 + 84 : Nat) : Int) + (bs - 2 - 5 - 84) ≤ 6003 ∧ (0 : Int) ≤ bs - 2 - 5 - 84 := by omega
      obtain ⟨q14, h⟩ := ck_some h
      obtain ⟨μ15, eμ15, h⟩ := nm_some h
      refine P_X7_orders (pc := 75) C hM bw_2_67 q14 eμ15 dX7_init_75 (fun H locs hM => ?_)
      refine m_aload_n (pc := 78) C dX7_init_78 rfl (lv_at hl 0 rfl) ?_
      obtain ⟨q16, h⟩ := ck_some h
      obtain ⟨o18, eo18, h⟩ := nm_some h
      obtain ⟨μ17, eμ17, h⟩ := nm_some h
      have po18 : 1 ≤ o18 := by have := hM.wf.1; omega
      refine m_new (pc := 79) C KF_J4 hM bw_2_31 bw_2_32 bw_1_10 fl_J4 (by show _ + 1 ≤ 719; omega) (by show _ + 4 ≤ 6003; omega) eμ17 dX7_init_79 (fun H hM => ?_)
      rw [← eo18]
      replace hb : ((cells + 1 + 1 + 2 + 1 : Nat) : Int) + (bc - 1 - 1 - 2 - 1) ≤ 719 ∧ (0 : Int) ≤ bc - 1 - 1 - 2 - 1 ∧ ((slots + (2 : Int).toNat + 5 + 84 + 4 : Nat) : Int) + (bs - 2 - 5 - 84 - 4) ≤ 6003 ∧ (0 : Int) ≤ bs - 2 - 5 - 84 - 4 := by omega
      refine m_dup (pc := 82) C (vr_cat _ _) dX7_init_82 ?_
      obtain ⟨q19, h⟩ := ck_some h
      obtain ⟨q20, h⟩ := ck_some h
      obtain ⟨a21, μ22, ca21, h⟩ := bd_some h
      refine V_J4_init_da8c8 (pc := 83) C hM ca21 q19 bw_2_33 ⟨Nat.le_of_ble_eq_true rfl, Nat.le_of_ble_eq_true rfl⟩ hl.1 (rcR (rcR rc0)) ⟨by show _ + 1 ≤ 719; omega, by show _ + 16 ≤ 6003; omega⟩ dX7_init_83 (fun _ H locs hM => ?_)
      replace hb : ((cells + 1 + 1 + 2 + 1 + 1 : Nat) : Int) + (bc - 1 - 1 - 2 - 1 - 1) ≤ 719 ∧ (0 : Int) ≤ bc - 1 - 1 - 2 - 1 - 1 ∧ ((slots + (2 : Int).toNat + 5 + 84 + 4 + 16 : Nat) : Int) + (bs - 2 - 5 - 84 - 4 - 16) ≤ 6003 ∧ (0 : Int) ≤ bs - 2 - 5 - 84 - 4 - 16 := by omega
      obtain ⟨q23, h⟩ := ck_some h
      obtain ⟨μ24, eμ24, h⟩ := nm_some h
      refine P_X7_document (pc := 86) C hM bw_2_68 q23 eμ24 dX7_init_86 (fun H locs hM => ?_)
      refine m_aload_n (pc := 89) C dX7_init_89 rfl (lv_at hl 0 rfl) ?_
      refine m_iconst (pc := 90) C dX7_init_90 ?_
      obtain ⟨q25, h⟩ := ck_some h
      obtain ⟨μ26, eμ26, h⟩ := nm_some h
      refine P_X7_reason (pc := 91) C hM bw_2_69 q25 rk_0 eμ26 dX7_init_91 (fun H locs hM => ?_)
      cases h
      refine W.widen (k := 719) (n := 6003) (by omega) (by omega) ?_
      exact m_vret (pc := 94) C hM trivial dX7_init_94
    · have h := if_f h c1
      refine m_aload_n (pc := 41) C dX7_init_41 rfl (lv_at hl 0 rfl) ?_
      obtain ⟨q27, h⟩ := ck_some h
      refine G_X7_slots (pc := 42) C hM bw_2_65 q27 dX7_init_42 ?_
      refine m_iload_n (pc := 45) C dX7_init_45 rfl (lv_at hl 1 rfl) ?_
      obtain ⟨q28, h⟩ := ck_some h
      obtain ⟨o30, eo30, h⟩ := nm_some h
      obtain ⟨μ29, eμ29, h⟩ := nm_some h
      have po30 : 1 ≤ o30 := by have := hM.wf.1; omega
      refine m_new (pc := 46) C KF_X6 hM bw_1_28 bw_1_29 bw_1_2 fl_X6 (by show _ + 1 ≤ 719; omega) (by show _ + 11 ≤ 6003; omega) eμ29 dX7_init_46 (fun H hM => ?_)
      rw [← eo30]
      replace hb : ((cells + 1 : Nat) : Int) + (bc - 1) ≤ 719 ∧ (0 : Int) ≤ bc - 1 ∧ ((slots + 11 : Nat) : Int) + (bs - 11) ≤ 6003 ∧ (0 : Int) ≤ bs - 11 := by omega
      refine m_dup (pc := 49) C (vr_cat _ _) dX7_init_49 ?_
      obtain ⟨q31, h⟩ := ck_some h
      obtain ⟨q32, h⟩ := ck_some h
      obtain ⟨a33, μ34, ca33, h⟩ := bd_some h
      refine V_X6_init (pc := 50) C hM ca33 q31 bw_1_30 ⟨Nat.le_of_ble_eq_true rfl, Nat.le_of_ble_eq_true rfl⟩ hl.1 (rcR (rcI (rcR rc0))) ⟨by show _ + 70 ≤ 719; omega, by show _ + 577 ≤ 6003; omega⟩ dX7_init_50 (fun _ H locs hM => ?_)
      replace hb : ((cells + 1 + 70 : Nat) : Int) + (bc - 1 - 70) ≤ 719 ∧ (0 : Int) ≤ bc - 1 - 70 ∧ ((slots + 11 + 577 : Nat) : Int) + (bs - 11 - 577) ≤ 6003 ∧ (0 : Int) ≤ bs - 11 - 577 := by omega
      obtain ⟨q35, h⟩ := ck_some h
      obtain ⟨μ36, eμ36, h⟩ := nm_some h
      refine m_aast (t0 := 5) (pc := 53) C hM KF_X6 q35.1 (by decide) (by decide) rfl q35.2.1 q35.2.2.1 q35.2.2.2 eμ36 dX7_init_53 (fun H locs hM => ?_)
      obtain ⟨a37, ea37, h⟩ := nm_some h
      have ra37 : R32 a37 := by rw [ea37]; exact w32_R _
      refine m_iinc (k := 1) (pc := 54) C dX7_init_54 hl rfl (by decide) ea37 (lvK2 0 rfl (Nat.ne_of_beq_eq_false rfl) (vr_cat _ _) lvK0) (fun ls hl => ?_)
      refine m_goto (tgt := 36) (pc := 57) C dX7_init_57 (by decide) ?_
      exact ih _ _ _ _ _ h ra37 _ _ _ _ _ hb hM (lv_sub hl [1, 0] rfl)
set_option maxHeartbeats 4000000 in
set_option maxRecDepth 100000 in
theorem c_X7_init (l : Launch) (E : gE) (N : Nat) (x0 : Int) (μ μ' : Mm) (r : Int) (h : f_X7_init N x0 μ = some (r, μ')) : gMet l E yX7_init cX7_init 2 none 4 83 [vr E x0] none True μ μ' 719 6003 := by
  refine g_ofW [1] (by first | (simp only [List.map_cons, List.map_nil, vr_cat]; done) | (simp only [List.map_cons, List.map_nil, vr_cat]; rfl)) (by decide) (by decide) (fun p e s m below meth c ls C hM hl => ?_)
  replace C : gCx p s m _ meth c cX7_init 2 none "<init>" RX7 := C
  replace hl : lv_has ls 2 [(0, vr E x0)] := hl
  unfold f_X7_init at h
  have hb : ((0 : Nat) : Int) + 719 ≤ 719 ∧ (0 : Int) ≤ 719 ∧ ((0 : Nat) : Int) + 6003 ≤ 6003 ∧ (0 : Int) ≤ 6003 := by decide
  refine m_aload_n (pc := 0) C dX7_init_0 rfl (lv_at hl 0 rfl) ?_
  obtain ⟨q1, h⟩ := ck_some h
  refine m_objInit (pc := 1) C q1 bw_1_25 bw_1_26 bw_1_27 hl.1 rc0 ⟨Nat.le_of_ble_eq_true rfl, Nat.le_of_ble_eq_true rfl⟩ dX7_init_1 ?_
  refine m_aload_n (pc := 4) C dX7_init_4 rfl (lv_at hl 0 rfl) ?_
  obtain ⟨q2, h⟩ := ck_some h
  obtain ⟨o4, eo4, h⟩ := nm_some h
  obtain ⟨μ3, eμ3, h⟩ := nm_some h
  have po4 : 1 ≤ o4 := by have := hM.wf.1; omega
  refine m_new (pc := 5) C KF_X6 hM bw_1_28 bw_1_29 bw_1_2 fl_X6 (by show _ + 1 ≤ 719; omega) (by show _ + 11 ≤ 6003; omega) eμ3 dX7_init_5 (fun H hM => ?_)
  rw [← eo4]
  replace hb : ((0 + 1 : Nat) : Int) + (719 - 1) ≤ 719 ∧ (0 : Int) ≤ 719 - 1 ∧ ((0 + 11 : Nat) : Int) + (6003 - 11) ≤ 6003 ∧ (0 : Int) ≤ 6003 - 11 := by omega
  refine m_dup (pc := 8) C (vr_cat _ _) dX7_init_8 ?_
  obtain ⟨q5, h⟩ := ck_some h
  obtain ⟨q6, h⟩ := ck_some h
  obtain ⟨a7, μ8, ca7, h⟩ := bd_some h
  refine V_X6_init (pc := 9) C hM ca7 q5 bw_1_30 ⟨Nat.le_of_ble_eq_true rfl, Nat.le_of_ble_eq_true rfl⟩ hl.1 (rcR (rcR rc0)) ⟨by show _ + 70 ≤ 719; omega, by show _ + 577 ≤ 6003; omega⟩ dX7_init_9 (fun _ H locs hM => ?_)
  replace hb : ((0 + 1 + 70 : Nat) : Int) + (719 - 1 - 70) ≤ 719 ∧ (0 : Int) ≤ 719 - 1 - 70 ∧ ((0 + 11 + 577 : Nat) : Int) + (6003 - 11 - 577) ≤ 6003 ∧ (0 : Int) ≤ 6003 - 11 - 577 := by omega
  obtain ⟨q9, h⟩ := ck_some h
  obtain ⟨μ10, eμ10, h⟩ := nm_some h
  refine P_X7_now (pc := 12) C hM bw_2_63 q9 eμ10 dX7_init_12 (fun H locs hM => ?_)
  refine m_aload_n (pc := 15) C dX7_init_15 rfl (lv_at hl 0 rfl) ?_
  obtain ⟨q11, h⟩ := ck_some h
  obtain ⟨o13, eo13, h⟩ := nm_some h
  obtain ⟨μ12, eμ12, h⟩ := nm_some h
  have po13 : 1 ≤ o13 := by have := hM.wf.1; omega
  refine m_new (pc := 16) C KF_X1 hM bw_1_224 bw_1_225 bw_1_7 fl_X1 (by show _ + 1 ≤ 719; omega) (by show _ + 3 ≤ 6003; omega) eμ12 dX7_init_16 (fun H hM => ?_)
  rw [← eo13]
  replace hb : ((0 + 1 + 70 + 1 : Nat) : Int) + (719 - 1 - 70 - 1) ≤ 719 ∧ (0 : Int) ≤ 719 - 1 - 70 - 1 ∧ ((0 + 11 + 577 + 3 : Nat) : Int) + (6003 - 11 - 577 - 3) ≤ 6003 ∧ (0 : Int) ≤ 6003 - 11 - 577 - 3 := by omega
  refine m_dup (pc := 19) C (vr_cat _ _) dX7_init_19 ?_
  obtain ⟨q14, h⟩ := ck_some h
  obtain ⟨q15, h⟩ := ck_some h
  obtain ⟨a16, μ17, ca16, h⟩ := bd_some h
  refine V_X1_init (pc := 20) C hM ca16 q14 bw_1_226 ⟨Nat.le_of_ble_eq_true rfl, Nat.le_of_ble_eq_true rfl⟩ hl.1 (rcR (rcR rc0)) ⟨by show _ + 498 ≤ 719; omega, by show _ + 4123 ≤ 6003; omega⟩ dX7_init_20 (fun _ H locs hM => ?_)
  replace hb : ((0 + 1 + 70 + 1 + 498 : Nat) : Int) + (719 - 1 - 70 - 1 - 498) ≤ 719 ∧ (0 : Int) ≤ 719 - 1 - 70 - 1 - 498 ∧ ((0 + 11 + 577 + 3 + 4123 : Nat) : Int) + (6003 - 11 - 577 - 3 - 4123) ≤ 6003 ∧ (0 : Int) ≤ 6003 - 11 - 577 - 3 - 4123 := by omega
  obtain ⟨q18, h⟩ := ck_some h
  obtain ⟨μ19, eμ19, h⟩ := nm_some h
  refine P_X7_history (pc := 23) C hM bw_2_64 q18 eμ19 dX7_init_23 (fun H locs hM => ?_)
  refine m_aload_n (pc := 26) C dX7_init_26 rfl (lv_at hl 0 rfl) ?_
  refine m_iconst (pc := 27) C dX7_init_27 ?_
  obtain ⟨q20, h⟩ := ck_some h
  obtain ⟨o22, eo22, h⟩ := nm_some h
  obtain ⟨μ21, eμ21, h⟩ := nm_some h
  have po22 : 1 ≤ o22 := by have := hM.wf.1; omega
  refine m_anew (kc := 26) (t0 := 5) (pc := 28) C hM (by decide) (by decide) rfl bw_1_28 (AO_X6 hM) rk_2 q20.2.1 (by omega) (by show _ + 1 ≤ 719; omega) (by show _ + (2 : Int).toNat ≤ 6003; omega) eμ21 dX7_init_28 (fun H hM => ?_)
  rw [← eo22]
  replace hb : ((0 + 1 + 70 + 1 + 498 + 1 : Nat) : Int) + (719 - 1 - 70 - 1 - 498 - 1) ≤ 719 ∧ (0 : Int) ≤ 719 - 1 - 70 - 1 - 498 - 1 ∧ ((0 + 11 + 577 + 3 + 4123 + (2 : Int).toNat : Nat) : Int) + (6003 - 11 - 577 - 3 - 4123 - 2) ≤ 6003 ∧ (0 : Int) ≤ 6003 - 11 - 577 - 3 - 4123 - 2 := by omega
  obtain ⟨q23, h⟩ := ck_some h
  obtain ⟨μ24, eμ24, h⟩ := nm_some h
  refine P_X7_slots (pc := 31) C hM bw_2_65 q23 eμ24 dX7_init_31 (fun H locs hM => ?_)
  refine m_iconst (pc := 34) C dX7_init_34 ?_
  refine m_istore_n (pc := 35) C dX7_init_35 rfl hl (by decide) (lvK2 0 rfl (Nat.ne_of_beq_eq_false rfl) (vr_cat _ _) lvK0) (fun ls hl => ?_)
  exact k_X7_init_b36 C N N _ _ _ _ _ h rk_0 _ _ _ _ _ hb hM (lv_sub hl [1, 0] rfl)
theorem hd_X7_init : yX7_init.cls ≠ "java/lang/invoke/MethodHandle" ∧ yX7_init.cls ≠ "java/lang/invoke/VarHandle" ∧ (parseMethodDescriptor yX7_init.desc).map (fun d => d.parameters.length) = some 0 := by decide +kernel

theorem V_X7_init {p : Program} {l : Launch} {e : Env} {R : Room} {s : State} {m : MethodId} {args : Array Value} {below : List Frame} {meth : Method} {c : Code} {H : Heap} {locs : List Loc} {cells slots : Nat} {Q : State → Prop} {cc : ByteArray} {pc nL : Nat} {ls : Array Slot} {rest : List Value} {ret : Option FieldType} {nmm own : String} {E : gE} {μ μ1 : Mm} {index : Nat} (C : gCx p s m args meth c cc nL ret nmm own) (hM : MS E μ s H locs) {N : Nat} {x0 v : Int} (hc : f_X7_init N x0 μ = some (v, μ1)) (hck : 1 ≤ x0) (h1 : Cond.methodLink own index yX7_init ∈ bigL) (hR : 5 ≤ R.frames ∧ 104 ≤ R.locals) (hl : ls.size = nL) (hcat : RC rest 8) (hf : cells + 719 ≤ R.cells ∧ slots + 6003 ≤ R.slots) (hdg : decode cc pc = .ok (.invokespecial index, 3)) (kk : True → ∀ (H1 : Heap) (locs1 : List Loc), MS E μ1 s H1 locs1 → W p l e R s m args below meth c H1 locs1 (cells + 719) (slots + 6003) Q (F0 m (pc + 3) ls rest)) : W p l e R s m args below meth c H locs cells slots Q (F0 m pc ls (vr E x0 :: rest)) := g_callI C hM (c_X7_init l E N x0 μ μ1 v hc) hck h1 bw_1_23 bw_1_1 bw_1_24 rfl hd_X7_init hR rfl hl rfl hcat hf hdg kk
/-! X7_finishAct -/
def f_X7_finishAct (N : Nat) (x0 x1 : Int) (μ : Mm) : Rs :=
  if x1 < 0 then
    (some (x1, μ))
  else
  ck (μ x0 (-2) = 9) <|
  ck (μ (μ x0 1) (-2) = 3) <|
  bd (f_X1_addPrepared N (μ x0 1) μ) fun a4 μ5 =>
  some (x1, μ5)
set_option maxHeartbeats 4000000 in
set_option maxRecDepth 100000 in
theorem c_X7_finishAct (l : Launch) (E : gE) (N : Nat) (x0 x1 : Int) (μ μ' : Mm) (r : Int) (h : f_X7_finishAct N x0 x1 μ = some (r, μ')) (rx1 : R32 x1) : gMet l E yX7_finishAct cX7_finishAct 2 (some .int) 1 20 [vr E x0, vi x1] (some (vi r)) (R32 r) μ μ' 0 0 := by
  refine g_ofW [1, 1] (by first | (simp only [List.map_cons, List.map_nil, vr_cat]; done) | (simp only [List.map_cons, List.map_nil, vr_cat]; rfl)) (by decide) (by decide) (fun p e s m below meth c ls C hM hl => ?_)
  replace C : gCx p s m _ meth c cX7_finishAct 2 (some .int) "finishAct" RX7 := C
  replace hl : lv_has ls 2 [(0, vr E x0), (1, vi x1)] := hl
  unfold f_X7_finishAct at h
  refine m_iload_n (pc := 0) C dX7_finishAct_0 rfl (lv_at hl 1 rfl) ?_
  refine m_if_lt (tgt := 11) (pc := 1) C rx1 dX7_finishAct_1 (by decide) (fun c1 => ?_) (fun c1 => ?_)
  · have h := if_t h c1
    refine m_iload_n (pc := 11) C dX7_finishAct_11 rfl (lv_at hl 1 rfl) ?_
    cases h
    exact m_iret (pc := 12) C hM rx1 dX7_finishAct_12
  · have h := if_f h c1
    refine m_aload_n (pc := 4) C dX7_finishAct_4 rfl (lv_at hl 0 rfl) ?_
    obtain ⟨q2, h⟩ := ck_some h
    refine G_X7_history (pc := 5) C hM bw_2_64 q2 dX7_finishAct_5 ?_
    obtain ⟨q3, h⟩ := ck_some h
    obtain ⟨a4, μ5, ca4, h⟩ := bd_some h
    refine V_X1_addPrepared (pc := 8) C hM ca4 q3 bw_2_125 ⟨Nat.le_of_ble_eq_true rfl, Nat.le_of_ble_eq_true rfl⟩ hl.1 rc0 ⟨Nat.le_refl _, Nat.le_refl _⟩ dX7_finishAct_8 (fun _ H locs hM => ?_)
    refine m_iload_n (pc := 11) C dX7_finishAct_11 rfl (lv_at hl 1 rfl) ?_
    cases h
    exact m_iret (pc := 12) C hM rx1 dX7_finishAct_12
theorem hd_X7_finishAct : yX7_finishAct.cls ≠ "java/lang/invoke/MethodHandle" ∧ yX7_finishAct.cls ≠ "java/lang/invoke/VarHandle" ∧ (parseMethodDescriptor yX7_finishAct.desc).map (fun d => d.parameters.length) = some 1 := by decide +kernel

theorem V_X7_finishAct {p : Program} {l : Launch} {e : Env} {R : Room} {s : State} {m : MethodId} {args : Array Value} {below : List Frame} {meth : Method} {c : Code} {H : Heap} {locs : List Loc} {cells slots : Nat} {Q : State → Prop} {cc : ByteArray} {pc nL : Nat} {ls : Array Slot} {rest : List Value} {ret : Option FieldType} {nmm own : String} {E : gE} {μ μ1 : Mm} {index : Nat} (C : gCx p s m args meth c cc nL ret nmm own) (hM : MS E μ s H locs) {N : Nat} {x0 x1 v : Int} (hc : f_X7_finishAct N x0 x1 μ = some (v, μ1)) (rx1 : R32 x1) (hck : μ x0 (-2) = 9) (h1 : Cond.methodLink own index yX7_finishAct ∈ bigL) (hR : 2 ≤ R.frames ∧ 41 ≤ R.locals) (hl : ls.size = nL) (hcat : RC rest 8) (hf : cells + 0 ≤ R.cells ∧ slots + 0 ≤ R.slots) (hdg : decode cc pc = .ok (.invokevirtual index, 3)) (kk : (R32 v) → ∀ (H1 : Heap) (locs1 : List Loc), MS E μ1 s H1 locs1 → W p l e R s m args below meth c H1 locs1 (cells + 0) (slots + 0) Q (F0 m (pc + 3) ls (vi v :: rest))) : W p l e R s m args below meth c H locs cells slots Q (F0 m pc ls (vi x1 :: vr E x0 :: rest)) := g_callV C KF_X7 hM (c_X7_finishAct l E N x0 x1 μ μ1 v hc rx1) hck (gV h1 bw_2_123 bs_0 bw_1_1 bw_2_124) ⟨rfl, hd_X7_finishAct⟩ hR rfl hl rfl hcat hf hdg kk
/-! X7_addOwner -/
def f_X7_addOwner (N : Nat) (x0 : Int) (μ : Mm) : Rs :=
  ck (μ x0 (-2) = 9) <|
  ck (μ (μ x0 0) (-2) = 8) <|
  if (μ (μ x0 0) 4) < 5 then
    (ck (μ x0 (-2) = 9) <|
     ck (μ x0 (-2) = 9) <|
     ck (μ (μ x0 1) (-2) = 3) <|
     bd (f_X1_prepare N (μ x0 1) (μ x0 0) μ) fun a7 μ8 =>
     ck (μ8 x0 (-2) = 9) <|
     ck (μ8 (μ8 x0 0) (-2) = 8) <|
     ck (μ8 x0 (-2) = 9) <|
     nm (w32 ((μ8 (μ8 x0 0) 4) + 1)) fun a12 =>
     ck (μ8 (μ8 x0 0) (-2) = 8) <|
     nm (mset μ8 (μ8 x0 0) 4 a12) fun μ14 =>
     ck (μ14 x0 (-2) = 9) <|
     bd (f_X7_finishAct N x0 (μ8 (μ8 x0 0) 4) μ14) fun a16 μ17 =>
     some (a16, μ17))
  else
  some ((-100000004), μ)
set_option maxHeartbeats 4000000 in
set_option maxRecDepth 100000 in
theorem c_X7_addOwner (l : Launch) (E : gE) (N : Nat) (x0 : Int) (μ μ' : Mm) (r : Int) (h : f_X7_addOwner N x0 μ = some (r, μ')) : gMet l E yX7_addOwner cX7_addOwner 2 (some .int) 4 104 [vr E x0] (some (vi r)) (R32 r) μ μ' 0 0 := by
  refine g_ofW [1] (by first | (simp only [List.map_cons, List.map_nil, vr_cat]; done) | (simp only [List.map_cons, List.map_nil, vr_cat]; rfl)) (by decide) (by decide) (fun p e s m below meth c ls C hM hl => ?_)
  replace C : gCx p s m _ meth c cX7_addOwner 2 (some .int) "addOwner" RX7 := C
  replace hl : lv_has ls 2 [(0, vr E x0)] := hl
  unfold f_X7_addOwner at h
  refine m_aload_n (pc := 0) C dX7_addOwner_0 rfl (lv_at hl 0 rfl) ?_
  obtain ⟨q1, h⟩ := ck_some h
  refine G_X7_now (pc := 1) C hM bw_2_63 q1 dX7_addOwner_1 ?_
  obtain ⟨q2, h⟩ := ck_some h
  have gq2 := Gr_X6_ownerCount hM q2
  refine G_X6_ownerCount (pc := 4) C hM bw_1_187 q2 dX7_addOwner_4 ?_
  refine m_iconst (pc := 7) C dX7_addOwner_7 ?_
  refine m_icmp_lt (tgt := 14) (pc := 8) C gq2 rk_5 dX7_addOwner_8 (by decide) (fun c3 => ?_) (fun c3 => ?_)
  · have h := if_t h c3
    refine m_aload_n (pc := 14) C dX7_addOwner_14 rfl (lv_at hl 0 rfl) ?_
    obtain ⟨q4, h⟩ := ck_some h
    refine G_X7_history (pc := 15) C hM bw_2_64 q4 dX7_addOwner_15 ?_
    refine m_aload_n (pc := 18) C dX7_addOwner_18 rfl (lv_at hl 0 rfl) ?_
    obtain ⟨q5, h⟩ := ck_some h
    refine G_X7_now (pc := 19) C hM bw_2_63 q5 dX7_addOwner_19 ?_
    obtain ⟨q6, h⟩ := ck_some h
    obtain ⟨a7, μ8, ca7, h⟩ := bd_some h
    refine V_X1_prepare (pc := 22) C hM ca7 q6 bw_2_94 ⟨Nat.le_of_ble_eq_true rfl, Nat.le_of_ble_eq_true rfl⟩ hl.1 rc0 ⟨Nat.le_refl _, Nat.le_refl _⟩ dX7_addOwner_22 (fun _ H locs hM => ?_)
    refine m_aload_n (pc := 25) C dX7_addOwner_25 rfl (lv_at hl 0 rfl) ?_
    obtain ⟨q9, h⟩ := ck_some h
    refine G_X7_now (pc := 26) C hM bw_2_63 q9 dX7_addOwner_26 ?_
    obtain ⟨q10, h⟩ := ck_some h
    have gq10 := Gr_X6_ownerCount hM q10
    refine G_X6_ownerCount (pc := 29) C hM bw_1_187 q10 dX7_addOwner_29 ?_
    refine m_istore_n (pc := 32) C dX7_addOwner_32 rfl hl (by decide) (lvK2 0 rfl (Nat.ne_of_beq_eq_false rfl) (vr_cat _ _) lvK0) (fun ls hl => ?_)
    refine m_aload_n (pc := 33) C dX7_addOwner_33 rfl (lv_at hl 1 rfl) ?_
    obtain ⟨q11, h⟩ := ck_some h
    refine G_X7_now (pc := 34) C hM bw_2_63 q11 dX7_addOwner_34 ?_
    refine m_iload_n (pc := 37) C dX7_addOwner_37 rfl (lv_at hl 0 rfl) ?_
    refine m_iconst (pc := 38) C dX7_addOwner_38 ?_
    obtain ⟨a12, ea12, h⟩ := nm_some h
    have ra12 : R32 a12 := by rw [ea12]; exact w32_R _
    refine m_iadd (pc := 39) C dX7_addOwner_39 ea12 ?_
    obtain ⟨q13, h⟩ := ck_some h
    obtain ⟨μ14, eμ14, h⟩ := nm_some h
    refine P_X6_ownerCount (pc := 40) C hM bw_1_187 q13 ra12 eμ14 dX7_addOwner_40 (fun H locs hM => ?_)
    refine m_aload_n (pc := 43) C dX7_addOwner_43 rfl (lv_at hl 1 rfl) ?_
    refine m_iload_n (pc := 44) C dX7_addOwner_44 rfl (lv_at hl 0 rfl) ?_
    obtain ⟨q15, h⟩ := ck_some h
    obtain ⟨a16, μ17, ca16, h⟩ := bd_some h
    refine V_X7_finishAct (pc := 45) C hM ca16 gq10 q15 bw_2_121 ⟨Nat.le_of_ble_eq_true rfl, Nat.le_of_ble_eq_true rfl⟩ hl.1 rc0 ⟨Nat.le_refl _, Nat.le_refl _⟩ dX7_addOwner_45 (fun ra16 H locs hM => ?_)
    cases h
    exact m_iret (pc := 48) C hM ra16 dX7_addOwner_48
  · have h := if_f h c3
    refine m_ldc (n := -100000004) (pc := 11) C bw_4_139 rfl dX7_addOwner_11 ?_
    cases h
    exact m_iret (pc := 13) C hM rk_m100000004 dX7_addOwner_13
theorem hd_X7_addOwner : yX7_addOwner.cls ≠ "java/lang/invoke/MethodHandle" ∧ yX7_addOwner.cls ≠ "java/lang/invoke/VarHandle" ∧ (parseMethodDescriptor yX7_addOwner.desc).map (fun d => d.parameters.length) = some 0 := by decide +kernel

theorem V_X7_addOwner {p : Program} {l : Launch} {e : Env} {R : Room} {s : State} {m : MethodId} {args : Array Value} {below : List Frame} {meth : Method} {c : Code} {H : Heap} {locs : List Loc} {cells slots : Nat} {Q : State → Prop} {cc : ByteArray} {pc nL : Nat} {ls : Array Slot} {rest : List Value} {ret : Option FieldType} {nmm own : String} {E : gE} {μ μ1 : Mm} {index : Nat} (C : gCx p s m args meth c cc nL ret nmm own) (hM : MS E μ s H locs) {N : Nat} {x0 v : Int} (hc : f_X7_addOwner N x0 μ = some (v, μ1)) (hck : μ x0 (-2) = 9) (h1 : Cond.methodLink own index yX7_addOwner ∈ bigL) (hR : 5 ≤ R.frames ∧ 125 ≤ R.locals) (hl : ls.size = nL) (hcat : RC rest 8) (hf : cells + 0 ≤ R.cells ∧ slots + 0 ≤ R.slots) (hdg : decode cc pc = .ok (.invokevirtual index, 3)) (kk : (R32 v) → ∀ (H1 : Heap) (locs1 : List Loc), MS E μ1 s H1 locs1 → W p l e R s m args below meth c H1 locs1 (cells + 0) (slots + 0) Q (F0 m (pc + 3) ls (vi v :: rest))) : W p l e R s m args below meth c H locs cells slots Q (F0 m pc ls (vr E x0 :: rest)) := g_callV C KF_X7 hM (c_X7_addOwner l E N x0 μ μ1 v hc) hck (gV h1 bw_4_136 bw_4_137 bw_1_1 bw_4_138) ⟨rfl, hd_X7_addOwner⟩ hR rfl hl rfl hcat hf hdg kk
/-! X7_deposit -/
def f_X7_deposit (N : Nat) (x0 x1 x2 : Int) (μ : Mm) : Rs :=
  ck (μ x0 (-2) = 9) <|
  ck (μ (μ x0 0) (-2) = 8) <|
  bd (f_X6_findOwner N (μ x0 0) x1 μ) fun a3 μ4 =>
  ck ((0 : Int) ≤ a3) <|
  if ¬ a3 = 0 then
    (bd (f_X7_outside N x2 1 10000000 μ4) fun a7 μ8 =>
     if a7 = 0 then
       (ck (μ8 x0 (-2) = 9) <|
        ck (μ8 x0 (-2) = 9) <|
        ck (μ8 (μ8 x0 1) (-2) = 3) <|
        bd (f_X1_prepare N (μ8 x0 1) (μ8 x0 0) μ8) fun a13 μ14 =>
        ck (μ14 a3 (-2) = 6) <|
        bd (f_X4_payIn N a3 x2 μ14) fun a16 μ17 =>
        ck (μ17 x0 (-2) = 9) <|
        ck (μ17 (μ17 x0 0) (-2) = 8) <|
        nm (w64 ((μ17 (μ17 x0 0) 10) + x2)) fun a20 =>
        ck (μ17 (μ17 x0 0) (-2) = 8) <|
        nm (mset μ17 (μ17 x0 0) 10 a20) fun μ22 =>
        ck (μ22 a3 (-2) = 6) <|
        ck (μ22 x0 (-2) = 9) <|
        bd (f_X7_finishAct N x0 (μ22 a3 2) μ22) fun a25 μ26 =>
        some (a25, μ26))
     else
     some ((-100000002), μ8))
  else
  some ((-100000001), μ4)
set_option maxHeartbeats 4000000 in
set_option maxRecDepth 100000 in
theorem c_X7_deposit (l : Launch) (E : gE) (N : Nat) (x0 x1 x2 : Int) (μ μ' : Mm) (r : Int) (h : f_X7_deposit N x0 x1 x2 μ = some (r, μ')) (rx1 : R32 x1) (rx2 : R32 x2) : gMet l E yX7_deposit cX7_deposit 4 (some .int) 4 104 [vr E x0, vi x1, vi x2] (some (vi r)) (R32 r) μ μ' 0 0 := by
  refine g_ofW [1, 1, 1] (by first | (simp only [List.map_cons, List.map_nil, vr_cat]; done) | (simp only [List.map_cons, List.map_nil, vr_cat]; rfl)) (by decide) (by decide) (fun p e s m below meth c ls C hM hl => ?_)
  replace C : gCx p s m _ meth c cX7_deposit 4 (some .int) "deposit" RX7 := C
  replace hl : lv_has ls 4 [(0, vr E x0), (1, vi x1), (2, vi x2)] := hl
  unfold f_X7_deposit at h
  refine m_aload_n (pc := 0) C dX7_deposit_0 rfl (lv_at hl 0 rfl) ?_
  obtain ⟨q1, h⟩ := ck_some h
  refine G_X7_now (pc := 1) C hM bw_2_63 q1 dX7_deposit_1 ?_
  refine m_iload_n (pc := 4) C dX7_deposit_4 rfl (lv_at hl 1 rfl) ?_
  obtain ⟨q2, h⟩ := ck_some h
  obtain ⟨a3, μ4, ca3, h⟩ := bd_some h
  refine V_X6_findOwner (pc := 5) C hM ca3 rx1 q2 bw_3_34 ⟨Nat.le_of_ble_eq_true rfl, Nat.le_of_ble_eq_true rfl⟩ hl.1 rc0 ⟨Nat.le_refl _, Nat.le_refl _⟩ dX7_deposit_5 (fun _ H locs hM => ?_)
  refine m_astore_n (pc := 8) C dX7_deposit_8 rfl hl (by decide) (lvK1 0 rfl (Nat.ne_of_beq_eq_false rfl) (Nat.ne_of_beq_eq_false rfl) (lvK2 2 rfl (Nat.ne_of_beq_eq_false rfl) rfl lvK0)) (fun ls hl => ?_)
  refine m_aload_n (pc := 9) C dX7_deposit_9 rfl (lv_at hl 0 rfl) ?_
  obtain ⟨q6, h⟩ := ck_some h
  refine m_ifnonnull (tgt := 16) (pc := 10) C q6 dX7_deposit_10 (by decide) (fun c5 => ?_) (fun c5 => ?_)
  · have h := if_t h c5
    refine m_iload_n (pc := 16) C dX7_deposit_16 rfl (lv_at hl 2 rfl) ?_
    refine m_iconst (pc := 17) C dX7_deposit_17 ?_
    refine m_ldc (n := 10000000) (pc := 18) C bw_3_96 rfl dX7_deposit_18 ?_
    obtain ⟨a7, μ8, ca7, h⟩ := bd_some h
    refine V_X7_outside (pc := 20) C hM ca7 rx2 rk_1 rk_10000000 bw_2_89 ⟨Nat.le_of_ble_eq_true rfl, Nat.le_of_ble_eq_true rfl⟩ hl.1 rc0 ⟨Nat.le_refl _, Nat.le_refl _⟩ dX7_deposit_20 (fun ra7 H locs hM => ?_)
    refine m_if_eq (tgt := 29) (pc := 23) C ra7 dX7_deposit_23 (by decide) (fun c9 => ?_) (fun c9 => ?_)
    · have h := if_t h c9
      refine m_aload_n (pc := 29) C dX7_deposit_29 rfl (lv_at hl 1 rfl) ?_
      obtain ⟨q10, h⟩ := ck_some h
      refine G_X7_history (pc := 30) C hM bw_2_64 q10 dX7_deposit_30 ?_
      refine m_aload_n (pc := 33) C dX7_deposit_33 rfl (lv_at hl 1 rfl) ?_
      obtain ⟨q11, h⟩ := ck_some h
      refine G_X7_now (pc := 34) C hM bw_2_63 q11 dX7_deposit_34 ?_
      obtain ⟨q12, h⟩ := ck_some h
      obtain ⟨a13, μ14, ca13, h⟩ := bd_some h
      refine V_X1_prepare (pc := 37) C hM ca13 q12 bw_2_94 ⟨Nat.le_of_ble_eq_true rfl, Nat.le_of_ble_eq_true rfl⟩ hl.1 rc0 ⟨Nat.le_refl _, Nat.le_refl _⟩ dX7_deposit_37 (fun _ H locs hM => ?_)
      refine m_aload_n (pc := 40) C dX7_deposit_40 rfl (lv_at hl 0 rfl) ?_
      refine m_iload_n (pc := 41) C dX7_deposit_41 rfl (lv_at hl 2 rfl) ?_
      obtain ⟨q15, h⟩ := ck_some h
      obtain ⟨a16, μ17, ca16, h⟩ := bd_some h
      refine V_X4_payIn (pc := 42) C hM ca16 rx2 q15 bw_4_125 ⟨Nat.le_of_ble_eq_true rfl, Nat.le_of_ble_eq_true rfl⟩ hl.1 rc0 ⟨Nat.le_refl _, Nat.le_refl _⟩ dX7_deposit_42 (fun _ H locs hM => ?_)
      refine m_aload_n (pc := 45) C dX7_deposit_45 rfl (lv_at hl 1 rfl) ?_
      obtain ⟨q18, h⟩ := ck_some h
      refine G_X7_now (pc := 46) C hM bw_2_63 q18 dX7_deposit_46 ?_
      refine m_dup (pc := 49) C (vr_cat _ _) dX7_deposit_49 ?_
      obtain ⟨q19, h⟩ := ck_some h
      have gq19 := Gr_X6_deposits hM q19
      refine G_X6_deposits (pc := 50) C hM bw_1_200 q19 dX7_deposit_50 ?_
      refine m_iload_n (pc := 53) C dX7_deposit_53 rfl (lv_at hl 2 rfl) ?_
      refine m_i2l (pc := 54) C rx2 dX7_deposit_54 ?_
      obtain ⟨a20, ea20, h⟩ := nm_some h
      have ra20 : R64 a20 := by rw [ea20]; exact w64_R _
      refine m_ladd (pc := 55) C dX7_deposit_55 ea20 ?_
      obtain ⟨q21, h⟩ := ck_some h
      obtain ⟨μ22, eμ22, h⟩ := nm_some h
      refine P_X6_deposits (pc := 56) C hM bw_1_200 q21 ra20 eμ22 dX7_deposit_56 (fun H locs hM => ?_)
      refine m_aload_n (pc := 59) C dX7_deposit_59 rfl (lv_at hl 1 rfl) ?_
      refine m_aload_n (pc := 60) C dX7_deposit_60 rfl (lv_at hl 0 rfl) ?_
      obtain ⟨q23, h⟩ := ck_some h
      have gq23 := Gr_X4_debt hM q23
      refine G_X4_debt (pc := 61) C hM bw_1_78 q23 dX7_deposit_61 ?_
      obtain ⟨q24, h⟩ := ck_some h
      obtain ⟨a25, μ26, ca25, h⟩ := bd_some h
      refine V_X7_finishAct (pc := 64) C hM ca25 gq23 q24 bw_2_121 ⟨Nat.le_of_ble_eq_true rfl, Nat.le_of_ble_eq_true rfl⟩ hl.1 rc0 ⟨Nat.le_refl _, Nat.le_refl _⟩ dX7_deposit_64 (fun ra25 H locs hM => ?_)
      cases h
      exact m_iret (pc := 67) C hM ra25 dX7_deposit_67
    · have h := if_f h c9
      refine m_ldc (n := -100000002) (pc := 26) C bw_2_93 rfl dX7_deposit_26 ?_
      cases h
      exact m_iret (pc := 28) C hM rk_m100000002 dX7_deposit_28
  · have h := if_f h c5
    refine m_ldc (n := -100000001) (pc := 13) C bw_2_92 rfl dX7_deposit_13 ?_
    cases h
    exact m_iret (pc := 15) C hM rk_m100000001 dX7_deposit_15
theorem hd_X7_deposit : yX7_deposit.cls ≠ "java/lang/invoke/MethodHandle" ∧ yX7_deposit.cls ≠ "java/lang/invoke/VarHandle" ∧ (parseMethodDescriptor yX7_deposit.desc).map (fun d => d.parameters.length) = some 2 := by decide +kernel

theorem V_X7_deposit {p : Program} {l : Launch} {e : Env} {R : Room} {s : State} {m : MethodId} {args : Array Value} {below : List Frame} {meth : Method} {c : Code} {H : Heap} {locs : List Loc} {cells slots : Nat} {Q : State → Prop} {cc : ByteArray} {pc nL : Nat} {ls : Array Slot} {rest : List Value} {ret : Option FieldType} {nmm own : String} {E : gE} {μ μ1 : Mm} {index : Nat} (C : gCx p s m args meth c cc nL ret nmm own) (hM : MS E μ s H locs) {N : Nat} {x0 x1 x2 v : Int} (hc : f_X7_deposit N x0 x1 x2 μ = some (v, μ1)) (rx1 : R32 x1) (rx2 : R32 x2) (hck : μ x0 (-2) = 9) (h1 : Cond.methodLink own index yX7_deposit ∈ bigL) (hR : 5 ≤ R.frames ∧ 127 ≤ R.locals) (hl : ls.size = nL) (hcat : RC rest 8) (hf : cells + 0 ≤ R.cells ∧ slots + 0 ≤ R.slots) (hdg : decode cc pc = .ok (.invokevirtual index, 3)) (kk : (R32 v) → ∀ (H1 : Heap) (locs1 : List Loc), MS E μ1 s H1 locs1 → W p l e R s m args below meth c H1 locs1 (cells + 0) (slots + 0) Q (F0 m (pc + 3) ls (vi v :: rest))) : W p l e R s m args below meth c H locs cells slots Q (F0 m pc ls (vi x2 :: vi x1 :: vr E x0 :: rest)) := g_callV C KF_X7 hM (c_X7_deposit l E N x0 x1 x2 μ μ1 v hc rx1 rx2) hck (gV h1 bw_4_122 bw_4_123 bw_1_1 bw_4_124) ⟨rfl, hd_X7_deposit⟩ hR rfl hl rfl hcat hf hdg kk
/-! X7_refuse -/
def f_X7_refuse (N : Nat) (x0 x1 : Int) (μ : Mm) : Rs :=
  ck (μ x0 (-2) = 9) <|
  nm (mset μ x0 6 x1) fun μ2 =>
  some ((-100000003), μ2)
set_option maxHeartbeats 4000000 in
set_option maxRecDepth 100000 in
theorem c_X7_refuse (l : Launch) (E : gE) (N : Nat) (x0 x1 : Int) (μ μ' : Mm) (r : Int) (h : f_X7_refuse N x0 x1 μ = some (r, μ')) (rx1 : R32 x1) : gMet l E yX7_refuse cX7_refuse 2 (some .int) 0 0 [vr E x0, vi x1] (some (vi r)) (R32 r) μ μ' 0 0 := by
  refine g_ofW [1, 1] (by first | (simp only [List.map_cons, List.map_nil, vr_cat]; done) | (simp only [List.map_cons, List.map_nil, vr_cat]; rfl)) (by decide) (by decide) (fun p e s m below meth c ls C hM hl => ?_)
  replace C : gCx p s m _ meth c cX7_refuse 2 (some .int) "refuse" RX7 := C
  replace hl : lv_has ls 2 [(0, vr E x0), (1, vi x1)] := hl
  unfold f_X7_refuse at h
  refine m_aload_n (pc := 0) C dX7_refuse_0 rfl (lv_at hl 0 rfl) ?_
  refine m_iload_n (pc := 1) C dX7_refuse_1 rfl (lv_at hl 1 rfl) ?_
  obtain ⟨q1, h⟩ := ck_some h
  obtain ⟨μ2, eμ2, h⟩ := nm_some h
  refine P_X7_reason (pc := 2) C hM bw_2_69 q1 rx1 eμ2 dX7_refuse_2 (fun H locs hM => ?_)
  refine m_ldcw (n := -100000003) (pc := 5) C bw_2_161 rfl dX7_refuse_5 ?_
  cases h
  exact m_iret (pc := 8) C hM rk_m100000003 dX7_refuse_8
theorem hd_X7_refuse : yX7_refuse.cls ≠ "java/lang/invoke/MethodHandle" ∧ yX7_refuse.cls ≠ "java/lang/invoke/VarHandle" ∧ (parseMethodDescriptor yX7_refuse.desc).map (fun d => d.parameters.length) = some 1 := by decide +kernel

theorem V_X7_refuse {p : Program} {l : Launch} {e : Env} {R : Room} {s : State} {m : MethodId} {args : Array Value} {below : List Frame} {meth : Method} {c : Code} {H : Heap} {locs : List Loc} {cells slots : Nat} {Q : State → Prop} {cc : ByteArray} {pc nL : Nat} {ls : Array Slot} {rest : List Value} {ret : Option FieldType} {nmm own : String} {E : gE} {μ μ1 : Mm} {index : Nat} (C : gCx p s m args meth c cc nL ret nmm own) (hM : MS E μ s H locs) {N : Nat} {x0 x1 v : Int} (hc : f_X7_refuse N x0 x1 μ = some (v, μ1)) (rx1 : R32 x1) (hck : μ x0 (-2) = 9) (h1 : Cond.methodLink own index yX7_refuse ∈ bigL) (hR : 1 ≤ R.frames ∧ 21 ≤ R.locals) (hl : ls.size = nL) (hcat : RC rest 8) (hf : cells + 0 ≤ R.cells ∧ slots + 0 ≤ R.slots) (hdg : decode cc pc = .ok (.invokevirtual index, 3)) (kk : (R32 v) → ∀ (H1 : Heap) (locs1 : List Loc), MS E μ1 s H1 locs1 → W p l e R s m args below meth c H1 locs1 (cells + 0) (slots + 0) Q (F0 m (pc + 3) ls (vi v :: rest))) : W p l e R s m args below meth c H locs cells slots Q (F0 m pc ls (vi x1 :: vr E x0 :: rest)) := g_callV C KF_X7 hM (c_X7_refuse l E N x0 x1 μ μ1 v hc rx1) hck (gV h1 bw_2_159 bs_2 bw_1_1 bw_2_160) ⟨rfl, hd_X7_refuse⟩ hR rfl hl rfl hcat hf hdg kk
/-! X7_setGuarantee -/
def f_X7_setGuarantee (N : Nat) (x0 x1 x2 : Int) (μ : Mm) : Rs :=
  ck (μ x0 (-2) = 9) <|
  ck (μ (μ x0 0) (-2) = 8) <|
  bd (f_X6_findOwner N (μ x0 0) x1 μ) fun a3 μ4 =>
  ck ((0 : Int) ≤ a3) <|
  if ¬ a3 = 0 then
    (bd (f_X7_outside N x2 0 100000000 μ4) fun a7 μ8 =>
     if a7 = 0 then
       (ck (μ8 x0 (-2) = 9) <|
        ck (μ8 (μ8 x0 0) (-2) = 8) <|
        ck (μ8 x0 (-2) = 9) <|
        ck (μ8 (μ8 x0 0) (-2) = 8) <|
        bd (f_X6_useOf N (μ8 x0 0) x1 μ8) fun a14 μ15 =>
        ck (μ15 (μ8 (μ8 x0 0) 0) (-2) = 7) <|
        bd (f_X5_covers N (μ8 (μ8 x0 0) 0) x2 a14 μ15) fun a17 μ18 =>
        if ¬ a17 = 0 then
          (ck (μ18 x0 (-2) = 9) <|
           ck (μ18 x0 (-2) = 9) <|
           ck (μ18 (μ18 x0 1) (-2) = 3) <|
           bd (f_X1_prepare N (μ18 x0 1) (μ18 x0 0) μ18) fun a23 μ24 =>
           ck (μ24 a3 (-2) = 6) <|
           ck (μ24 a3 (-2) = 6) <|
           nm (mset μ24 a3 1 x2) fun μ27 =>
           ck (μ27 x0 (-2) = 9) <|
           bd (f_X7_finishAct N x0 (μ24 a3 1) μ27) fun a29 μ30 =>
           some (a29, μ30))
        else
        ck (μ18 x0 (-2) = 9) <|
        bd (f_X7_refuse N x0 2 μ18) fun a32 μ33 =>
        some (a32, μ33))
     else
     some ((-100000002), μ8))
  else
  some ((-100000001), μ4)
set_option maxHeartbeats 4000000 in
set_option maxRecDepth 100000 in
theorem c_X7_setGuarantee (l : Launch) (E : gE) (N : Nat) (x0 x1 x2 : Int) (μ μ' : Mm) (r : Int) (h : f_X7_setGuarantee N x0 x1 x2 μ = some (r, μ')) (rx1 : R32 x1) (rx2 : R32 x2) : gMet l E yX7_setGuarantee cX7_setGuarantee 5 (some .int) 4 104 [vr E x0, vi x1, vi x2] (some (vi r)) (R32 r) μ μ' 0 0 := by
  refine g_ofW [1, 1, 1] (by first | (simp only [List.map_cons, List.map_nil, vr_cat]; done) | (simp only [List.map_cons, List.map_nil, vr_cat]; rfl)) (by decide) (by decide) (fun p e s m below meth c ls C hM hl => ?_)
  replace C : gCx p s m _ meth c cX7_setGuarantee 5 (some .int) "setGuarantee" RX7 := C
  replace hl : lv_has ls 5 [(0, vr E x0), (1, vi x1), (2, vi x2)] := hl
  unfold f_X7_setGuarantee at h
  refine m_aload_n (pc := 0) C dX7_setGuarantee_0 rfl (lv_at hl 0 rfl) ?_
  obtain ⟨q1, h⟩ := ck_some h
  refine G_X7_now (pc := 1) C hM bw_2_63 q1 dX7_setGuarantee_1 ?_
  refine m_iload_n (pc := 4) C dX7_setGuarantee_4 rfl (lv_at hl 1 rfl) ?_
  obtain ⟨q2, h⟩ := ck_some h
  obtain ⟨a3, μ4, ca3, h⟩ := bd_some h
  refine V_X6_findOwner (pc := 5) C hM ca3 rx1 q2 bw_3_34 ⟨Nat.le_of_ble_eq_true rfl, Nat.le_of_ble_eq_true rfl⟩ hl.1 rc0 ⟨Nat.le_refl _, Nat.le_refl _⟩ dX7_setGuarantee_5 (fun _ H locs hM => ?_)
  refine m_astore_n (pc := 8) C dX7_setGuarantee_8 rfl hl (by decide) (lvK1 0 rfl (Nat.ne_of_beq_eq_false rfl) (Nat.ne_of_beq_eq_false rfl) (lvK1 1 rfl (Nat.ne_of_beq_eq_false rfl) (Nat.ne_of_beq_eq_false rfl) (lvK2 2 rfl (Nat.ne_of_beq_eq_false rfl) rfl lvK0))) (fun ls hl => ?_)
  refine m_aload_n (pc := 9) C dX7_setGuarantee_9 rfl (lv_at hl 0 rfl) ?_
  obtain ⟨q6, h⟩ := ck_some h
  refine m_ifnonnull (tgt := 16) (pc := 10) C q6 dX7_setGuarantee_10 (by decide) (fun c5 => ?_) (fun c5 => ?_)
  · have h := if_t h c5
    refine m_iload_n (pc := 16) C dX7_setGuarantee_16 rfl (lv_at hl 3 rfl) ?_
    refine m_iconst (pc := 17) C dX7_setGuarantee_17 ?_
    refine m_ldc (n := 100000000) (pc := 18) C bw_4_146 rfl dX7_setGuarantee_18 ?_
    obtain ⟨a7, μ8, ca7, h⟩ := bd_some h
    refine V_X7_outside (pc := 20) C hM ca7 rx2 rk_0 rk_100000000 bw_2_89 ⟨Nat.le_of_ble_eq_true rfl, Nat.le_of_ble_eq_true rfl⟩ hl.1 rc0 ⟨Nat.le_refl _, Nat.le_refl _⟩ dX7_setGuarantee_20 (fun ra7 H locs hM => ?_)
    refine m_if_eq (tgt := 29) (pc := 23) C ra7 dX7_setGuarantee_23 (by decide) (fun c9 => ?_) (fun c9 => ?_)
    · have h := if_t h c9
      refine m_aload_n (pc := 29) C dX7_setGuarantee_29 rfl (lv_at hl 1 rfl) ?_
      obtain ⟨q10, h⟩ := ck_some h
      refine G_X7_now (pc := 30) C hM bw_2_63 q10 dX7_setGuarantee_30 ?_
      obtain ⟨q11, h⟩ := ck_some h
      refine G_X6_settings (pc := 33) C hM bw_1_181 q11 dX7_setGuarantee_33 ?_
      refine m_iload_n (pc := 36) C dX7_setGuarantee_36 rfl (lv_at hl 3 rfl) ?_
      refine m_aload_n (pc := 37) C dX7_setGuarantee_37 rfl (lv_at hl 1 rfl) ?_
      obtain ⟨q12, h⟩ := ck_some h
      refine G_X7_now (pc := 38) C hM bw_2_63 q12 dX7_setGuarantee_38 ?_
      refine m_iload_n (pc := 41) C dX7_setGuarantee_41 rfl (lv_at hl 2 rfl) ?_
      obtain ⟨q13, h⟩ := ck_some h
      obtain ⟨a14, μ15, ca14, h⟩ := bd_some h
      refine V_X6_useOf (pc := 42) C hM ca14 rx1 q13 bw_3_36 ⟨Nat.le_of_ble_eq_true rfl, Nat.le_of_ble_eq_true rfl⟩ hl.1 (rcI (rcR rc0)) ⟨Nat.le_refl _, Nat.le_refl _⟩ dX7_setGuarantee_42 (fun ra14 H locs hM => ?_)
      obtain ⟨q16, h⟩ := ck_some h
      obtain ⟨a17, μ18, ca17, h⟩ := bd_some h
      refine V_X5_covers (pc := 45) C hM ca17 rx2 ra14 q16 bw_3_44 ⟨Nat.le_of_ble_eq_true rfl, Nat.le_of_ble_eq_true rfl⟩ hl.1 rc0 ⟨Nat.le_refl _, Nat.le_refl _⟩ dX7_setGuarantee_45 (fun ra17 H locs hM => ?_)
      refine m_if_ne (tgt := 57) (pc := 48) C ra17 dX7_setGuarantee_48 (by decide) (fun c19 => ?_) (fun c19 => ?_)
      · have h := if_t h c19
        refine m_aload_n (pc := 57) C dX7_setGuarantee_57 rfl (lv_at hl 1 rfl) ?_
        obtain ⟨q20, h⟩ := ck_some h
        refine G_X7_history (pc := 58) C hM bw_2_64 q20 dX7_setGuarantee_58 ?_
        refine m_aload_n (pc := 61) C dX7_setGuarantee_61 rfl (lv_at hl 1 rfl) ?_
        obtain ⟨q21, h⟩ := ck_some h
        refine G_X7_now (pc := 62) C hM bw_2_63 q21 dX7_setGuarantee_62 ?_
        obtain ⟨q22, h⟩ := ck_some h
        obtain ⟨a23, μ24, ca23, h⟩ := bd_some h
        refine V_X1_prepare (pc := 65) C hM ca23 q22 bw_2_94 ⟨Nat.le_of_ble_eq_true rfl, Nat.le_of_ble_eq_true rfl⟩ hl.1 rc0 ⟨Nat.le_refl _, Nat.le_refl _⟩ dX7_setGuarantee_65 (fun _ H locs hM => ?_)
        refine m_aload_n (pc := 68) C dX7_setGuarantee_68 rfl (lv_at hl 0 rfl) ?_
        obtain ⟨q25, h⟩ := ck_some h
        have gq25 := Gr_X4_guarantee hM q25
        refine G_X4_guarantee (pc := 69) C hM bw_1_76 q25 dX7_setGuarantee_69 ?_
        refine m_istore (pc := 72) C dX7_setGuarantee_72 hl (by decide) (lvK2 0 rfl (Nat.ne_of_beq_eq_false rfl) (vr_cat _ _) (lvK1 1 rfl (Nat.ne_of_beq_eq_false rfl) (Nat.ne_of_beq_eq_false rfl) (lvK1 3 rfl (Nat.ne_of_beq_eq_false rfl) (Nat.ne_of_beq_eq_false rfl) lvK0))) (fun ls hl => ?_)
        refine m_aload_n (pc := 74) C dX7_setGuarantee_74 rfl (lv_at hl 1 rfl) ?_
        refine m_iload_n (pc := 75) C dX7_setGuarantee_75 rfl (lv_at hl 3 rfl) ?_
        obtain ⟨q26, h⟩ := ck_some h
        obtain ⟨μ27, eμ27, h⟩ := nm_some h
        refine P_X4_guarantee (pc := 76) C hM bw_1_76 q26 rx2 eμ27 dX7_setGuarantee_76 (fun H locs hM => ?_)
        refine m_aload_n (pc := 79) C dX7_setGuarantee_79 rfl (lv_at hl 2 rfl) ?_
        refine m_iload (pc := 80) C dX7_setGuarantee_80 (lv_at hl 0 rfl) ?_
        obtain ⟨q28, h⟩ := ck_some h
        obtain ⟨a29, μ30, ca29, h⟩ := bd_some h
        refine V_X7_finishAct (pc := 82) C hM ca29 gq25 q28 bw_2_121 ⟨Nat.le_of_ble_eq_true rfl, Nat.le_of_ble_eq_true rfl⟩ hl.1 rc0 ⟨Nat.le_refl _, Nat.le_refl _⟩ dX7_setGuarantee_82 (fun ra29 H locs hM => ?_)
        cases h
        exact m_iret (pc := 85) C hM ra29 dX7_setGuarantee_85
      · have h := if_f h c19
        refine m_aload_n (pc := 51) C dX7_setGuarantee_51 rfl (lv_at hl 1 rfl) ?_
        refine m_iconst (pc := 52) C dX7_setGuarantee_52 ?_
        obtain ⟨q31, h⟩ := ck_some h
        obtain ⟨a32, μ33, ca32, h⟩ := bd_some h
        refine V_X7_refuse (pc := 53) C hM ca32 rk_2 q31 bw_2_157 ⟨Nat.le_of_ble_eq_true rfl, Nat.le_of_ble_eq_true rfl⟩ hl.1 rc0 ⟨Nat.le_refl _, Nat.le_refl _⟩ dX7_setGuarantee_53 (fun ra32 H locs hM => ?_)
        cases h
        exact m_iret (pc := 56) C hM ra32 dX7_setGuarantee_56
    · have h := if_f h c9
      refine m_ldc (n := -100000002) (pc := 26) C bw_2_93 rfl dX7_setGuarantee_26 ?_
      cases h
      exact m_iret (pc := 28) C hM rk_m100000002 dX7_setGuarantee_28
  · have h := if_f h c5
    refine m_ldc (n := -100000001) (pc := 13) C bw_2_92 rfl dX7_setGuarantee_13 ?_
    cases h
    exact m_iret (pc := 15) C hM rk_m100000001 dX7_setGuarantee_15
theorem hd_X7_setGuarantee : yX7_setGuarantee.cls ≠ "java/lang/invoke/MethodHandle" ∧ yX7_setGuarantee.cls ≠ "java/lang/invoke/VarHandle" ∧ (parseMethodDescriptor yX7_setGuarantee.desc).map (fun d => d.parameters.length) = some 2 := by decide +kernel

theorem V_X7_setGuarantee {p : Program} {l : Launch} {e : Env} {R : Room} {s : State} {m : MethodId} {args : Array Value} {below : List Frame} {meth : Method} {c : Code} {H : Heap} {locs : List Loc} {cells slots : Nat} {Q : State → Prop} {cc : ByteArray} {pc nL : Nat} {ls : Array Slot} {rest : List Value} {ret : Option FieldType} {nmm own : String} {E : gE} {μ μ1 : Mm} {index : Nat} (C : gCx p s m args meth c cc nL ret nmm own) (hM : MS E μ s H locs) {N : Nat} {x0 x1 x2 v : Int} (hc : f_X7_setGuarantee N x0 x1 x2 μ = some (v, μ1)) (rx1 : R32 x1) (rx2 : R32 x2) (hck : μ x0 (-2) = 9) (h1 : Cond.methodLink own index yX7_setGuarantee ∈ bigL) (hR : 5 ≤ R.frames ∧ 128 ≤ R.locals) (hl : ls.size = nL) (hcat : RC rest 8) (hf : cells + 0 ≤ R.cells ∧ slots + 0 ≤ R.slots) (hdg : decode cc pc = .ok (.invokevirtual index, 3)) (kk : (R32 v) → ∀ (H1 : Heap) (locs1 : List Loc), MS E μ1 s H1 locs1 → W p l e R s m args below meth c H1 locs1 (cells + 0) (slots + 0) Q (F0 m (pc + 3) ls (vi v :: rest))) : W p l e R s m args below meth c H locs cells slots Q (F0 m pc ls (vi x2 :: vi x1 :: vr E x0 :: rest)) := g_callV C KF_X7 hM (c_X7_setGuarantee l E N x0 x1 x2 μ μ1 v hc rx1 rx2) hck (gV h1 bw_4_143 bw_4_144 bw_1_1 bw_4_145) ⟨rfl, hd_X7_setGuarantee⟩ hR rfl hl rfl hcat hf hdg kk
/-! X7_setRate -/
def f_X7_setRate (N : Nat) (x0 x1 x2 : Int) (μ : Mm) : Rs :=
  bd (f_X7_outside N x1 0 5 μ) fun a1 μ2 =>
  if a1 = 0 then
    (bd (f_X7_outside N x2 0 1000 μ2) fun a4 μ5 =>
     if a4 = 0 then
       (ck (μ5 x0 (-2) = 9) <|
        ck (μ5 x0 (-2) = 9) <|
        ck (μ5 (μ5 x0 1) (-2) = 3) <|
        bd (f_X1_prepare N (μ5 x0 1) (μ5 x0 0) μ5) fun a10 μ11 =>
        ck (μ11 x0 (-2) = 9) <|
        ck (μ11 (μ11 x0 0) (-2) = 8) <|
        ck (μ11 (μ11 (μ11 x0 0) 0) (-2) = 7) <|
        ck (μ11 (μ11 (μ11 (μ11 x0 0) 0) 0) (-2) = 23 ∧ (0 : Int) ≤ x1 ∧ x1 < μ11 (μ11 (μ11 (μ11 x0 0) 0) 0) (-1)) <|
        ck (μ11 x0 (-2) = 9) <|
        ck (μ11 (μ11 x0 0) (-2) = 8) <|
        ck (μ11 (μ11 (μ11 x0 0) 0) (-2) = 7) <|
        ck (μ11 (μ11 (μ11 (μ11 x0 0) 0) 0) (-2) = 23 ∧ (0 : Int) ≤ x1 ∧ x1 < μ11 (μ11 (μ11 (μ11 x0 0) 0) 0) (-1)) <|
        nm (mset μ11 (μ11 (μ11 (μ11 x0 0) 0) 0) x1 x2) fun μ20 =>
        ck (μ20 x0 (-2) = 9) <|
        bd (f_X7_finishAct N x0 (μ11 (μ11 (μ11 (μ11 x0 0) 0) 0) x1) μ20) fun a22 μ23 =>
        some (a22, μ23))
     else
     some ((-100000002), μ5))
  else
  some ((-100000001), μ2)
set_option maxHeartbeats 4000000 in
set_option maxRecDepth 100000 in
theorem c_X7_setRate (l : Launch) (E : gE) (N : Nat) (x0 x1 x2 : Int) (μ μ' : Mm) (r : Int) (h : f_X7_setRate N x0 x1 x2 μ = some (r, μ')) (rx1 : R32 x1) (rx2 : R32 x2) : gMet l E yX7_setRate cX7_setRate 4 (some .int) 4 104 [vr E x0, vi x1, vi x2] (some (vi r)) (R32 r) μ μ' 0 0 := by
  refine g_ofW [1, 1, 1] (by first | (simp only [List.map_cons, List.map_nil, vr_cat]; done) | (simp only [List.map_cons, List.map_nil, vr_cat]; rfl)) (by decide) (by decide) (fun p e s m below meth c ls C hM hl => ?_)
  replace C : gCx p s m _ meth c cX7_setRate 4 (some .int) "setRate" RX7 := C
  replace hl : lv_has ls 4 [(0, vr E x0), (1, vi x1), (2, vi x2)] := hl
  unfold f_X7_setRate at h
  refine m_iload_n (pc := 0) C dX7_setRate_0 rfl (lv_at hl 1 rfl) ?_
  refine m_iconst (pc := 1) C dX7_setRate_1 ?_
  refine m_iconst (pc := 2) C dX7_setRate_2 ?_
  obtain ⟨a1, μ2, ca1, h⟩ := bd_some h
  refine V_X7_outside (pc := 3) C hM ca1 rx1 rk_0 rk_5 bw_2_89 ⟨Nat.le_of_ble_eq_true rfl, Nat.le_of_ble_eq_true rfl⟩ hl.1 rc0 ⟨Nat.le_refl _, Nat.le_refl _⟩ dX7_setRate_3 (fun ra1 H locs hM => ?_)
  refine m_if_eq (tgt := 12) (pc := 6) C ra1 dX7_setRate_6 (by decide) (fun c3 => ?_) (fun c3 => ?_)
  · have h := if_t h c3
    refine m_iload_n (pc := 12) C dX7_setRate_12 rfl (lv_at hl 2 rfl) ?_
    refine m_iconst (pc := 13) C dX7_setRate_13 ?_
    refine m_sipush (pc := 14) C dX7_setRate_14 rfl ?_
    obtain ⟨a4, μ5, ca4, h⟩ := bd_some h
    refine V_X7_outside (pc := 17) C hM ca4 rx2 rk_0 rk_1000 bw_2_89 ⟨Nat.le_of_ble_eq_true rfl, Nat.le_of_ble_eq_true rfl⟩ hl.1 rc0 ⟨Nat.le_refl _, Nat.le_refl _⟩ dX7_setRate_17 (fun ra4 H locs hM => ?_)
    refine m_if_eq (tgt := 26) (pc := 20) C ra4 dX7_setRate_20 (by decide) (fun c6 => ?_) (fun c6 => ?_)
    · have h := if_t h c6
      refine m_aload_n (pc := 26) C dX7_setRate_26 rfl (lv_at hl 0 rfl) ?_
      obtain ⟨q7, h⟩ := ck_some h
      refine G_X7_history (pc := 27) C hM bw_2_64 q7 dX7_setRate_27 ?_
      refine m_aload_n (pc := 30) C dX7_setRate_30 rfl (lv_at hl 0 rfl) ?_
      obtain ⟨q8, h⟩ := ck_some h
      refine G_X7_now (pc := 31) C hM bw_2_63 q8 dX7_setRate_31 ?_
      obtain ⟨q9, h⟩ := ck_some h
      obtain ⟨a10, μ11, ca10, h⟩ := bd_some h
      refine V_X1_prepare (pc := 34) C hM ca10 q9 bw_2_94 ⟨Nat.le_of_ble_eq_true rfl, Nat.le_of_ble_eq_true rfl⟩ hl.1 rc0 ⟨Nat.le_refl _, Nat.le_refl _⟩ dX7_setRate_34 (fun _ H locs hM => ?_)
      refine m_aload_n (pc := 37) C dX7_setRate_37 rfl (lv_at hl 0 rfl) ?_
      obtain ⟨q12, h⟩ := ck_some h
      refine G_X7_now (pc := 38) C hM bw_2_63 q12 dX7_setRate_38 ?_
      obtain ⟨q13, h⟩ := ck_some h
      refine G_X6_settings (pc := 41) C hM bw_1_181 q13 dX7_setRate_41 ?_
      obtain ⟨q14, h⟩ := ck_some h
      refine G_X5_rates (pc := 44) C hM bw_1_41 q14 dX7_setRate_44 ?_
      refine m_iload_n (pc := 47) C dX7_setRate_47 rfl (lv_at hl 1 rfl) ?_
      obtain ⟨q15, h⟩ := ck_some h
      have gq15 := Ar_iald hM q15.1 q15.2.1 q15.2.2
      refine m_iald (pc := 48) C hM q15.1 q15.2.1 q15.2.2 dX7_setRate_48 ?_
      refine m_istore_n (pc := 49) C dX7_setRate_49 rfl hl (by decide) (lvK1 0 rfl (Nat.ne_of_beq_eq_false rfl) (Nat.ne_of_beq_eq_false rfl) (lvK1 1 rfl (Nat.ne_of_beq_eq_false rfl) (Nat.ne_of_beq_eq_false rfl) (lvK2 2 rfl (Nat.ne_of_beq_eq_false rfl) rfl lvK0))) (fun ls hl => ?_)
      refine m_aload_n (pc := 50) C dX7_setRate_50 rfl (lv_at hl 1 rfl) ?_
      obtain ⟨q16, h⟩ := ck_some h
      refine G_X7_now (pc := 51) C hM bw_2_63 q16 dX7_setRate_51 ?_
      obtain ⟨q17, h⟩ := ck_some h
      refine G_X6_settings (pc := 54) C hM bw_1_181 q17 dX7_setRate_54 ?_
      obtain ⟨q18, h⟩ := ck_some h
      refine G_X5_rates (pc := 57) C hM bw_1_41 q18 dX7_setRate_57 ?_
      refine m_iload_n (pc := 60) C dX7_setRate_60 rfl (lv_at hl 2 rfl) ?_
      refine m_iload_n (pc := 61) C dX7_setRate_61 rfl (lv_at hl 3 rfl) ?_
      obtain ⟨q19, h⟩ := ck_some h
      obtain ⟨μ20, eμ20, h⟩ := nm_some h
      refine m_iast (pc := 62) C hM q19.1 q19.2.1  q19.2.2 rx2 eμ20 dX7_setRate_62 (fun H locs hM => ?_)
      refine m_aload_n (pc := 63) C dX7_setRate_63 rfl (lv_at hl 1 rfl) ?_
      refine m_iload_n (pc := 64) C dX7_setRate_64 rfl (lv_at hl 0 rfl) ?_
      obtain ⟨q21, h⟩ := ck_some h
      obtain ⟨a22, μ23, ca22, h⟩ := bd_some h
      refine V_X7_finishAct (pc := 65) C hM ca22 gq15 q21 bw_2_121 ⟨Nat.le_of_ble_eq_true rfl, Nat.le_of_ble_eq_true rfl⟩ hl.1 rc0 ⟨Nat.le_refl _, Nat.le_refl _⟩ dX7_setRate_65 (fun ra22 H locs hM => ?_)
      cases h
      exact m_iret (pc := 68) C hM ra22 dX7_setRate_68
    · have h := if_f h c6
      refine m_ldc (n := -100000002) (pc := 23) C bw_2_93 rfl dX7_setRate_23 ?_
      cases h
      exact m_iret (pc := 25) C hM rk_m100000002 dX7_setRate_25
  · have h := if_f h c3
    refine m_ldc (n := -100000001) (pc := 9) C bw_2_92 rfl dX7_setRate_9 ?_
    cases h
    exact m_iret (pc := 11) C hM rk_m100000001 dX7_setRate_11
theorem hd_X7_setRate : yX7_setRate.cls ≠ "java/lang/invoke/MethodHandle" ∧ yX7_setRate.cls ≠ "java/lang/invoke/VarHandle" ∧ (parseMethodDescriptor yX7_setRate.desc).map (fun d => d.parameters.length) = some 2 := by decide +kernel

theorem V_X7_setRate {p : Program} {l : Launch} {e : Env} {R : Room} {s : State} {m : MethodId} {args : Array Value} {below : List Frame} {meth : Method} {c : Code} {H : Heap} {locs : List Loc} {cells slots : Nat} {Q : State → Prop} {cc : ByteArray} {pc nL : Nat} {ls : Array Slot} {rest : List Value} {ret : Option FieldType} {nmm own : String} {E : gE} {μ μ1 : Mm} {index : Nat} (C : gCx p s m args meth c cc nL ret nmm own) (hM : MS E μ s H locs) {N : Nat} {x0 x1 x2 v : Int} (hc : f_X7_setRate N x0 x1 x2 μ = some (v, μ1)) (rx1 : R32 x1) (rx2 : R32 x2) (hck : μ x0 (-2) = 9) (h1 : Cond.methodLink own index yX7_setRate ∈ bigL) (hR : 5 ≤ R.frames ∧ 127 ≤ R.locals) (hl : ls.size = nL) (hcat : RC rest 8) (hf : cells + 0 ≤ R.cells ∧ slots + 0 ≤ R.slots) (hdg : decode cc pc = .ok (.invokevirtual index, 3)) (kk : (R32 v) → ∀ (H1 : Heap) (locs1 : List Loc), MS E μ1 s H1 locs1 → W p l e R s m args below meth c H1 locs1 (cells + 0) (slots + 0) Q (F0 m (pc + 3) ls (vi v :: rest))) : W p l e R s m args below meth c H locs cells slots Q (F0 m pc ls (vi x2 :: vi x1 :: vr E x0 :: rest)) := g_callV C KF_X7 hM (c_X7_setRate l E N x0 x1 x2 μ μ1 v hc rx1 rx2) hck (gV h1 bw_2_86 bw_2_87 bw_1_1 bw_2_88) ⟨rfl, hd_X7_setRate⟩ hR rfl hl rfl hcat hf hdg kk
/-! X7_setTerms -/
def f_X7_setTerms (N : Nat) (x0 x1 x2 : Int) (μ : Mm) : Rs :=
  bd (f_X7_outside N x1 1 1000 μ) fun a1 μ2 =>
  if ¬ a1 = 0 then
    (some ((-100000002), μ2))
  else
  bd (f_X7_outside N x2 1 200 μ2) fun a4 μ5 =>
  if a4 = 0 then
    (ck (μ5 x0 (-2) = 9) <|
     ck (μ5 x0 (-2) = 9) <|
     ck (μ5 (μ5 x0 1) (-2) = 3) <|
     bd (f_X1_prepare N (μ5 x0 1) (μ5 x0 0) μ5) fun a10 μ11 =>
     ck (μ11 x0 (-2) = 9) <|
     ck (μ11 (μ11 x0 0) (-2) = 8) <|
     ck (μ11 (μ11 (μ11 x0 0) 0) (-2) = 7) <|
     ck (μ11 x0 (-2) = 9) <|
     ck (μ11 (μ11 x0 0) (-2) = 8) <|
     ck (μ11 (μ11 (μ11 x0 0) 0) (-2) = 7) <|
     nm (mset μ11 (μ11 (μ11 x0 0) 0) 1 x1) fun μ18 =>
     ck (μ18 x0 (-2) = 9) <|
     ck (μ18 (μ18 x0 0) (-2) = 8) <|
     ck (μ18 (μ18 (μ18 x0 0) 0) (-2) = 7) <|
     nm (mset μ18 (μ18 (μ18 x0 0) 0) 2 x2) fun μ22 =>
     ck (μ22 x0 (-2) = 9) <|
     bd (f_X7_finishAct N x0 (μ11 (μ11 (μ11 x0 0) 0) 1) μ22) fun a24 μ25 =>
     some (a24, μ25))
  else
  some ((-100000002), μ5)
set_option maxHeartbeats 4000000 in
set_option maxRecDepth 100000 in
theorem c_X7_setTerms (l : Launch) (E : gE) (N : Nat) (x0 x1 x2 : Int) (μ μ' : Mm) (r : Int) (h : f_X7_setTerms N x0 x1 x2 μ = some (r, μ')) (rx1 : R32 x1) (rx2 : R32 x2) : gMet l E yX7_setTerms cX7_setTerms 4 (some .int) 4 104 [vr E x0, vi x1, vi x2] (some (vi r)) (R32 r) μ μ' 0 0 := by
  refine g_ofW [1, 1, 1] (by first | (simp only [List.map_cons, List.map_nil, vr_cat]; done) | (simp only [List.map_cons, List.map_nil, vr_cat]; rfl)) (by decide) (by decide) (fun p e s m below meth c ls C hM hl => ?_)
  replace C : gCx p s m _ meth c cX7_setTerms 4 (some .int) "setTerms" RX7 := C
  replace hl : lv_has ls 4 [(0, vr E x0), (1, vi x1), (2, vi x2)] := hl
  unfold f_X7_setTerms at h
  refine m_iload_n (pc := 0) C dX7_setTerms_0 rfl (lv_at hl 1 rfl) ?_
  refine m_iconst (pc := 1) C dX7_setTerms_1 ?_
  refine m_sipush (pc := 2) C dX7_setTerms_2 rfl ?_
  obtain ⟨a1, μ2, ca1, h⟩ := bd_some h
  refine V_X7_outside (pc := 5) C hM ca1 rx1 rk_1 rk_1000 bw_2_89 ⟨Nat.le_of_ble_eq_true rfl, Nat.le_of_ble_eq_true rfl⟩ hl.1 rc0 ⟨Nat.le_refl _, Nat.le_refl _⟩ dX7_setTerms_5 (fun ra1 H locs hM => ?_)
  refine m_if_ne (tgt := 22) (pc := 8) C ra1 dX7_setTerms_8 (by decide) (fun c3 => ?_) (fun c3 => ?_)
  · have h := if_t h c3
    refine m_ldc (n := -100000002) (pc := 22) C bw_2_93 rfl dX7_setTerms_22 ?_
    cases h
    exact m_iret (pc := 24) C hM rk_m100000002 dX7_setTerms_24
  · have h := if_f h c3
    refine m_iload_n (pc := 11) C dX7_setTerms_11 rfl (lv_at hl 2 rfl) ?_
    refine m_iconst (pc := 12) C dX7_setTerms_12 ?_
    refine m_sipush (pc := 13) C dX7_setTerms_13 rfl ?_
    obtain ⟨a4, μ5, ca4, h⟩ := bd_some h
    refine V_X7_outside (pc := 16) C hM ca4 rx2 rk_1 rk_200 bw_2_89 ⟨Nat.le_of_ble_eq_true rfl, Nat.le_of_ble_eq_true rfl⟩ hl.1 rc0 ⟨Nat.le_refl _, Nat.le_refl _⟩ dX7_setTerms_16 (fun ra4 H locs hM => ?_)
    refine m_if_eq (tgt := 25) (pc := 19) C ra4 dX7_setTerms_19 (by decide) (fun c6 => ?_) (fun c6 => ?_)
    · have h := if_t h c6
      refine m_aload_n (pc := 25) C dX7_setTerms_25 rfl (lv_at hl 0 rfl) ?_
      obtain ⟨q7, h⟩ := ck_some h
      refine G_X7_history (pc := 26) C hM bw_2_64 q7 dX7_setTerms_26 ?_
      refine m_aload_n (pc := 29) C dX7_setTerms_29 rfl (lv_at hl 0 rfl) ?_
      obtain ⟨q8, h⟩ := ck_some h
      refine G_X7_now (pc := 30) C hM bw_2_63 q8 dX7_setTerms_30 ?_
      obtain ⟨q9, h⟩ := ck_some h
      obtain ⟨a10, μ11, ca10, h⟩ := bd_some h
      refine V_X1_prepare (pc := 33) C hM ca10 q9 bw_2_94 ⟨Nat.le_of_ble_eq_true rfl, Nat.le_of_ble_eq_true rfl⟩ hl.1 rc0 ⟨Nat.le_refl _, Nat.le_refl _⟩ dX7_setTerms_33 (fun _ H locs hM => ?_)
      refine m_aload_n (pc := 36) C dX7_setTerms_36 rfl (lv_at hl 0 rfl) ?_
      obtain ⟨q12, h⟩ := ck_some h
      refine G_X7_now (pc := 37) C hM bw_2_63 q12 dX7_setTerms_37 ?_
      obtain ⟨q13, h⟩ := ck_some h
      refine G_X6_settings (pc := 40) C hM bw_1_181 q13 dX7_setTerms_40 ?_
      obtain ⟨q14, h⟩ := ck_some h
      have gq14 := Gr_X5_term hM q14
      refine G_X5_term (pc := 43) C hM bw_1_43 q14 dX7_setTerms_43 ?_
      refine m_istore_n (pc := 46) C dX7_setTerms_46 rfl hl (by decide) (lvK1 0 rfl (Nat.ne_of_beq_eq_false rfl) (Nat.ne_of_beq_eq_false rfl) (lvK1 1 rfl (Nat.ne_of_beq_eq_false rfl) (Nat.ne_of_beq_eq_false rfl) (lvK2 2 rfl (Nat.ne_of_beq_eq_false rfl) rfl lvK0))) (fun ls hl => ?_)
      refine m_aload_n (pc := 47) C dX7_setTerms_47 rfl (lv_at hl 1 rfl) ?_
      obtain ⟨q15, h⟩ := ck_some h
      refine G_X7_now (pc := 48) C hM bw_2_63 q15 dX7_setTerms_48 ?_
      obtain ⟨q16, h⟩ := ck_some h
      refine G_X6_settings (pc := 51) C hM bw_1_181 q16 dX7_setTerms_51 ?_
      refine m_iload_n (pc := 54) C dX7_setTerms_54 rfl (lv_at hl 2 rfl) ?_
      obtain ⟨q17, h⟩ := ck_some h
      obtain ⟨μ18, eμ18, h⟩ := nm_some h
      refine P_X5_term (pc := 55) C hM bw_1_43 q17 rx1 eμ18 dX7_setTerms_55 (fun H locs hM => ?_)
      refine m_aload_n (pc := 58) C dX7_setTerms_58 rfl (lv_at hl 1 rfl) ?_
      obtain ⟨q19, h⟩ := ck_some h
      refine G_X7_now (pc := 59) C hM bw_2_63 q19 dX7_setTerms_59 ?_
      obtain ⟨q20, h⟩ := ck_some h
      refine G_X6_settings (pc := 62) C hM bw_1_181 q20 dX7_setTerms_62 ?_
      refine m_iload_n (pc := 65) C dX7_setTerms_65 rfl (lv_at hl 3 rfl) ?_
      obtain ⟨q21, h⟩ := ck_some h
      obtain ⟨μ22, eμ22, h⟩ := nm_some h
      refine P_X5_proof (pc := 66) C hM bw_1_45 q21 rx2 eμ22 dX7_setTerms_66 (fun H locs hM => ?_)
      refine m_aload_n (pc := 69) C dX7_setTerms_69 rfl (lv_at hl 1 rfl) ?_
      refine m_iload_n (pc := 70) C dX7_setTerms_70 rfl (lv_at hl 0 rfl) ?_
      obtain ⟨q23, h⟩ := ck_some h
      obtain ⟨a24, μ25, ca24, h⟩ := bd_some h
      refine V_X7_finishAct (pc := 71) C hM ca24 gq14 q23 bw_2_121 ⟨Nat.le_of_ble_eq_true rfl, Nat.le_of_ble_eq_true rfl⟩ hl.1 rc0 ⟨Nat.le_refl _, Nat.le_refl _⟩ dX7_setTerms_71 (fun ra24 H locs hM => ?_)
      cases h
      exact m_iret (pc := 74) C hM ra24 dX7_setTerms_74
    · have h := if_f h c6
      refine m_ldc (n := -100000002) (pc := 22) C bw_2_93 rfl dX7_setTerms_22 ?_
      cases h
      exact m_iret (pc := 24) C hM rk_m100000002 dX7_setTerms_24
theorem hd_X7_setTerms : yX7_setTerms.cls ≠ "java/lang/invoke/MethodHandle" ∧ yX7_setTerms.cls ≠ "java/lang/invoke/VarHandle" ∧ (parseMethodDescriptor yX7_setTerms.desc).map (fun d => d.parameters.length) = some 2 := by decide +kernel

theorem V_X7_setTerms {p : Program} {l : Launch} {e : Env} {R : Room} {s : State} {m : MethodId} {args : Array Value} {below : List Frame} {meth : Method} {c : Code} {H : Heap} {locs : List Loc} {cells slots : Nat} {Q : State → Prop} {cc : ByteArray} {pc nL : Nat} {ls : Array Slot} {rest : List Value} {ret : Option FieldType} {nmm own : String} {E : gE} {μ μ1 : Mm} {index : Nat} (C : gCx p s m args meth c cc nL ret nmm own) (hM : MS E μ s H locs) {N : Nat} {x0 x1 x2 v : Int} (hc : f_X7_setTerms N x0 x1 x2 μ = some (v, μ1)) (rx1 : R32 x1) (rx2 : R32 x2) (hck : μ x0 (-2) = 9) (h1 : Cond.methodLink own index yX7_setTerms ∈ bigL) (hR : 5 ≤ R.frames ∧ 127 ≤ R.locals) (hl : ls.size = nL) (hcat : RC rest 8) (hf : cells + 0 ≤ R.cells ∧ slots + 0 ≤ R.slots) (hdg : decode cc pc = .ok (.invokevirtual index, 3)) (kk : (R32 v) → ∀ (H1 : Heap) (locs1 : List Loc), MS E μ1 s H1 locs1 → W p l e R s m args below meth c H1 locs1 (cells + 0) (slots + 0) Q (F0 m (pc + 3) ls (vi v :: rest))) : W p l e R s m args below meth c H locs cells slots Q (F0 m pc ls (vi x2 :: vi x1 :: vr E x0 :: rest)) := g_callV C KF_X7 hM (c_X7_setTerms l E N x0 x1 x2 μ μ1 v hc rx1 rx2) hck (gV h1 bw_2_130 bw_2_131 bw_1_1 bw_2_132) ⟨rfl, hd_X7_setTerms⟩ hR rfl hl rfl hcat hf hdg kk
end G04
