section G05
variable {p : Program} {l : Launch} {e : Env} {R : Room} {s : State} {m : MethodId} {args : Array Value} {below : List Frame} {meth : Method} {c : Code} {E : gE}
/-! X7_setRules -/
def f_X7_setRules (N : Nat) (x0 x1 x2 x3 : Int) (μ : Mm) : Rs :=
  bd (f_X7_outside N x1 0 100 μ) fun a1 μ2 =>
  if ¬ a1 = 0 then
    (some ((-100000002), μ2))
  else
  bd (f_X7_outside N x2 0 1000 μ2) fun a4 μ5 =>
  if ¬ a4 = 0 then
    (some ((-100000002), μ5))
  else
  bd (f_X7_outside N x3 0 1000 μ5) fun a7 μ8 =>
  if a7 = 0 then
    (ck (μ8 x0 (-2) = 9) <|
     ck (μ8 x0 (-2) = 9) <|
     ck (μ8 (μ8 x0 1) (-2) = 3) <|
     bd (f_X1_prepare N (μ8 x0 1) (μ8 x0 0) μ8) fun a13 μ14 =>
     ck (μ14 x0 (-2) = 9) <|
     ck (μ14 (μ14 x0 0) (-2) = 8) <|
     ck (μ14 (μ14 (μ14 x0 0) 0) (-2) = 7) <|
     ck (μ14 x0 (-2) = 9) <|
     ck (μ14 (μ14 x0 0) (-2) = 8) <|
     ck (μ14 (μ14 (μ14 x0 0) 0) (-2) = 7) <|
     nm (mset μ14 (μ14 (μ14 x0 0) 0) 3 x1) fun μ21 =>
     ck (μ21 x0 (-2) = 9) <|
     ck (μ21 (μ21 x0 0) (-2) = 8) <|
     ck (μ21 (μ21 (μ21 x0 0) 0) (-2) = 7) <|
     nm (mset μ21 (μ21 (μ21 x0 0) 0) 4 x2) fun μ25 =>
     ck (μ25 x0 (-2) = 9) <|
     ck (μ25 (μ25 x0 0) (-2) = 8) <|
     ck (μ25 (μ25 (μ25 x0 0) 0) (-2) = 7) <|
     nm (mset μ25 (μ25 (μ25 x0 0) 0) 5 x3) fun μ29 =>
     ck (μ29 x0 (-2) = 9) <|
     bd (f_X7_finishAct N x0 (μ14 (μ14 (μ14 x0 0) 0) 3) μ29) fun a31 μ32 =>
     some (a31, μ32))
  else
  some ((-100000002), μ8)
set_option maxHeartbeats 4000000 in
set_option maxRecDepth 100000 in
theorem c_X7_setRules (l : Launch) (E : gE) (N : Nat) (x0 x1 x2 x3 : Int) (μ μ' : Mm) (r : Int) (h : f_X7_setRules N x0 x1 x2 x3 μ = some (r, μ')) (rx1 : R32 x1) (rx2 : R32 x2) (rx3 : R32 x3) : gMet l E yX7_setRules cX7_setRules 5 (some .int) 4 104 [vr E x0, vi x1, vi x2, vi x3] (some (vi r)) (R32 r) μ μ' 0 0 := by
  refine g_ofW [1, 1, 1, 1] (by first | (simp only [List.map_cons, List.map_nil, vr_cat]; done) | (simp only [List.map_cons, List.map_nil, vr_cat]; rfl)) (by decide) (by decide) (fun p e s m below meth c ls C hM hl => ?_)
  replace C : gCx p s m _ meth c cX7_setRules 5 (some .int) "setRules" RX7 := C
  replace hl : lv_has ls 5 [(0, vr E x0), (1, vi x1), (2, vi x2), (3, vi x3)] := hl
  unfold f_X7_setRules at h
  refine m_iload_n (pc := 0) C dX7_setRules_0 rfl (lv_at hl 1 rfl) ?_
  refine m_iconst (pc := 1) C dX7_setRules_1 ?_
  refine m_bipush (pc := 2) C dX7_setRules_2 rfl ?_
  obtain ⟨a1, μ2, ca1, h⟩ := bd_some h
  refine V_X7_outside (pc := 4) C hM ca1 rx1 rk_0 rk_100 bw_2_89 ⟨Nat.le_of_ble_eq_true rfl, Nat.le_of_ble_eq_true rfl⟩ hl.1 rc0 ⟨Nat.le_refl _, Nat.le_refl _⟩ dX7_setRules_4 (fun ra1 H locs hM => ?_)
  refine m_if_ne (tgt := 32) (pc := 7) C ra1 dX7_setRules_7 (by decide) (fun c3 => ?_) (fun c3 => ?_)
  · have h := if_t h c3
    refine m_ldc (n := -100000002) (pc := 32) C bw_2_93 rfl dX7_setRules_32 ?_
    cases h
    exact m_iret (pc := 34) C hM rk_m100000002 dX7_setRules_34
  · have h := if_f h c3
    refine m_iload_n (pc := 10) C dX7_setRules_10 rfl (lv_at hl 2 rfl) ?_
    refine m_iconst (pc := 11) C dX7_setRules_11 ?_
    refine m_sipush (pc := 12) C dX7_setRules_12 rfl ?_
    obtain ⟨a4, μ5, ca4, h⟩ := bd_some h
    refine V_X7_outside (pc := 15) C hM ca4 rx2 rk_0 rk_1000 bw_2_89 ⟨Nat.le_of_ble_eq_true rfl, Nat.le_of_ble_eq_true rfl⟩ hl.1 rc0 ⟨Nat.le_refl _, Nat.le_refl _⟩ dX7_setRules_15 (fun ra4 H locs hM => ?_)
    refine m_if_ne (tgt := 32) (pc := 18) C ra4 dX7_setRules_18 (by decide) (fun c6 => ?_) (fun c6 => ?_)
    · have h := if_t h c6
      refine m_ldc (n := -100000002) (pc := 32) C bw_2_93 rfl dX7_setRules_32 ?_
      cases h
      exact m_iret (pc := 34) C hM rk_m100000002 dX7_setRules_34
    · have h := if_f h c6
      refine m_iload_n (pc := 21) C dX7_setRules_21 rfl (lv_at hl 3 rfl) ?_
      refine m_iconst (pc := 22) C dX7_setRules_22 ?_
      refine m_sipush (pc := 23) C dX7_setRules_23 rfl ?_
      obtain ⟨a7, μ8, ca7, h⟩ := bd_some h
      refine V_X7_outside (pc := 26) C hM ca7 rx3 rk_0 rk_1000 bw_2_89 ⟨Nat.le_of_ble_eq_true rfl, Nat.le_of_ble_eq_true rfl⟩ hl.1 rc0 ⟨Nat.le_refl _, Nat.le_refl _⟩ dX7_setRules_26 (fun ra7 H locs hM => ?_)
      refine m_if_eq (tgt := 35) (pc := 29) C ra7 dX7_setRules_29 (by decide) (fun c9 => ?_) (fun c9 => ?_)
      · have h := if_t h c9
        refine m_aload_n (pc := 35) C dX7_setRules_35 rfl (lv_at hl 0 rfl) ?_
        obtain ⟨q10, h⟩ := ck_some h
        refine G_X7_history (pc := 36) C hM bw_2_64 q10 dX7_setRules_36 ?_
        refine m_aload_n (pc := 39) C dX7_setRules_39 rfl (lv_at hl 0 rfl) ?_
        obtain ⟨q11, h⟩ := ck_some h
        refine G_X7_now (pc := 40) C hM bw_2_63 q11 dX7_setRules_40 ?_
        obtain ⟨q12, h⟩ := ck_some h
        obtain ⟨a13, μ14, ca13, h⟩ := bd_some h
        refine V_X1_prepare (pc := 43) C hM ca13 q12 bw_2_94 ⟨Nat.le_of_ble_eq_true rfl, Nat.le_of_ble_eq_true rfl⟩ hl.1 rc0 ⟨Nat.le_refl _, Nat.le_refl _⟩ dX7_setRules_43 (fun _ H locs hM => ?_)
        refine m_aload_n (pc := 46) C dX7_setRules_46 rfl (lv_at hl 0 rfl) ?_
        obtain ⟨q15, h⟩ := ck_some h
        refine G_X7_now (pc := 47) C hM bw_2_63 q15 dX7_setRules_47 ?_
        obtain ⟨q16, h⟩ := ck_some h
        refine G_X6_settings (pc := 50) C hM bw_1_181 q16 dX7_setRules_50 ?_
        obtain ⟨q17, h⟩ := ck_some h
        have gq17 := Gr_X5_cover hM q17
        refine G_X5_cover (pc := 53) C hM bw_1_47 q17 dX7_setRules_53 ?_
        refine m_istore (pc := 56) C dX7_setRules_56 hl (by decide) (lvK1 0 rfl (Nat.ne_of_beq_eq_false rfl) (Nat.ne_of_beq_eq_false rfl) (lvK1 1 rfl (Nat.ne_of_beq_eq_false rfl) (Nat.ne_of_beq_eq_false rfl) (lvK1 2 rfl (Nat.ne_of_beq_eq_false rfl) (Nat.ne_of_beq_eq_false rfl) (lvK2 3 rfl (Nat.ne_of_beq_eq_false rfl) rfl lvK0)))) (fun ls hl => ?_)
        refine m_aload_n (pc := 58) C dX7_setRules_58 rfl (lv_at hl 1 rfl) ?_
        obtain ⟨q18, h⟩ := ck_some h
        refine G_X7_now (pc := 59) C hM bw_2_63 q18 dX7_setRules_59 ?_
        obtain ⟨q19, h⟩ := ck_some h
        refine G_X6_settings (pc := 62) C hM bw_1_181 q19 dX7_setRules_62 ?_
        refine m_iload_n (pc := 65) C dX7_setRules_65 rfl (lv_at hl 2 rfl) ?_
        obtain ⟨q20, h⟩ := ck_some h
        obtain ⟨μ21, eμ21, h⟩ := nm_some h
        refine P_X5_cover (pc := 66) C hM bw_1_47 q20 rx1 eμ21 dX7_setRules_66 (fun H locs hM => ?_)
        refine m_aload_n (pc := 69) C dX7_setRules_69 rfl (lv_at hl 1 rfl) ?_
        obtain ⟨q22, h⟩ := ck_some h
        refine G_X7_now (pc := 70) C hM bw_2_63 q22 dX7_setRules_70 ?_
        obtain ⟨q23, h⟩ := ck_some h
        refine G_X6_settings (pc := 73) C hM bw_1_181 q23 dX7_setRules_73 ?_
        refine m_iload_n (pc := 76) C dX7_setRules_76 rfl (lv_at hl 3 rfl) ?_
        obtain ⟨q24, h⟩ := ck_some h
        obtain ⟨μ25, eμ25, h⟩ := nm_some h
        refine P_X5_allowance (pc := 77) C hM bw_1_49 q24 rx2 eμ25 dX7_setRules_77 (fun H locs hM => ?_)
        refine m_aload_n (pc := 80) C dX7_setRules_80 rfl (lv_at hl 1 rfl) ?_
        obtain ⟨q26, h⟩ := ck_some h
        refine G_X7_now (pc := 81) C hM bw_2_63 q26 dX7_setRules_81 ?_
        obtain ⟨q27, h⟩ := ck_some h
        refine G_X6_settings (pc := 84) C hM bw_1_181 q27 dX7_setRules_84 ?_
        refine m_iload_n (pc := 87) C dX7_setRules_87 rfl (lv_at hl 4 rfl) ?_
        obtain ⟨q28, h⟩ := ck_some h
        obtain ⟨μ29, eμ29, h⟩ := nm_some h
        refine P_X5_fee (pc := 88) C hM bw_1_51 q28 rx3 eμ29 dX7_setRules_88 (fun H locs hM => ?_)
        refine m_aload_n (pc := 91) C dX7_setRules_91 rfl (lv_at hl 1 rfl) ?_
        refine m_iload (pc := 92) C dX7_setRules_92 (lv_at hl 0 rfl) ?_
        obtain ⟨q30, h⟩ := ck_some h
        obtain ⟨a31, μ32, ca31, h⟩ := bd_some h
        refine V_X7_finishAct (pc := 94) C hM ca31 gq17 q30 bw_2_121 ⟨Nat.le_of_ble_eq_true rfl, Nat.le_of_ble_eq_true rfl⟩ hl.1 rc0 ⟨Nat.le_refl _, Nat.le_refl _⟩ dX7_setRules_94 (fun ra31 H locs hM => ?_)
        cases h
        exact m_iret (pc := 97) C hM ra31 dX7_setRules_97
      · have h := if_f h c9
        refine m_ldc (n := -100000002) (pc := 32) C bw_2_93 rfl dX7_setRules_32 ?_
        cases h
        exact m_iret (pc := 34) C hM rk_m100000002 dX7_setRules_34
theorem hd_X7_setRules : yX7_setRules.cls ≠ "java/lang/invoke/MethodHandle" ∧ yX7_setRules.cls ≠ "java/lang/invoke/VarHandle" ∧ (parseMethodDescriptor yX7_setRules.desc).map (fun d => d.parameters.length) = some 3 := by decide +kernel

theorem V_X7_setRules {p : Program} {l : Launch} {e : Env} {R : Room} {s : State} {m : MethodId} {args : Array Value} {below : List Frame} {meth : Method} {c : Code} {H : Heap} {locs : List Loc} {cells slots : Nat} {Q : State → Prop} {cc : ByteArray} {pc nL : Nat} {ls : Array Slot} {rest : List Value} {ret : Option FieldType} {nmm own : String} {E : gE} {μ μ1 : Mm} {index : Nat} (C : gCx p s m args meth c cc nL ret nmm own) (hM : MS E μ s H locs) {N : Nat} {x0 x1 x2 x3 v : Int} (hc : f_X7_setRules N x0 x1 x2 x3 μ = some (v, μ1)) (rx1 : R32 x1) (rx2 : R32 x2) (rx3 : R32 x3) (hck : μ x0 (-2) = 9) (h1 : Cond.methodLink own index yX7_setRules ∈ bigL) (hR : 5 ≤ R.frames ∧ 128 ≤ R.locals) (hl : ls.size = nL) (hcat : RC rest 8) (hf : cells + 0 ≤ R.cells ∧ slots + 0 ≤ R.slots) (hdg : decode cc pc = .ok (.invokevirtual index, 3)) (kk : (R32 v) → ∀ (H1 : Heap) (locs1 : List Loc), MS E μ1 s H1 locs1 → W p l e R s m args below meth c H1 locs1 (cells + 0) (slots + 0) Q (F0 m (pc + 3) ls (vi v :: rest))) : W p l e R s m args below meth c H locs cells slots Q (F0 m pc ls (vi x3 :: vi x2 :: vi x1 :: vr E x0 :: rest)) := g_callV C KF_X7 hM (c_X7_setRules l E N x0 x1 x2 x3 μ μ1 v hc rx1 rx2 rx3) hck (gV h1 bw_2_134 bw_2_135 bw_1_1 bw_2_136) ⟨rfl, hd_X7_setRules⟩ hR rfl hl rfl hcat hf hdg kk
/-! X7_enterLot -/
def f_X7_enterLot (N : Nat) (x0 x1 x2 x3 x4 : Int) (μ : Mm) : Rs :=
  ck (μ x0 (-2) = 9) <|
  ck (μ (μ x0 0) (-2) = 8) <|
  bd (f_X6_findOwner N (μ x0 0) x1 μ) fun a3 μ4 =>
  ck ((0 : Int) ≤ a3) <|
  if a3 = 0 then
    (some ((-100000001), μ4))
  else
  bd (f_X7_outside N x2 0 5 μ4) fun a7 μ8 =>
  if a7 = 0 then
    (bd (f_X7_outside N x3 1 1000000 μ8) fun a10 μ11 =>
     if ¬ a10 = 0 then
       (some ((-100000002), μ11))
     else
     bd (f_X7_outside N x4 0 10000000 μ11) fun a13 μ14 =>
     if a13 = 0 then
       (ck (μ14 a3 (-2) = 6) <|
        if (μ14 a3 2) ≤ 0 then
          (ck (μ14 x0 (-2) = 9) <|
           ck (μ14 (μ14 x0 0) (-2) = 8) <|
           if (μ14 (μ14 x0 0) 5) < 30 then
             (ck (μ14 x0 (-2) = 9) <|
              ck (μ14 (μ14 x0 0) (-2) = 8) <|
              ck (μ14 (μ14 (μ14 x0 0) 0) (-2) = 7) <|
              bd (f_X5_dutyOf N (μ14 (μ14 x0 0) 0) x2 x4 μ14) fun a24 μ25 =>
              ck (μ25 x0 (-2) = 9) <|
              ck (μ25 (μ25 x0 0) (-2) = 8) <|
              ck (μ25 a3 (-2) = 6) <|
              ck (μ25 x0 (-2) = 9) <|
              ck (μ25 (μ25 x0 0) (-2) = 8) <|
              bd (f_X6_useOf N (μ25 x0 0) x1 μ25) fun a31 μ32 =>
              nm (w32 (a31 + a24)) fun a33 =>
              ck (μ32 (μ25 (μ25 x0 0) 0) (-2) = 7) <|
              bd (f_X5_covers N (μ25 (μ25 x0 0) 0) (μ25 a3 1) a33 μ32) fun a35 μ36 =>
              if ¬ a35 = 0 then
                (ck (μ36 x0 (-2) = 9) <|
                 ck (μ36 (μ36 x0 0) (-2) = 8) <|
                 ck (μ36 (μ36 (μ36 x0 0) 2) (-2) = 28 ∧ (0 : Int) ≤ (μ14 (μ14 x0 0) 5) ∧ (μ14 (μ14 x0 0) 5) < μ36 (μ36 (μ36 x0 0) 2) (-1)) <|
                 ck (μ36 (μ36 (μ36 (μ36 x0 0) 2) (μ14 (μ14 x0 0) 5)) (-2) = 4) <|
                 nm (mset μ36 (μ36 (μ36 (μ36 x0 0) 2) (μ14 (μ14 x0 0) 5)) 0 x1) fun μ42 =>
                 ck (μ42 (μ36 (μ36 (μ36 x0 0) 2) (μ14 (μ14 x0 0) 5)) (-2) = 4) <|
                 nm (mset μ42 (μ36 (μ36 (μ36 x0 0) 2) (μ14 (μ14 x0 0) 5)) 1 x2) fun μ44 =>
                 ck (μ44 (μ36 (μ36 (μ36 x0 0) 2) (μ14 (μ14 x0 0) 5)) (-2) = 4) <|
                 nm (mset μ44 (μ36 (μ36 (μ36 x0 0) 2) (μ14 (μ14 x0 0) 5)) 2 x3) fun μ46 =>
                 ck (μ46 (μ36 (μ36 (μ36 x0 0) 2) (μ14 (μ14 x0 0) 5)) (-2) = 4) <|
                 nm (mset μ46 (μ36 (μ36 (μ36 x0 0) 2) (μ14 (μ14 x0 0) 5)) 3 x4) fun μ48 =>
                 ck (μ48 x0 (-2) = 9) <|
                 ck (μ48 (μ48 x0 0) (-2) = 8) <|
                 ck (μ48 (μ36 (μ36 (μ36 x0 0) 2) (μ14 (μ14 x0 0) 5)) (-2) = 4) <|
                 nm (mset μ48 (μ36 (μ36 (μ36 x0 0) 2) (μ14 (μ14 x0 0) 5)) 4 (μ48 (μ48 x0 0) 8)) fun μ52 =>
                 ck (μ52 x0 (-2) = 9) <|
                 ck (μ52 (μ52 x0 0) (-2) = 8) <|
                 ck (μ52 x0 (-2) = 9) <|
                 ck (μ52 (μ52 x0 0) (-2) = 8) <|
                 ck (μ52 (μ52 (μ52 x0 0) 0) (-2) = 7) <|
                 nm (w32 ((μ52 (μ52 x0 0) 8) + (μ52 (μ52 (μ52 x0 0) 0) 1))) fun a58 =>
                 ck (μ52 (μ36 (μ36 (μ36 x0 0) 2) (μ14 (μ14 x0 0) 5)) (-2) = 4) <|
                 nm (mset μ52 (μ36 (μ36 (μ36 x0 0) 2) (μ14 (μ14 x0 0) 5)) 5 a58) fun μ60 =>
                 ck (μ60 (μ36 (μ36 (μ36 x0 0) 2) (μ14 (μ14 x0 0) 5)) (-2) = 4) <|
                 nm (mset μ60 (μ36 (μ36 (μ36 x0 0) 2) (μ14 (μ14 x0 0) 5)) 6 a24) fun μ62 =>
                 ck (μ62 (μ36 (μ36 (μ36 x0 0) 2) (μ14 (μ14 x0 0) 5)) (-2) = 4) <|
                 nm (mset μ62 (μ36 (μ36 (μ36 x0 0) 2) (μ14 (μ14 x0 0) 5)) 7 x3) fun μ64 =>
                 ck (μ64 x0 (-2) = 9) <|
                 nm (w32 ((μ14 (μ14 x0 0) 5) + 1)) fun a66 =>
                 ck (μ64 (μ64 x0 0) (-2) = 8) <|
                 nm (mset μ64 (μ64 x0 0) 5 a66) fun μ68 =>
                 some (μ14 (μ14 x0 0) 5, μ68))
              else
              ck (μ36 x0 (-2) = 9) <|
              bd (f_X7_refuse N x0 2 μ36) fun a70 μ71 =>
              some (a70, μ71))
           else
           ck (μ14 x0 (-2) = 9) <|
           bd (f_X7_refuse N x0 5 μ14) fun a73 μ74 =>
           some (a73, μ74))
        else
        ck (μ14 x0 (-2) = 9) <|
        bd (f_X7_refuse N x0 1 μ14) fun a76 μ77 =>
        some (a76, μ77))
     else
     some ((-100000002), μ14))
  else
  some ((-100000001), μ8)
set_option maxHeartbeats 4000000 in
set_option maxRecDepth 100000 in
theorem c_X7_enterLot (l : Launch) (E : gE) (N : Nat) (x0 x1 x2 x3 x4 : Int) (μ μ' : Mm) (r : Int) (h : f_X7_enterLot N x0 x1 x2 x3 x4 μ = some (r, μ')) (rx1 : R32 x1) (rx2 : R32 x2) (rx3 : R32 x3) (rx4 : R32 x4) : gMet l E yX7_enterLot cX7_enterLot 9 (some .int) 2 43 [vr E x0, vi x1, vi x2, vi x3, vi x4] (some (vi r)) (R32 r) μ μ' 0 0 := by
  refine g_ofW [1, 1, 1, 1, 1] (by first | (simp only [List.map_cons, List.map_nil, vr_cat]; done) | (simp only [List.map_cons, List.map_nil, vr_cat]; rfl)) (by decide) (by decide) (fun p e s m below meth c ls C hM hl => ?_)
  replace C : gCx p s m _ meth c cX7_enterLot 9 (some .int) "enterLot" RX7 := C
  replace hl : lv_has ls 9 [(0, vr E x0), (1, vi x1), (2, vi x2), (3, vi x3), (4, vi x4)] := hl
  unfold f_X7_enterLot at h
  refine m_aload_n (pc := 0) C dX7_enterLot_0 rfl (lv_at hl 0 rfl) ?_
  obtain ⟨q1, h⟩ := ck_some h
  refine G_X7_now (pc := 1) C hM bw_2_63 q1 dX7_enterLot_1 ?_
  refine m_iload_n (pc := 4) C dX7_enterLot_4 rfl (lv_at hl 1 rfl) ?_
  obtain ⟨q2, h⟩ := ck_some h
  obtain ⟨a3, μ4, ca3, h⟩ := bd_some h
  refine V_X6_findOwner (pc := 5) C hM ca3 rx1 q2 bw_3_34 ⟨Nat.le_of_ble_eq_true rfl, Nat.le_of_ble_eq_true rfl⟩ hl.1 rc0 ⟨Nat.le_refl _, Nat.le_refl _⟩ dX7_enterLot_5 (fun _ H locs hM => ?_)
  refine m_astore (pc := 8) C dX7_enterLot_8 hl (by decide) (lvK1 0 rfl (Nat.ne_of_beq_eq_false rfl) (Nat.ne_of_beq_eq_false rfl) (lvK1 1 rfl (Nat.ne_of_beq_eq_false rfl) (Nat.ne_of_beq_eq_false rfl) (lvK1 2 rfl (Nat.ne_of_beq_eq_false rfl) (Nat.ne_of_beq_eq_false rfl) (lvK1 3 rfl (Nat.ne_of_beq_eq_false rfl) (Nat.ne_of_beq_eq_false rfl) (lvK2 4 rfl (Nat.ne_of_beq_eq_false rfl) rfl lvK0))))) (fun ls hl => ?_)
  refine m_aload (pc := 10) C dX7_enterLot_10 (lv_at hl 0 rfl) ?_
  obtain ⟨q6, h⟩ := ck_some h
  refine m_ifnull (tgt := 24) (pc := 12) C q6 dX7_enterLot_12 (by decide) (fun c5 => ?_) (fun c5 => ?_)
  · have h := if_t h c5
    refine m_ldc (n := -100000001) (pc := 24) C bw_2_92 rfl dX7_enterLot_24 ?_
    cases h
    exact m_iret (pc := 26) C hM rk_m100000001 dX7_enterLot_26
  · have h := if_f h c5
    refine m_iload_n (pc := 15) C dX7_enterLot_15 rfl (lv_at hl 3 rfl) ?_
    refine m_iconst (pc := 16) C dX7_enterLot_16 ?_
    refine m_iconst (pc := 17) C dX7_enterLot_17 ?_
    obtain ⟨a7, μ8, ca7, h⟩ := bd_some h
    refine V_X7_outside (pc := 18) C hM ca7 rx2 rk_0 rk_5 bw_2_89 ⟨Nat.le_of_ble_eq_true rfl, Nat.le_of_ble_eq_true rfl⟩ hl.1 rc0 ⟨Nat.le_refl _, Nat.le_refl _⟩ dX7_enterLot_18 (fun ra7 H locs hM => ?_)
    refine m_if_eq (tgt := 27) (pc := 21) C ra7 dX7_enterLot_21 (by decide) (fun c9 => ?_) (fun c9 => ?_)
    · have h := if_t h c9
      refine m_iload_n (pc := 27) C dX7_enterLot_27 rfl (lv_at hl 4 rfl) ?_
      refine m_iconst (pc := 28) C dX7_enterLot_28 ?_
      refine m_ldcw (n := 1000000) (pc := 29) C bw_4_69 rfl dX7_enterLot_29 ?_
      obtain ⟨a10, μ11, ca10, h⟩ := bd_some h
      refine V_X7_outside (pc := 32) C hM ca10 rx3 rk_1 rk_1000000 bw_2_89 ⟨Nat.le_of_ble_eq_true rfl, Nat.le_of_ble_eq_true rfl⟩ hl.1 rc0 ⟨Nat.le_refl _, Nat.le_refl _⟩ dX7_enterLot_32 (fun ra10 H locs hM => ?_)
      refine m_if_ne (tgt := 49) (pc := 35) C ra10 dX7_enterLot_35 (by decide) (fun c12 => ?_) (fun c12 => ?_)
      · have h := if_t h c12
        refine m_ldc (n := -100000002) (pc := 49) C bw_2_93 rfl dX7_enterLot_49 ?_
        cases h
        exact m_iret (pc := 51) C hM rk_m100000002 dX7_enterLot_51
      · have h := if_f h c12
        refine m_iload (pc := 38) C dX7_enterLot_38 (lv_at hl 5 rfl) ?_
        refine m_iconst (pc := 40) C dX7_enterLot_40 ?_
        refine m_ldc (n := 10000000) (pc := 41) C bw_3_96 rfl dX7_enterLot_41 ?_
        obtain ⟨a13, μ14, ca13, h⟩ := bd_some h
        refine V_X7_outside (pc := 43) C hM ca13 rx4 rk_0 rk_10000000 bw_2_89 ⟨Nat.le_of_ble_eq_true rfl, Nat.le_of_ble_eq_true rfl⟩ hl.1 rc0 ⟨Nat.le_refl _, Nat.le_refl _⟩ dX7_enterLot_43 (fun ra13 H locs hM => ?_)
        refine m_if_eq (tgt := 52) (pc := 46) C ra13 dX7_enterLot_46 (by decide) (fun c15 => ?_) (fun c15 => ?_)
        · have h := if_t h c15
          refine m_aload (pc := 52) C dX7_enterLot_52 (lv_at hl 0 rfl) ?_
          obtain ⟨q16, h⟩ := ck_some h
          have gq16 := Gr_X4_debt hM q16
          refine G_X4_debt (pc := 54) C hM bw_1_78 q16 dX7_enterLot_54 ?_
          refine m_if_le (tgt := 66) (pc := 57) C gq16 dX7_enterLot_57 (by decide) (fun c17 => ?_) (fun c17 => ?_)
          · have h := if_t h c17
            refine m_aload_n (pc := 66) C dX7_enterLot_66 rfl (lv_at hl 1 rfl) ?_
            obtain ⟨q18, h⟩ := ck_some h
            refine G_X7_now (pc := 67) C hM bw_2_63 q18 dX7_enterLot_67 ?_
            obtain ⟨q19, h⟩ := ck_some h
            have gq19 := Gr_X6_lotCount hM q19
            refine G_X6_lotCount (pc := 70) C hM bw_1_190 q19 dX7_enterLot_70 ?_
            refine m_istore (pc := 73) C dX7_enterLot_73 hl (by decide) (lvK2 0 rfl (Nat.ne_of_beq_eq_false rfl) (vr_cat _ _) (lvK1 1 rfl (Nat.ne_of_beq_eq_false rfl) (Nat.ne_of_beq_eq_false rfl) (lvK1 2 rfl (Nat.ne_of_beq_eq_false rfl) (Nat.ne_of_beq_eq_false rfl) (lvK1 3 rfl (Nat.ne_of_beq_eq_false rfl) (Nat.ne_of_beq_eq_false rfl) (lvK1 4 rfl (Nat.ne_of_beq_eq_false rfl) (Nat.ne_of_beq_eq_false rfl) (lvK1 5 rfl (Nat.ne_of_beq_eq_false rfl) (Nat.ne_of_beq_eq_false rfl) lvK0)))))) (fun ls hl => ?_)
            refine m_iload (pc := 75) C dX7_enterLot_75 (lv_at hl 0 rfl) ?_
            refine m_bipush (pc := 77) C dX7_enterLot_77 rfl ?_
            refine m_icmp_lt (tgt := 88) (pc := 79) C gq19 rk_30 dX7_enterLot_79 (by decide) (fun c20 => ?_) (fun c20 => ?_)
            · have h := if_t h c20
              refine m_aload_n (pc := 88) C dX7_enterLot_88 rfl (lv_at hl 2 rfl) ?_
              obtain ⟨q21, h⟩ := ck_some h
              refine G_X7_now (pc := 89) C hM bw_2_63 q21 dX7_enterLot_89 ?_
              obtain ⟨q22, h⟩ := ck_some h
              refine G_X6_settings (pc := 92) C hM bw_1_181 q22 dX7_enterLot_92 ?_
              refine m_iload_n (pc := 95) C dX7_enterLot_95 rfl (lv_at hl 4 rfl) ?_
              refine m_iload (pc := 96) C dX7_enterLot_96 (lv_at hl 6 rfl) ?_
              obtain ⟨q23, h⟩ := ck_some h
              obtain ⟨a24, μ25, ca24, h⟩ := bd_some h
              refine V_X5_dutyOf (pc := 98) C hM ca24 rx2 rx4 q23 bw_3_97 ⟨Nat.le_of_ble_eq_true rfl, Nat.le_of_ble_eq_true rfl⟩ hl.1 rc0 ⟨Nat.le_refl _, Nat.le_refl _⟩ dX7_enterLot_98 (fun ra24 H locs hM => ?_)
              refine m_istore (pc := 101) C dX7_enterLot_101 hl (by decide) (lvK2 0 rfl (Nat.ne_of_beq_eq_false rfl) rfl (lvK1 1 rfl (Nat.ne_of_beq_eq_false rfl) (Nat.ne_of_beq_eq_false rfl) (lvK1 2 rfl (Nat.ne_of_beq_eq_false rfl) (Nat.ne_of_beq_eq_false rfl) (lvK1 3 rfl (Nat.ne_of_beq_eq_false rfl) (Nat.ne_of_beq_eq_false rfl) (lvK1 4 rfl (Nat.ne_of_beq_eq_false rfl) (Nat.ne_of_beq_eq_false rfl) (lvK1 5 rfl (Nat.ne_of_beq_eq_false rfl) (Nat.ne_of_beq_eq_false rfl) (lvK1 6 rfl (Nat.ne_of_beq_eq_false rfl) (Nat.ne_of_beq_eq_false rfl) lvK0))))))) (fun ls hl => ?_)
              refine m_aload_n (pc := 103) C dX7_enterLot_103 rfl (lv_at hl 3 rfl) ?_
              obtain ⟨q26, h⟩ := ck_some h
              refine G_X7_now (pc := 104) C hM bw_2_63 q26 dX7_enterLot_104 ?_
              obtain ⟨q27, h⟩ := ck_some h
              refine G_X6_settings (pc := 107) C hM bw_1_181 q27 dX7_enterLot_107 ?_
              refine m_aload (pc := 110) C dX7_enterLot_110 (lv_at hl 2 rfl) ?_
              obtain ⟨q28, h⟩ := ck_some h
              have gq28 := Gr_X4_guarantee hM q28
              refine G_X4_guarantee (pc := 112) C hM bw_1_76 q28 dX7_enterLot_112 ?_
              refine m_aload_n (pc := 115) C dX7_enterLot_115 rfl (lv_at hl 3 rfl) ?_
              obtain ⟨q29, h⟩ := ck_some h
              refine G_X7_now (pc := 116) C hM bw_2_63 q29 dX7_enterLot_116 ?_
              refine m_iload_n (pc := 119) C dX7_enterLot_119 rfl (lv_at hl 4 rfl) ?_
              obtain ⟨q30, h⟩ := ck_some h
              obtain ⟨a31, μ32, ca31, h⟩ := bd_some h
              refine V_X6_useOf (pc := 120) C hM ca31 rx1 q30 bw_3_36 ⟨Nat.le_of_ble_eq_true rfl, Nat.le_of_ble_eq_true rfl⟩ hl.1 (rcI (rcR rc0)) ⟨Nat.le_refl _, Nat.le_refl _⟩ dX7_enterLot_120 (fun ra31 H locs hM => ?_)
              refine m_iload (pc := 123) C dX7_enterLot_123 (lv_at hl 0 rfl) ?_
              obtain ⟨a33, ea33, h⟩ := nm_some h
              have ra33 : R32 a33 := by rw [ea33]; exact w32_R _
              refine m_iadd (pc := 125) C dX7_enterLot_125 ea33 ?_
              obtain ⟨q34, h⟩ := ck_some h
              obtain ⟨a35, μ36, ca35, h⟩ := bd_some h
              refine V_X5_covers (pc := 126) C hM ca35 gq28 ra33 q34 bw_3_44 ⟨Nat.le_of_ble_eq_true rfl, Nat.le_of_ble_eq_true rfl⟩ hl.1 rc0 ⟨Nat.le_refl _, Nat.le_refl _⟩ dX7_enterLot_126 (fun ra35 H locs hM => ?_)
              refine m_if_ne (tgt := 138) (pc := 129) C ra35 dX7_enterLot_129 (by decide) (fun c37 => ?_) (fun c37 => ?_)
              · have h := if_t h c37
                refine m_aload_n (pc := 138) C dX7_enterLot_138 rfl (lv_at hl 3 rfl) ?_
                obtain ⟨q38, h⟩ := ck_some h
                refine G_X7_now (pc := 139) C hM bw_2_63 q38 dX7_enterLot_139 ?_
                obtain ⟨q39, h⟩ := ck_some h
                refine G_X6_lots (pc := 142) C hM bw_1_184 q39 dX7_enterLot_142 ?_
                refine m_iload (pc := 145) C dX7_enterLot_145 (lv_at hl 1 rfl) ?_
                obtain ⟨q40, h⟩ := ck_some h
                refine m_aald (pc := 147) C hM q40.1 (by decide) (by decide) q40.2.1 q40.2.2 dX7_enterLot_147 ?_
                refine m_astore (pc := 148) C dX7_enterLot_148 hl (by decide) (lvK2 0 rfl (Nat.ne_of_beq_eq_false rfl) rfl (lvK1 1 rfl (Nat.ne_of_beq_eq_false rfl) (Nat.ne_of_beq_eq_false rfl) (lvK1 3 rfl (Nat.ne_of_beq_eq_false rfl) (Nat.ne_of_beq_eq_false rfl) (lvK1 4 rfl (Nat.ne_of_beq_eq_false rfl) (Nat.ne_of_beq_eq_false rfl) (lvK1 5 rfl (Nat.ne_of_beq_eq_false rfl) (Nat.ne_of_beq_eq_false rfl) (lvK1 6 rfl (Nat.ne_of_beq_eq_false rfl) (Nat.ne_of_beq_eq_false rfl) (lvK1 7 rfl (Nat.ne_of_beq_eq_false rfl) (Nat.ne_of_beq_eq_false rfl) lvK0))))))) (fun ls hl => ?_)
                refine m_aload (pc := 150) C dX7_enterLot_150 (lv_at hl 0 rfl) ?_
                refine m_iload_n (pc := 152) C dX7_enterLot_152 rfl (lv_at hl 4 rfl) ?_
                obtain ⟨q41, h⟩ := ck_some h
                obtain ⟨μ42, eμ42, h⟩ := nm_some h
                refine P_X2_owner (pc := 153) C hM bw_1_100 q41 rx1 eμ42 dX7_enterLot_153 (fun H locs hM => ?_)
                refine m_aload (pc := 156) C dX7_enterLot_156 (lv_at hl 0 rfl) ?_
                refine m_iload_n (pc := 158) C dX7_enterLot_158 rfl (lv_at hl 5 rfl) ?_
                obtain ⟨q43, h⟩ := ck_some h
                obtain ⟨μ44, eμ44, h⟩ := nm_some h
                refine P_X2_kind (pc := 159) C hM bw_1_102 q43 rx2 eμ44 dX7_enterLot_159 (fun H locs hM => ?_)
                refine m_aload (pc := 162) C dX7_enterLot_162 (lv_at hl 0 rfl) ?_
                refine m_iload_n (pc := 164) C dX7_enterLot_164 rfl (lv_at hl 6 rfl) ?_
                obtain ⟨q45, h⟩ := ck_some h
                obtain ⟨μ46, eμ46, h⟩ := nm_some h
                refine P_X2_quantity (pc := 165) C hM bw_1_105 q45 rx3 eμ46 dX7_enterLot_165 (fun H locs hM => ?_)
                refine m_aload (pc := 168) C dX7_enterLot_168 (lv_at hl 0 rfl) ?_
                refine m_iload (pc := 170) C dX7_enterLot_170 (lv_at hl 7 rfl) ?_
                obtain ⟨q47, h⟩ := ck_some h
                obtain ⟨μ48, eμ48, h⟩ := nm_some h
                refine P_X2_value (pc := 172) C hM bw_1_107 q47 rx4 eμ48 dX7_enterLot_172 (fun H locs hM => ?_)
                refine m_aload (pc := 175) C dX7_enterLot_175 (lv_at hl 0 rfl) ?_
                refine m_aload_n (pc := 177) C dX7_enterLot_177 rfl (lv_at hl 3 rfl) ?_
                obtain ⟨q49, h⟩ := ck_some h
                refine G_X7_now (pc := 178) C hM bw_2_63 q49 dX7_enterLot_178 ?_
                obtain ⟨q50, h⟩ := ck_some h
                have gq50 := Gr_X6_day hM q50
                refine G_X6_day (pc := 181) C hM bw_1_196 q50 dX7_enterLot_181 ?_
                obtain ⟨q51, h⟩ := ck_some h
                obtain ⟨μ52, eμ52, h⟩ := nm_some h
                refine P_X2_entered (pc := 184) C hM bw_1_109 q51 gq50 eμ52 dX7_enterLot_184 (fun H locs hM => ?_)
                refine m_aload (pc := 187) C dX7_enterLot_187 (lv_at hl 0 rfl) ?_
                refine m_aload_n (pc := 189) C dX7_enterLot_189 rfl (lv_at hl 3 rfl) ?_
                obtain ⟨q53, h⟩ := ck_some h
                refine G_X7_now (pc := 190) C hM bw_2_63 q53 dX7_enterLot_190 ?_
                obtain ⟨q54, h⟩ := ck_some h
                have gq54 := Gr_X6_day hM q54
                refine G_X6_day (pc := 193) C hM bw_1_196 q54 dX7_enterLot_193 ?_
                refine m_aload_n (pc := 196) C dX7_enterLot_196 rfl (lv_at hl 3 rfl) ?_
                obtain ⟨q55, h⟩ := ck_some h
                refine G_X7_now (pc := 197) C hM bw_2_63 q55 dX7_enterLot_197 ?_
                obtain ⟨q56, h⟩ := ck_some h
                refine G_X6_settings (pc := 200) C hM bw_1_181 q56 dX7_enterLot_200 ?_
                obtain ⟨q57, h⟩ := ck_some h
                have gq57 := Gr_X5_term hM q57
                refine G_X5_term (pc := 203) C hM bw_1_43 q57 dX7_enterLot_203 ?_
                obtain ⟨a58, ea58, h⟩ := nm_some h
                have ra58 : R32 a58 := by rw [ea58]; exact w32_R _
                refine m_iadd (pc := 206) C dX7_enterLot_206 ea58 ?_
                obtain ⟨q59, h⟩ := ck_some h
                obtain ⟨μ60, eμ60, h⟩ := nm_some h
                refine P_X2_deadline (pc := 207) C hM bw_1_111 q59 ra58 eμ60 dX7_enterLot_207 (fun H locs hM => ?_)
                refine m_aload (pc := 210) C dX7_enterLot_210 (lv_at hl 0 rfl) ?_
                refine m_iload (pc := 212) C dX7_enterLot_212 (lv_at hl 1 rfl) ?_
                obtain ⟨q61, h⟩ := ck_some h
                obtain ⟨μ62, eμ62, h⟩ := nm_some h
                refine P_X2_due (pc := 214) C hM bw_1_113 q61 ra24 eμ62 dX7_enterLot_214 (fun H locs hM => ?_)
                refine m_aload (pc := 217) C dX7_enterLot_217 (lv_at hl 0 rfl) ?_
                refine m_iload_n (pc := 219) C dX7_enterLot_219 rfl (lv_at hl 6 rfl) ?_
                obtain ⟨q63, h⟩ := ck_some h
                obtain ⟨μ64, eμ64, h⟩ := nm_some h
                refine P_X2_stored (pc := 220) C hM bw_1_116 q63 rx3 eμ64 dX7_enterLot_220 (fun H locs hM => ?_)
                refine m_aload_n (pc := 223) C dX7_enterLot_223 rfl (lv_at hl 3 rfl) ?_
                obtain ⟨q65, h⟩ := ck_some h
                refine G_X7_now (pc := 224) C hM bw_2_63 q65 dX7_enterLot_224 ?_
                refine m_iload (pc := 227) C dX7_enterLot_227 (lv_at hl 2 rfl) ?_
                refine m_iconst (pc := 229) C dX7_enterLot_229 ?_
                obtain ⟨a66, ea66, h⟩ := nm_some h
                have ra66 : R32 a66 := by rw [ea66]; exact w32_R _
                refine m_iadd (pc := 230) C dX7_enterLot_230 ea66 ?_
                obtain ⟨q67, h⟩ := ck_some h
                obtain ⟨μ68, eμ68, h⟩ := nm_some h
                refine P_X6_lotCount (pc := 231) C hM bw_1_190 q67 ra66 eμ68 dX7_enterLot_231 (fun H locs hM => ?_)
                refine m_iload (pc := 234) C dX7_enterLot_234 (lv_at hl 2 rfl) ?_
                cases h
                exact m_iret (pc := 236) C hM gq19 dX7_enterLot_236
              · have h := if_f h c37
                refine m_aload_n (pc := 132) C dX7_enterLot_132 rfl (lv_at hl 3 rfl) ?_
                refine m_iconst (pc := 133) C dX7_enterLot_133 ?_
                obtain ⟨q69, h⟩ := ck_some h
                obtain ⟨a70, μ71, ca70, h⟩ := bd_some h
                refine V_X7_refuse (pc := 134) C hM ca70 rk_2 q69 bw_2_157 ⟨Nat.le_of_ble_eq_true rfl, Nat.le_of_ble_eq_true rfl⟩ hl.1 rc0 ⟨Nat.le_refl _, Nat.le_refl _⟩ dX7_enterLot_134 (fun ra70 H locs hM => ?_)
                cases h
                exact m_iret (pc := 137) C hM ra70 dX7_enterLot_137
            · have h := if_f h c20
              refine m_aload_n (pc := 82) C dX7_enterLot_82 rfl (lv_at hl 2 rfl) ?_
              refine m_iconst (pc := 83) C dX7_enterLot_83 ?_
              obtain ⟨q72, h⟩ := ck_some h
              obtain ⟨a73, μ74, ca73, h⟩ := bd_some h
              refine V_X7_refuse (pc := 84) C hM ca73 rk_5 q72 bw_2_157 ⟨Nat.le_of_ble_eq_true rfl, Nat.le_of_ble_eq_true rfl⟩ hl.1 rc0 ⟨Nat.le_refl _, Nat.le_refl _⟩ dX7_enterLot_84 (fun ra73 H locs hM => ?_)
              cases h
              exact m_iret (pc := 87) C hM ra73 dX7_enterLot_87
          · have h := if_f h c17
            refine m_aload_n (pc := 60) C dX7_enterLot_60 rfl (lv_at hl 1 rfl) ?_
            refine m_iconst (pc := 61) C dX7_enterLot_61 ?_
            obtain ⟨q75, h⟩ := ck_some h
            obtain ⟨a76, μ77, ca76, h⟩ := bd_some h
            refine V_X7_refuse (pc := 62) C hM ca76 rk_1 q75 bw_2_157 ⟨Nat.le_of_ble_eq_true rfl, Nat.le_of_ble_eq_true rfl⟩ hl.1 rc0 ⟨Nat.le_refl _, Nat.le_refl _⟩ dX7_enterLot_62 (fun ra76 H locs hM => ?_)
            cases h
            exact m_iret (pc := 65) C hM ra76 dX7_enterLot_65
        · have h := if_f h c15
          refine m_ldc (n := -100000002) (pc := 49) C bw_2_93 rfl dX7_enterLot_49 ?_
          cases h
          exact m_iret (pc := 51) C hM rk_m100000002 dX7_enterLot_51
    · have h := if_f h c9
      refine m_ldc (n := -100000001) (pc := 24) C bw_2_92 rfl dX7_enterLot_24 ?_
      cases h
      exact m_iret (pc := 26) C hM rk_m100000001 dX7_enterLot_26
theorem hd_X7_enterLot : yX7_enterLot.cls ≠ "java/lang/invoke/MethodHandle" ∧ yX7_enterLot.cls ≠ "java/lang/invoke/VarHandle" ∧ (parseMethodDescriptor yX7_enterLot.desc).map (fun d => d.parameters.length) = some 4 := by decide +kernel

theorem V_X7_enterLot {p : Program} {l : Launch} {e : Env} {R : Room} {s : State} {m : MethodId} {args : Array Value} {below : List Frame} {meth : Method} {c : Code} {H : Heap} {locs : List Loc} {cells slots : Nat} {Q : State → Prop} {cc : ByteArray} {pc nL : Nat} {ls : Array Slot} {rest : List Value} {ret : Option FieldType} {nmm own : String} {E : gE} {μ μ1 : Mm} {index : Nat} (C : gCx p s m args meth c cc nL ret nmm own) (hM : MS E μ s H locs) {N : Nat} {x0 x1 x2 x3 x4 v : Int} (hc : f_X7_enterLot N x0 x1 x2 x3 x4 μ = some (v, μ1)) (rx1 : R32 x1) (rx2 : R32 x2) (rx3 : R32 x3) (rx4 : R32 x4) (hck : μ x0 (-2) = 9) (h1 : Cond.methodLink own index yX7_enterLot ∈ bigL) (hR : 3 ≤ R.frames ∧ 71 ≤ R.locals) (hl : ls.size = nL) (hcat : RC rest 8) (hf : cells + 0 ≤ R.cells ∧ slots + 0 ≤ R.slots) (hdg : decode cc pc = .ok (.invokevirtual index, 3)) (kk : (R32 v) → ∀ (H1 : Heap) (locs1 : List Loc), MS E μ1 s H1 locs1 → W p l e R s m args below meth c H1 locs1 (cells + 0) (slots + 0) Q (F0 m (pc + 3) ls (vi v :: rest))) : W p l e R s m args below meth c H locs cells slots Q (F0 m pc ls (vi x4 :: vi x3 :: vi x2 :: vi x1 :: vr E x0 :: rest)) := g_callV C KF_X7 hM (c_X7_enterLot l E N x0 x1 x2 x3 x4 μ μ1 v hc rx1 rx2 rx3 rx4) hck (gV h1 bw_4_119 bs_13 bw_1_1 bw_4_120) ⟨rfl, hd_X7_enterLot⟩ hR rfl hl rfl hcat hf hdg kk
/-! X7_enter -/
def f_X7_enter (N : Nat) (x0 x1 x2 x3 x4 : Int) (μ : Mm) : Rs :=
  ck (μ x0 (-2) = 9) <|
  ck (μ x0 (-2) = 9) <|
  ck (μ (μ x0 1) (-2) = 3) <|
  bd (f_X1_prepare N (μ x0 1) (μ x0 0) μ) fun a4 μ5 =>
  ck (μ5 x0 (-2) = 9) <|
  bd (f_X7_enterLot N x0 x1 x2 x3 x4 μ5) fun a7 μ8 =>
  ck (μ8 x0 (-2) = 9) <|
  bd (f_X7_finishAct N x0 a7 μ8) fun a10 μ11 =>
  some (a10, μ11)
set_option maxHeartbeats 4000000 in
set_option maxRecDepth 100000 in
theorem c_X7_enter (l : Launch) (E : gE) (N : Nat) (x0 x1 x2 x3 x4 : Int) (μ μ' : Mm) (r : Int) (h : f_X7_enter N x0 x1 x2 x3 x4 μ = some (r, μ')) (rx1 : R32 x1) (rx2 : R32 x2) (rx3 : R32 x3) (rx4 : R32 x4) : gMet l E yX7_enter cX7_enter 5 (some .int) 4 104 [vr E x0, vi x1, vi x2, vi x3, vi x4] (some (vi r)) (R32 r) μ μ' 0 0 := by
  refine g_ofW [1, 1, 1, 1, 1] (by first | (simp only [List.map_cons, List.map_nil, vr_cat]; done) | (simp only [List.map_cons, List.map_nil, vr_cat]; rfl)) (by decide) (by decide) (fun p e s m below meth c ls C hM hl => ?_)
  replace C : gCx p s m _ meth c cX7_enter 5 (some .int) "enter" RX7 := C
  replace hl : lv_has ls 5 [(0, vr E x0), (1, vi x1), (2, vi x2), (3, vi x3), (4, vi x4)] := hl
  unfold f_X7_enter at h
  refine m_aload_n (pc := 0) C dX7_enter_0 rfl (lv_at hl 0 rfl) ?_
  obtain ⟨q1, h⟩ := ck_some h
  refine G_X7_history (pc := 1) C hM bw_2_64 q1 dX7_enter_1 ?_
  refine m_aload_n (pc := 4) C dX7_enter_4 rfl (lv_at hl 0 rfl) ?_
  obtain ⟨q2, h⟩ := ck_some h
  refine G_X7_now (pc := 5) C hM bw_2_63 q2 dX7_enter_5 ?_
  obtain ⟨q3, h⟩ := ck_some h
  obtain ⟨a4, μ5, ca4, h⟩ := bd_some h
  refine V_X1_prepare (pc := 8) C hM ca4 q3 bw_2_94 ⟨Nat.le_of_ble_eq_true rfl, Nat.le_of_ble_eq_true rfl⟩ hl.1 rc0 ⟨Nat.le_refl _, Nat.le_refl _⟩ dX7_enter_8 (fun _ H locs hM => ?_)
  refine m_aload_n (pc := 11) C dX7_enter_11 rfl (lv_at hl 0 rfl) ?_
  refine m_aload_n (pc := 12) C dX7_enter_12 rfl (lv_at hl 0 rfl) ?_
  refine m_iload_n (pc := 13) C dX7_enter_13 rfl (lv_at hl 1 rfl) ?_
  refine m_iload_n (pc := 14) C dX7_enter_14 rfl (lv_at hl 2 rfl) ?_
  refine m_iload_n (pc := 15) C dX7_enter_15 rfl (lv_at hl 3 rfl) ?_
  refine m_iload (pc := 16) C dX7_enter_16 (lv_at hl 4 rfl) ?_
  obtain ⟨q6, h⟩ := ck_some h
  obtain ⟨a7, μ8, ca7, h⟩ := bd_some h
  refine V_X7_enterLot (pc := 18) C hM ca7 rx1 rx2 rx3 rx4 q6 bw_4_117 ⟨Nat.le_of_ble_eq_true rfl, Nat.le_of_ble_eq_true rfl⟩ hl.1 (rcR rc0) ⟨Nat.le_refl _, Nat.le_refl _⟩ dX7_enter_18 (fun ra7 H locs hM => ?_)
  obtain ⟨q9, h⟩ := ck_some h
  obtain ⟨a10, μ11, ca10, h⟩ := bd_some h
  refine V_X7_finishAct (pc := 21) C hM ca10 ra7 q9 bw_2_121 ⟨Nat.le_of_ble_eq_true rfl, Nat.le_of_ble_eq_true rfl⟩ hl.1 rc0 ⟨Nat.le_refl _, Nat.le_refl _⟩ dX7_enter_21 (fun ra10 H locs hM => ?_)
  cases h
  exact m_iret (pc := 24) C hM ra10 dX7_enter_24
theorem hd_X7_enter : yX7_enter.cls ≠ "java/lang/invoke/MethodHandle" ∧ yX7_enter.cls ≠ "java/lang/invoke/VarHandle" ∧ (parseMethodDescriptor yX7_enter.desc).map (fun d => d.parameters.length) = some 4 := by decide +kernel

theorem V_X7_enter {p : Program} {l : Launch} {e : Env} {R : Room} {s : State} {m : MethodId} {args : Array Value} {below : List Frame} {meth : Method} {c : Code} {H : Heap} {locs : List Loc} {cells slots : Nat} {Q : State → Prop} {cc : ByteArray} {pc nL : Nat} {ls : Array Slot} {rest : List Value} {ret : Option FieldType} {nmm own : String} {E : gE} {μ μ1 : Mm} {index : Nat} (C : gCx p s m args meth c cc nL ret nmm own) (hM : MS E μ s H locs) {N : Nat} {x0 x1 x2 x3 x4 v : Int} (hc : f_X7_enter N x0 x1 x2 x3 x4 μ = some (v, μ1)) (rx1 : R32 x1) (rx2 : R32 x2) (rx3 : R32 x3) (rx4 : R32 x4) (hck : μ x0 (-2) = 9) (h1 : Cond.methodLink own index yX7_enter ∈ bigL) (hR : 5 ≤ R.frames ∧ 128 ≤ R.locals) (hl : ls.size = nL) (hcat : RC rest 8) (hf : cells + 0 ≤ R.cells ∧ slots + 0 ≤ R.slots) (hdg : decode cc pc = .ok (.invokevirtual index, 3)) (kk : (R32 v) → ∀ (H1 : Heap) (locs1 : List Loc), MS E μ1 s H1 locs1 → W p l e R s m args below meth c H1 locs1 (cells + 0) (slots + 0) Q (F0 m (pc + 3) ls (vi v :: rest))) : W p l e R s m args below meth c H locs cells slots Q (F0 m pc ls (vi x4 :: vi x3 :: vi x2 :: vi x1 :: vr E x0 :: rest)) := g_callV C KF_X7 hM (c_X7_enter l E N x0 x1 x2 x3 x4 μ μ1 v hc rx1 rx2 rx3 rx4) hck (gV h1 bw_4_114 bw_4_115 bw_1_1 bw_4_116) ⟨rfl, hd_X7_enter⟩ hR rfl hl rfl hcat hf hdg kk
/-! X7_errorOfTaking -/
def f_X7_errorOfTaking (N : Nat) (x0 x1 x2 : Int) (μ : Mm) : Rs :=
  bd (f_X7_outside N x2 1 1000000 μ) fun a1 μ2 =>
  if a1 = 0 then
    (ck (μ2 x1 (-2) = 4) <|
     if x2 ≤ (μ2 x1 7) then
       (some (0, μ2))
     else
     ck (μ2 x0 (-2) = 9) <|
     bd (f_X7_refuse N x0 4 μ2) fun a7 μ8 =>
     some (a7, μ8))
  else
  some ((-100000002), μ2)
set_option maxHeartbeats 4000000 in
set_option maxRecDepth 100000 in
theorem c_X7_errorOfTaking (l : Launch) (E : gE) (N : Nat) (x0 x1 x2 : Int) (μ μ' : Mm) (r : Int) (h : f_X7_errorOfTaking N x0 x1 x2 μ = some (r, μ')) (rx2 : R32 x2) : gMet l E yX7_errorOfTaking cX7_errorOfTaking 3 (some .int) 1 22 [vr E x0, vr E x1, vi x2] (some (vi r)) (R32 r) μ μ' 0 0 := by
  refine g_ofW [1, 1, 1] (by first | (simp only [List.map_cons, List.map_nil, vr_cat]; done) | (simp only [List.map_cons, List.map_nil, vr_cat]; rfl)) (by decide) (by decide) (fun p e s m below meth c ls C hM hl => ?_)
  replace C : gCx p s m _ meth c cX7_errorOfTaking 3 (some .int) "errorOfTaking" RX7 := C
  replace hl : lv_has ls 3 [(0, vr E x0), (1, vr E x1), (2, vi x2)] := hl
  unfold f_X7_errorOfTaking at h
  refine m_iload_n (pc := 0) C dX7_errorOfTaking_0 rfl (lv_at hl 2 rfl) ?_
  refine m_iconst (pc := 1) C dX7_errorOfTaking_1 ?_
  refine m_ldcw (n := 1000000) (pc := 2) C bw_4_69 rfl dX7_errorOfTaking_2 ?_
  obtain ⟨a1, μ2, ca1, h⟩ := bd_some h
  refine V_X7_outside (pc := 5) C hM ca1 rx2 rk_1 rk_1000000 bw_2_89 ⟨Nat.le_of_ble_eq_true rfl, Nat.le_of_ble_eq_true rfl⟩ hl.1 rc0 ⟨Nat.le_refl _, Nat.le_refl _⟩ dX7_errorOfTaking_5 (fun ra1 H locs hM => ?_)
  refine m_if_eq (tgt := 14) (pc := 8) C ra1 dX7_errorOfTaking_8 (by decide) (fun c3 => ?_) (fun c3 => ?_)
  · have h := if_t h c3
    refine m_iload_n (pc := 14) C dX7_errorOfTaking_14 rfl (lv_at hl 2 rfl) ?_
    refine m_aload_n (pc := 15) C dX7_errorOfTaking_15 rfl (lv_at hl 1 rfl) ?_
    obtain ⟨q4, h⟩ := ck_some h
    have gq4 := Gr_X2_stored hM q4
    refine G_X2_stored (pc := 16) C hM bw_1_116 q4 dX7_errorOfTaking_16 ?_
    refine m_icmp_le (tgt := 28) (pc := 19) C rx2 gq4 dX7_errorOfTaking_19 (by decide) (fun c5 => ?_) (fun c5 => ?_)
    · have h := if_t h c5
      refine m_iconst (pc := 28) C dX7_errorOfTaking_28 ?_
      cases h
      exact m_iret (pc := 29) C hM rk_0 dX7_errorOfTaking_29
    · have h := if_f h c5
      refine m_aload_n (pc := 22) C dX7_errorOfTaking_22 rfl (lv_at hl 0 rfl) ?_
      refine m_iconst (pc := 23) C dX7_errorOfTaking_23 ?_
      obtain ⟨q6, h⟩ := ck_some h
      obtain ⟨a7, μ8, ca7, h⟩ := bd_some h
      refine V_X7_refuse (pc := 24) C hM ca7 rk_4 q6 bw_2_157 ⟨Nat.le_of_ble_eq_true rfl, Nat.le_of_ble_eq_true rfl⟩ hl.1 rc0 ⟨Nat.le_refl _, Nat.le_refl _⟩ dX7_errorOfTaking_24 (fun ra7 H locs hM => ?_)
      cases h
      exact m_iret (pc := 27) C hM ra7 dX7_errorOfTaking_27
  · have h := if_f h c3
    refine m_ldc (n := -100000002) (pc := 11) C bw_2_93 rfl dX7_errorOfTaking_11 ?_
    cases h
    exact m_iret (pc := 13) C hM rk_m100000002 dX7_errorOfTaking_13
theorem hd_X7_errorOfTaking : yX7_errorOfTaking.cls ≠ "java/lang/invoke/MethodHandle" ∧ yX7_errorOfTaking.cls ≠ "java/lang/invoke/VarHandle" ∧ (parseMethodDescriptor yX7_errorOfTaking.desc).map (fun d => d.parameters.length) = some 2 := by decide +kernel

theorem V_X7_errorOfTaking {p : Program} {l : Launch} {e : Env} {R : Room} {s : State} {m : MethodId} {args : Array Value} {below : List Frame} {meth : Method} {c : Code} {H : Heap} {locs : List Loc} {cells slots : Nat} {Q : State → Prop} {cc : ByteArray} {pc nL : Nat} {ls : Array Slot} {rest : List Value} {ret : Option FieldType} {nmm own : String} {E : gE} {μ μ1 : Mm} {index : Nat} (C : gCx p s m args meth c cc nL ret nmm own) (hM : MS E μ s H locs) {N : Nat} {x0 x1 x2 v : Int} (hc : f_X7_errorOfTaking N x0 x1 x2 μ = some (v, μ1)) (rx2 : R32 x2) (hck : μ x0 (-2) = 9) (h1 : Cond.methodLink own index yX7_errorOfTaking ∈ bigL) (hR : 2 ≤ R.frames ∧ 44 ≤ R.locals) (hl : ls.size = nL) (hcat : RC rest 8) (hf : cells + 0 ≤ R.cells ∧ slots + 0 ≤ R.slots) (hdg : decode cc pc = .ok (.invokevirtual index, 3)) (kk : (R32 v) → ∀ (H1 : Heap) (locs1 : List Loc), MS E μ1 s H1 locs1 → W p l e R s m args below meth c H1 locs1 (cells + 0) (slots + 0) Q (F0 m (pc + 3) ls (vi v :: rest))) : W p l e R s m args below meth c H locs cells slots Q (F0 m pc ls (vi x2 :: vr E x1 :: vr E x0 :: rest)) := g_callV C KF_X7 hM (c_X7_errorOfTaking l E N x0 x1 x2 μ μ1 v hc rx2) hck (gV h1 bw_4_67 bs_8 bw_1_1 bw_4_68) ⟨rfl, hd_X7_errorOfTaking⟩ hR rfl hl rfl hcat hf hdg kk
/-! X7_releaseUnits -/
def f_X7_releaseUnits (N : Nat) (x0 x1 x2 : Int) (μ : Mm) : Rs :=
  ck (μ x0 (-2) = 9) <|
  ck (μ (μ x0 0) (-2) = 8) <|
  bd (f_X6_findLot N (μ x0 0) x1 μ) fun a3 μ4 =>
  ck ((0 : Int) ≤ a3) <|
  if ¬ a3 = 0 then
    (ck (μ4 x0 (-2) = 9) <|
     bd (f_X7_errorOfTaking N x0 a3 x2 μ4) fun a8 μ9 =>
     if a8 = 0 then
       (ck (μ9 a3 (-2) = 4) <|
        bd (f_X2_dutyOfNext N a3 0 x2 μ9) fun a12 μ13 =>
        ck (μ13 x0 (-2) = 9) <|
        ck (μ13 a3 (-2) = 4) <|
        ck (μ13 (μ13 x0 0) (-2) = 8) <|
        bd (f_X6_findOwner N (μ13 x0 0) (μ13 a3 0) μ13) fun a17 μ18 =>
        ck ((0 : Int) ≤ a17) <|
        if a17 = 0 then
          (ck (μ18 x0 (-2) = 9) <|
           bd (f_X7_refuse N x0 3 μ18) fun a22 μ23 =>
           some (a22, μ23))
        else
        ck (μ18 a17 (-2) = 6) <|
        if a12 ≤ (μ18 a17 0) then
          (ck (μ18 a17 (-2) = 6) <|
           nm (w64 ((μ18 a17 0) - a12)) fun a27 =>
           ck (μ18 a17 (-2) = 6) <|
           nm (mset μ18 a17 0 a27) fun μ29 =>
           ck (μ29 a3 (-2) = 4) <|
           nm (w32 ((μ29 a3 8) + a12)) fun a31 =>
           ck (μ29 a3 (-2) = 4) <|
           nm (mset μ29 a3 8 a31) fun μ33 =>
           ck (μ33 a3 (-2) = 4) <|
           nm (w32 ((μ33 a3 7) - x2)) fun a35 =>
           ck (μ33 a3 (-2) = 4) <|
           nm (mset μ33 a3 7 a35) fun μ37 =>
           some (a12, μ37))
        else
        ck (μ18 x0 (-2) = 9) <|
        bd (f_X7_refuse N x0 3 μ18) fun a39 μ40 =>
        some (a39, μ40))
     else
     some (a8, μ9))
  else
  some ((-100000001), μ4)
set_option maxHeartbeats 4000000 in
set_option maxRecDepth 100000 in
theorem c_X7_releaseUnits (l : Launch) (E : gE) (N : Nat) (x0 x1 x2 : Int) (μ μ' : Mm) (r : Int) (h : f_X7_releaseUnits N x0 x1 x2 μ = some (r, μ')) (rx1 : R32 x1) (rx2 : R32 x2) : gMet l E yX7_releaseUnits cX7_releaseUnits 7 (some .int) 2 44 [vr E x0, vi x1, vi x2] (some (vi r)) (R32 r) μ μ' 0 0 := by
  refine g_ofW [1, 1, 1] (by first | (simp only [List.map_cons, List.map_nil, vr_cat]; done) | (simp only [List.map_cons, List.map_nil, vr_cat]; rfl)) (by decide) (by decide) (fun p e s m below meth c ls C hM hl => ?_)
  replace C : gCx p s m _ meth c cX7_releaseUnits 7 (some .int) "releaseUnits" RX7 := C
  replace hl : lv_has ls 7 [(0, vr E x0), (1, vi x1), (2, vi x2)] := hl
  unfold f_X7_releaseUnits at h
  refine m_aload_n (pc := 0) C dX7_releaseUnits_0 rfl (lv_at hl 0 rfl) ?_
  obtain ⟨q1, h⟩ := ck_some h
  refine G_X7_now (pc := 1) C hM bw_2_63 q1 dX7_releaseUnits_1 ?_
  refine m_iload_n (pc := 4) C dX7_releaseUnits_4 rfl (lv_at hl 1 rfl) ?_
  obtain ⟨q2, h⟩ := ck_some h
  obtain ⟨a3, μ4, ca3, h⟩ := bd_some h
  refine V_X6_findLot (pc := 5) C hM ca3 rx1 q2 bw_2_149 ⟨Nat.le_of_ble_eq_true rfl, Nat.le_of_ble_eq_true rfl⟩ hl.1 rc0 ⟨Nat.le_refl _, Nat.le_refl _⟩ dX7_releaseUnits_5 (fun _ H locs hM => ?_)
  refine m_astore_n (pc := 8) C dX7_releaseUnits_8 rfl hl (by decide) (lvK1 0 rfl (Nat.ne_of_beq_eq_false rfl) (Nat.ne_of_beq_eq_false rfl) (lvK2 2 rfl (Nat.ne_of_beq_eq_false rfl) rfl lvK0)) (fun ls hl => ?_)
  refine m_aload_n (pc := 9) C dX7_releaseUnits_9 rfl (lv_at hl 0 rfl) ?_
  obtain ⟨q6, h⟩ := ck_some h
  refine m_ifnonnull (tgt := 16) (pc := 10) C q6 dX7_releaseUnits_10 (by decide) (fun c5 => ?_) (fun c5 => ?_)
  · have h := if_t h c5
    refine m_aload_n (pc := 16) C dX7_releaseUnits_16 rfl (lv_at hl 1 rfl) ?_
    refine m_aload_n (pc := 17) C dX7_releaseUnits_17 rfl (lv_at hl 0 rfl) ?_
    refine m_iload_n (pc := 18) C dX7_releaseUnits_18 rfl (lv_at hl 2 rfl) ?_
    obtain ⟨q7, h⟩ := ck_some h
    obtain ⟨a8, μ9, ca8, h⟩ := bd_some h
    refine V_X7_errorOfTaking (pc := 19) C hM ca8 rx2 q7 bw_4_65 ⟨Nat.le_of_ble_eq_true rfl, Nat.le_of_ble_eq_true rfl⟩ hl.1 rc0 ⟨Nat.le_refl _, Nat.le_refl _⟩ dX7_releaseUnits_19 (fun ra8 H locs hM => ?_)
    refine m_istore (pc := 22) C dX7_releaseUnits_22 hl (by decide) (lvK2 0 rfl (Nat.ne_of_beq_eq_false rfl) (vr_cat _ _) (lvK1 1 rfl (Nat.ne_of_beq_eq_false rfl) (Nat.ne_of_beq_eq_false rfl) (lvK1 2 rfl (Nat.ne_of_beq_eq_false rfl) (Nat.ne_of_beq_eq_false rfl) lvK0))) (fun ls hl => ?_)
    refine m_iload (pc := 24) C dX7_releaseUnits_24 (lv_at hl 0 rfl) ?_
    refine m_if_eq (tgt := 32) (pc := 26) C ra8 dX7_releaseUnits_26 (by decide) (fun c10 => ?_) (fun c10 => ?_)
    · have h := if_t h c10
      refine m_aload_n (pc := 32) C dX7_releaseUnits_32 rfl (lv_at hl 1 rfl) ?_
      refine m_iconst (pc := 33) C dX7_releaseUnits_33 ?_
      refine m_iload_n (pc := 34) C dX7_releaseUnits_34 rfl (lv_at hl 3 rfl) ?_
      obtain ⟨q11, h⟩ := ck_some h
      obtain ⟨a12, μ13, ca12, h⟩ := bd_some h
      refine V_X2_dutyOfNext (pc := 35) C hM ca12 rk_0 rx2 q11 bw_4_70 ⟨Nat.le_of_ble_eq_true rfl, Nat.le_of_ble_eq_true rfl⟩ hl.1 rc0 ⟨Nat.le_refl _, Nat.le_refl _⟩ dX7_releaseUnits_35 (fun ra12 H locs hM => ?_)
      refine m_istore (pc := 38) C dX7_releaseUnits_38 hl (by decide) (lvK1 1 rfl (Nat.ne_of_beq_eq_false rfl) (Nat.ne_of_beq_eq_false rfl) (lvK1 2 rfl (Nat.ne_of_beq_eq_false rfl) (Nat.ne_of_beq_eq_false rfl) (lvK1 3 rfl (Nat.ne_of_beq_eq_false rfl) (Nat.ne_of_beq_eq_false rfl) lvK0))) (fun ls hl => ?_)
      refine m_aload_n (pc := 40) C dX7_releaseUnits_40 rfl (lv_at hl 2 rfl) ?_
      obtain ⟨q14, h⟩ := ck_some h
      refine G_X7_now (pc := 41) C hM bw_2_63 q14 dX7_releaseUnits_41 ?_
      refine m_aload_n (pc := 44) C dX7_releaseUnits_44 rfl (lv_at hl 1 rfl) ?_
      obtain ⟨q15, h⟩ := ck_some h
      have gq15 := Gr_X2_owner hM q15
      refine G_X2_owner (pc := 45) C hM bw_1_100 q15 dX7_releaseUnits_45 ?_
      obtain ⟨q16, h⟩ := ck_some h
      obtain ⟨a17, μ18, ca17, h⟩ := bd_some h
      refine V_X6_findOwner (pc := 48) C hM ca17 gq15 q16 bw_3_34 ⟨Nat.le_of_ble_eq_true rfl, Nat.le_of_ble_eq_true rfl⟩ hl.1 rc0 ⟨Nat.le_refl _, Nat.le_refl _⟩ dX7_releaseUnits_48 (fun _ H locs hM => ?_)
      refine m_astore (pc := 51) C dX7_releaseUnits_51 hl (by decide) (lvK2 0 rfl (Nat.ne_of_beq_eq_false rfl) rfl (lvK1 1 rfl (Nat.ne_of_beq_eq_false rfl) (Nat.ne_of_beq_eq_false rfl) (lvK1 2 rfl (Nat.ne_of_beq_eq_false rfl) (Nat.ne_of_beq_eq_false rfl) (lvK1 3 rfl (Nat.ne_of_beq_eq_false rfl) (Nat.ne_of_beq_eq_false rfl) lvK0)))) (fun ls hl => ?_)
      refine m_aload (pc := 53) C dX7_releaseUnits_53 (lv_at hl 0 rfl) ?_
      obtain ⟨q20, h⟩ := ck_some h
      refine m_ifnull (tgt := 70) (pc := 55) C q20 dX7_releaseUnits_55 (by decide) (fun c19 => ?_) (fun c19 => ?_)
      · have h := if_t h c19
        refine m_aload_n (pc := 70) C dX7_releaseUnits_70 rfl (lv_at hl 3 rfl) ?_
        refine m_iconst (pc := 71) C dX7_releaseUnits_71 ?_
        obtain ⟨q21, h⟩ := ck_some h
        obtain ⟨a22, μ23, ca22, h⟩ := bd_some h
        refine V_X7_refuse (pc := 72) C hM ca22 rk_3 q21 bw_2_157 ⟨Nat.le_of_ble_eq_true rfl, Nat.le_of_ble_eq_true rfl⟩ hl.1 rc0 ⟨Nat.le_refl _, Nat.le_refl _⟩ dX7_releaseUnits_72 (fun ra22 H locs hM => ?_)
        cases h
        exact m_iret (pc := 75) C hM ra22 dX7_releaseUnits_75
      · have h := if_f h c19
        refine m_aload (pc := 58) C dX7_releaseUnits_58 (lv_at hl 0 rfl) ?_
        obtain ⟨q24, h⟩ := ck_some h
        have gq24 := Gr_X4_cash hM q24
        refine G_X4_cash (pc := 60) C hM bw_1_74 q24 dX7_releaseUnits_60 ?_
        refine m_iload (pc := 63) C dX7_releaseUnits_63 (lv_at hl 1 rfl) ?_
        refine m_i2l (pc := 65) C ra12 dX7_releaseUnits_65 ?_
        refine m_lcmp_ge (tgt := 76) (pc := 66) C gq24 (R32.to64 ra12) dX7_releaseUnits_66 dX7_releaseUnits_67 (by decide) (fun c25 => ?_) (fun c25 => ?_)
        · have h := if_t h c25
          refine m_aload (pc := 76) C dX7_releaseUnits_76 (lv_at hl 0 rfl) ?_
          refine m_dup (pc := 78) C (vr_cat _ _) dX7_releaseUnits_78 ?_
          obtain ⟨q26, h⟩ := ck_some h
          have gq26 := Gr_X4_cash hM q26
          refine G_X4_cash (pc := 79) C hM bw_1_74 q26 dX7_releaseUnits_79 ?_
          refine m_iload (pc := 82) C dX7_releaseUnits_82 (lv_at hl 1 rfl) ?_
          refine m_i2l (pc := 84) C ra12 dX7_releaseUnits_84 ?_
          obtain ⟨a27, ea27, h⟩ := nm_some h
          have ra27 : R64 a27 := by rw [ea27]; exact w64_R _
          refine m_lsub (pc := 85) C dX7_releaseUnits_85 ea27 ?_
          obtain ⟨q28, h⟩ := ck_some h
          obtain ⟨μ29, eμ29, h⟩ := nm_some h
          refine P_X4_cash (pc := 86) C hM bw_1_74 q28 ra27 eμ29 dX7_releaseUnits_86 (fun H locs hM => ?_)
          refine m_aload_n (pc := 89) C dX7_releaseUnits_89 rfl (lv_at hl 2 rfl) ?_
          refine m_dup (pc := 90) C (vr_cat _ _) dX7_releaseUnits_90 ?_
          obtain ⟨q30, h⟩ := ck_some h
          have gq30 := Gr_X2_paid hM q30
          refine G_X2_paid (pc := 91) C hM bw_1_119 q30 dX7_releaseUnits_91 ?_
          refine m_iload (pc := 94) C dX7_releaseUnits_94 (lv_at hl 1 rfl) ?_
          obtain ⟨a31, ea31, h⟩ := nm_some h
          have ra31 : R32 a31 := by rw [ea31]; exact w32_R _
          refine m_iadd (pc := 96) C dX7_releaseUnits_96 ea31 ?_
          obtain ⟨q32, h⟩ := ck_some h
          obtain ⟨μ33, eμ33, h⟩ := nm_some h
          refine P_X2_paid (pc := 97) C hM bw_1_119 q32 ra31 eμ33 dX7_releaseUnits_97 (fun H locs hM => ?_)
          refine m_aload_n (pc := 100) C dX7_releaseUnits_100 rfl (lv_at hl 2 rfl) ?_
          refine m_dup (pc := 101) C (vr_cat _ _) dX7_releaseUnits_101 ?_
          obtain ⟨q34, h⟩ := ck_some h
          have gq34 := Gr_X2_stored hM q34
          refine G_X2_stored (pc := 102) C hM bw_1_116 q34 dX7_releaseUnits_102 ?_
          refine m_iload_n (pc := 105) C dX7_releaseUnits_105 rfl (lv_at hl 4 rfl) ?_
          obtain ⟨a35, ea35, h⟩ := nm_some h
          have ra35 : R32 a35 := by rw [ea35]; exact w32_R _
          refine m_isub (pc := 106) C dX7_releaseUnits_106 ea35 ?_
          obtain ⟨q36, h⟩ := ck_some h
          obtain ⟨μ37, eμ37, h⟩ := nm_some h
          refine P_X2_stored (pc := 107) C hM bw_1_116 q36 ra35 eμ37 dX7_releaseUnits_107 (fun H locs hM => ?_)
          refine m_iload (pc := 110) C dX7_releaseUnits_110 (lv_at hl 1 rfl) ?_
          cases h
          exact m_iret (pc := 112) C hM ra12 dX7_releaseUnits_112
        · have h := if_f h c25
          refine m_aload_n (pc := 70) C dX7_releaseUnits_70 rfl (lv_at hl 3 rfl) ?_
          refine m_iconst (pc := 71) C dX7_releaseUnits_71 ?_
          obtain ⟨q38, h⟩ := ck_some h
          obtain ⟨a39, μ40, ca39, h⟩ := bd_some h
          refine V_X7_refuse (pc := 72) C hM ca39 rk_3 q38 bw_2_157 ⟨Nat.le_of_ble_eq_true rfl, Nat.le_of_ble_eq_true rfl⟩ hl.1 rc0 ⟨Nat.le_refl _, Nat.le_refl _⟩ dX7_releaseUnits_72 (fun ra39 H locs hM => ?_)
          cases h
          exact m_iret (pc := 75) C hM ra39 dX7_releaseUnits_75
    · have h := if_f h c10
      refine m_iload (pc := 29) C dX7_releaseUnits_29 (lv_at hl 0 rfl) ?_
      cases h
      exact m_iret (pc := 31) C hM ra8 dX7_releaseUnits_31
  · have h := if_f h c5
    refine m_ldc (n := -100000001) (pc := 13) C bw_2_92 rfl dX7_releaseUnits_13 ?_
    cases h
    exact m_iret (pc := 15) C hM rk_m100000001 dX7_releaseUnits_15
theorem hd_X7_releaseUnits : yX7_releaseUnits.cls ≠ "java/lang/invoke/MethodHandle" ∧ yX7_releaseUnits.cls ≠ "java/lang/invoke/VarHandle" ∧ (parseMethodDescriptor yX7_releaseUnits.desc).map (fun d => d.parameters.length) = some 2 := by decide +kernel

theorem V_X7_releaseUnits {p : Program} {l : Launch} {e : Env} {R : Room} {s : State} {m : MethodId} {args : Array Value} {below : List Frame} {meth : Method} {c : Code} {H : Heap} {locs : List Loc} {cells slots : Nat} {Q : State → Prop} {cc : ByteArray} {pc nL : Nat} {ls : Array Slot} {rest : List Value} {ret : Option FieldType} {nmm own : String} {E : gE} {μ μ1 : Mm} {index : Nat} (C : gCx p s m args meth c cc nL ret nmm own) (hM : MS E μ s H locs) {N : Nat} {x0 x1 x2 v : Int} (hc : f_X7_releaseUnits N x0 x1 x2 μ = some (v, μ1)) (rx1 : R32 x1) (rx2 : R32 x2) (hck : μ x0 (-2) = 9) (h1 : Cond.methodLink own index yX7_releaseUnits ∈ bigL) (hR : 3 ≤ R.frames ∧ 70 ≤ R.locals) (hl : ls.size = nL) (hcat : RC rest 8) (hf : cells + 0 ≤ R.cells ∧ slots + 0 ≤ R.slots) (hdg : decode cc pc = .ok (.invokevirtual index, 3)) (kk : (R32 v) → ∀ (H1 : Heap) (locs1 : List Loc), MS E μ1 s H1 locs1 → W p l e R s m args below meth c H1 locs1 (cells + 0) (slots + 0) Q (F0 m (pc + 3) ls (vi v :: rest))) : W p l e R s m args below meth c H locs cells slots Q (F0 m pc ls (vi x2 :: vi x1 :: vr E x0 :: rest)) := g_callV C KF_X7 hM (c_X7_releaseUnits l E N x0 x1 x2 μ μ1 v hc rx1 rx2) hck (gV h1 bw_4_63 bs_7 bw_1_1 bw_4_64) ⟨rfl, hd_X7_releaseUnits⟩ hR rfl hl rfl hcat hf hdg kk
/-! X7_release -/
def f_X7_release (N : Nat) (x0 x1 x2 : Int) (μ : Mm) : Rs :=
  ck (μ x0 (-2) = 9) <|
  ck (μ x0 (-2) = 9) <|
  ck (μ (μ x0 1) (-2) = 3) <|
  bd (f_X1_prepare N (μ x0 1) (μ x0 0) μ) fun a4 μ5 =>
  ck (μ5 x0 (-2) = 9) <|
  bd (f_X7_releaseUnits N x0 x1 x2 μ5) fun a7 μ8 =>
  ck (μ8 x0 (-2) = 9) <|
  bd (f_X7_finishAct N x0 a7 μ8) fun a10 μ11 =>
  some (a10, μ11)
set_option maxHeartbeats 4000000 in
set_option maxRecDepth 100000 in
theorem c_X7_release (l : Launch) (E : gE) (N : Nat) (x0 x1 x2 : Int) (μ μ' : Mm) (r : Int) (h : f_X7_release N x0 x1 x2 μ = some (r, μ')) (rx1 : R32 x1) (rx2 : R32 x2) : gMet l E yX7_release cX7_release 3 (some .int) 4 104 [vr E x0, vi x1, vi x2] (some (vi r)) (R32 r) μ μ' 0 0 := by
  refine g_ofW [1, 1, 1] (by first | (simp only [List.map_cons, List.map_nil, vr_cat]; done) | (simp only [List.map_cons, List.map_nil, vr_cat]; rfl)) (by decide) (by decide) (fun p e s m below meth c ls C hM hl => ?_)
  replace C : gCx p s m _ meth c cX7_release 3 (some .int) "release" RX7 := C
  replace hl : lv_has ls 3 [(0, vr E x0), (1, vi x1), (2, vi x2)] := hl
  unfold f_X7_release at h
  refine m_aload_n (pc := 0) C dX7_release_0 rfl (lv_at hl 0 rfl) ?_
  obtain ⟨q1, h⟩ := ck_some h
  refine G_X7_history (pc := 1) C hM bw_2_64 q1 dX7_release_1 ?_
  refine m_aload_n (pc := 4) C dX7_release_4 rfl (lv_at hl 0 rfl) ?_
  obtain ⟨q2, h⟩ := ck_some h
  refine G_X7_now (pc := 5) C hM bw_2_63 q2 dX7_release_5 ?_
  obtain ⟨q3, h⟩ := ck_some h
  obtain ⟨a4, μ5, ca4, h⟩ := bd_some h
  refine V_X1_prepare (pc := 8) C hM ca4 q3 bw_2_94 ⟨Nat.le_of_ble_eq_true rfl, Nat.le_of_ble_eq_true rfl⟩ hl.1 rc0 ⟨Nat.le_refl _, Nat.le_refl _⟩ dX7_release_8 (fun _ H locs hM => ?_)
  refine m_aload_n (pc := 11) C dX7_release_11 rfl (lv_at hl 0 rfl) ?_
  refine m_aload_n (pc := 12) C dX7_release_12 rfl (lv_at hl 0 rfl) ?_
  refine m_iload_n (pc := 13) C dX7_release_13 rfl (lv_at hl 1 rfl) ?_
  refine m_iload_n (pc := 14) C dX7_release_14 rfl (lv_at hl 2 rfl) ?_
  obtain ⟨q6, h⟩ := ck_some h
  obtain ⟨a7, μ8, ca7, h⟩ := bd_some h
  refine V_X7_releaseUnits (pc := 15) C hM ca7 rx1 rx2 q6 bw_4_61 ⟨Nat.le_of_ble_eq_true rfl, Nat.le_of_ble_eq_true rfl⟩ hl.1 (rcR rc0) ⟨Nat.le_refl _, Nat.le_refl _⟩ dX7_release_15 (fun ra7 H locs hM => ?_)
  obtain ⟨q9, h⟩ := ck_some h
  obtain ⟨a10, μ11, ca10, h⟩ := bd_some h
  refine V_X7_finishAct (pc := 18) C hM ca10 ra7 q9 bw_2_121 ⟨Nat.le_of_ble_eq_true rfl, Nat.le_of_ble_eq_true rfl⟩ hl.1 rc0 ⟨Nat.le_refl _, Nat.le_refl _⟩ dX7_release_18 (fun ra10 H locs hM => ?_)
  cases h
  exact m_iret (pc := 21) C hM ra10 dX7_release_21
theorem hd_X7_release : yX7_release.cls ≠ "java/lang/invoke/MethodHandle" ∧ yX7_release.cls ≠ "java/lang/invoke/VarHandle" ∧ (parseMethodDescriptor yX7_release.desc).map (fun d => d.parameters.length) = some 2 := by decide +kernel

theorem V_X7_release {p : Program} {l : Launch} {e : Env} {R : Room} {s : State} {m : MethodId} {args : Array Value} {below : List Frame} {meth : Method} {c : Code} {H : Heap} {locs : List Loc} {cells slots : Nat} {Q : State → Prop} {cc : ByteArray} {pc nL : Nat} {ls : Array Slot} {rest : List Value} {ret : Option FieldType} {nmm own : String} {E : gE} {μ μ1 : Mm} {index : Nat} (C : gCx p s m args meth c cc nL ret nmm own) (hM : MS E μ s H locs) {N : Nat} {x0 x1 x2 v : Int} (hc : f_X7_release N x0 x1 x2 μ = some (v, μ1)) (rx1 : R32 x1) (rx2 : R32 x2) (hck : μ x0 (-2) = 9) (h1 : Cond.methodLink own index yX7_release ∈ bigL) (hR : 5 ≤ R.frames ∧ 126 ≤ R.locals) (hl : ls.size = nL) (hcat : RC rest 8) (hf : cells + 0 ≤ R.cells ∧ slots + 0 ≤ R.slots) (hdg : decode cc pc = .ok (.invokevirtual index, 3)) (kk : (R32 v) → ∀ (H1 : Heap) (locs1 : List Loc), MS E μ1 s H1 locs1 → W p l e R s m args below meth c H1 locs1 (cells + 0) (slots + 0) Q (F0 m (pc + 3) ls (vi v :: rest))) : W p l e R s m args below meth c H locs cells slots Q (F0 m pc ls (vi x2 :: vi x1 :: vr E x0 :: rest)) := g_callV C KF_X7 hM (c_X7_release l E N x0 x1 x2 μ μ1 v hc rx1 rx2) hck (gV h1 bw_4_58 bw_4_59 bw_1_1 bw_4_60) ⟨rfl, hd_X7_release⟩ hR rfl hl rfl hcat hf hdg kk
/-! X7_sampleUnits -/
def f_X7_sampleUnits (N : Nat) (x0 x1 x2 : Int) (μ : Mm) : Rs :=
  ck (μ x0 (-2) = 9) <|
  ck (μ (μ x0 0) (-2) = 8) <|
  bd (f_X6_findLot N (μ x0 0) x1 μ) fun a3 μ4 =>
  ck ((0 : Int) ≤ a3) <|
  if ¬ a3 = 0 then
    (ck (μ4 x0 (-2) = 9) <|
     bd (f_X7_errorOfTaking N x0 a3 x2 μ4) fun a8 μ9 =>
     if a8 = 0 then
       (ck (μ9 x0 (-2) = 9) <|
        ck (μ9 (μ9 x0 0) (-2) = 8) <|
        ck (μ9 (μ9 (μ9 x0 0) 0) (-2) = 7) <|
        bd (f_X5_freeUnitsOf N (μ9 (μ9 x0 0) 0) a3 μ9) fun a14 μ15 =>
        nm (min x2 a14) fun a16 =>
        ck (μ15 a3 (-2) = 4) <|
        bd (f_X2_dutyOfNext N a3 0 a16 μ15) fun a18 μ19 =>
        nm (w32 (x2 - a16)) fun a20 =>
        ck (μ19 a3 (-2) = 4) <|
        bd (f_X2_dutyOfNext N a3 a16 a20 μ19) fun a22 μ23 =>
        ck (μ23 x0 (-2) = 9) <|
        ck (μ23 a3 (-2) = 4) <|
        ck (μ23 (μ23 x0 0) (-2) = 8) <|
        bd (f_X6_findOwner N (μ23 x0 0) (μ23 a3 0) μ23) fun a27 μ28 =>
        ck ((0 : Int) ≤ a27) <|
        if a27 = 0 then
          (ck (μ28 x0 (-2) = 9) <|
           bd (f_X7_refuse N x0 3 μ28) fun a32 μ33 =>
           some (a32, μ33))
        else
        ck (μ28 a27 (-2) = 6) <|
        if a22 ≤ (μ28 a27 0) then
          (ck (μ28 a27 (-2) = 6) <|
           nm (w64 ((μ28 a27 0) - a22)) fun a37 =>
           ck (μ28 a27 (-2) = 6) <|
           nm (mset μ28 a27 0 a37) fun μ39 =>
           ck (μ39 a3 (-2) = 4) <|
           nm (w32 ((μ39 a3 9) + a18)) fun a41 =>
           ck (μ39 a3 (-2) = 4) <|
           nm (mset μ39 a3 9 a41) fun μ43 =>
           ck (μ43 a3 (-2) = 4) <|
           nm (w32 ((μ43 a3 8) + a22)) fun a45 =>
           ck (μ43 a3 (-2) = 4) <|
           nm (mset μ43 a3 8 a45) fun μ47 =>
           ck (μ47 a3 (-2) = 4) <|
           nm (w32 ((μ47 a3 10) + x2)) fun a49 =>
           ck (μ47 a3 (-2) = 4) <|
           nm (mset μ47 a3 10 a49) fun μ51 =>
           ck (μ51 a3 (-2) = 4) <|
           nm (w32 ((μ51 a3 7) - x2)) fun a53 =>
           ck (μ51 a3 (-2) = 4) <|
           nm (mset μ51 a3 7 a53) fun μ55 =>
           some (a22, μ55))
        else
        ck (μ28 x0 (-2) = 9) <|
        bd (f_X7_refuse N x0 3 μ28) fun a57 μ58 =>
        some (a57, μ58))
     else
     some (a8, μ9))
  else
  some ((-100000001), μ4)
set_option maxHeartbeats 4000000 in
set_option maxRecDepth 100000 in
theorem c_X7_sampleUnits (l : Launch) (E : gE) (N : Nat) (x0 x1 x2 : Int) (μ μ' : Mm) (r : Int) (h : f_X7_sampleUnits N x0 x1 x2 μ = some (r, μ')) (rx1 : R32 x1) (rx2 : R32 x2) : gMet l E yX7_sampleUnits cX7_sampleUnits 9 (some .int) 2 44 [vr E x0, vi x1, vi x2] (some (vi r)) (R32 r) μ μ' 0 0 := by
  refine g_ofW [1, 1, 1] (by first | (simp only [List.map_cons, List.map_nil, vr_cat]; done) | (simp only [List.map_cons, List.map_nil, vr_cat]; rfl)) (by decide) (by decide) (fun p e s m below meth c ls C hM hl => ?_)
  replace C : gCx p s m _ meth c cX7_sampleUnits 9 (some .int) "sampleUnits" RX7 := C
  replace hl : lv_has ls 9 [(0, vr E x0), (1, vi x1), (2, vi x2)] := hl
  unfold f_X7_sampleUnits at h
  refine m_aload_n (pc := 0) C dX7_sampleUnits_0 rfl (lv_at hl 0 rfl) ?_
  obtain ⟨q1, h⟩ := ck_some h
  refine G_X7_now (pc := 1) C hM bw_2_63 q1 dX7_sampleUnits_1 ?_
  refine m_iload_n (pc := 4) C dX7_sampleUnits_4 rfl (lv_at hl 1 rfl) ?_
  obtain ⟨q2, h⟩ := ck_some h
  obtain ⟨a3, μ4, ca3, h⟩ := bd_some h
  refine V_X6_findLot (pc := 5) C hM ca3 rx1 q2 bw_2_149 ⟨Nat.le_of_ble_eq_true rfl, Nat.le_of_ble_eq_true rfl⟩ hl.1 rc0 ⟨Nat.le_refl _, Nat.le_refl _⟩ dX7_sampleUnits_5 (fun _ H locs hM => ?_)
  refine m_astore_n (pc := 8) C dX7_sampleUnits_8 rfl hl (by decide) (lvK1 0 rfl (Nat.ne_of_beq_eq_false rfl) (Nat.ne_of_beq_eq_false rfl) (lvK2 2 rfl (Nat.ne_of_beq_eq_false rfl) rfl lvK0)) (fun ls hl => ?_)
  refine m_aload_n (pc := 9) C dX7_sampleUnits_9 rfl (lv_at hl 0 rfl) ?_
  obtain ⟨q6, h⟩ := ck_some h
  refine m_ifnonnull (tgt := 16) (pc := 10) C q6 dX7_sampleUnits_10 (by decide) (fun c5 => ?_) (fun c5 => ?_)
  · have h := if_t h c5
    refine m_aload_n (pc := 16) C dX7_sampleUnits_16 rfl (lv_at hl 1 rfl) ?_
    refine m_aload_n (pc := 17) C dX7_sampleUnits_17 rfl (lv_at hl 0 rfl) ?_
    refine m_iload_n (pc := 18) C dX7_sampleUnits_18 rfl (lv_at hl 2 rfl) ?_
    obtain ⟨q7, h⟩ := ck_some h
    obtain ⟨a8, μ9, ca8, h⟩ := bd_some h
    refine V_X7_errorOfTaking (pc := 19) C hM ca8 rx2 q7 bw_4_65 ⟨Nat.le_of_ble_eq_true rfl, Nat.le_of_ble_eq_true rfl⟩ hl.1 rc0 ⟨Nat.le_refl _, Nat.le_refl _⟩ dX7_sampleUnits_19 (fun ra8 H locs hM => ?_)
    refine m_istore (pc := 22) C dX7_sampleUnits_22 hl (by decide) (lvK2 0 rfl (Nat.ne_of_beq_eq_false rfl) (vr_cat _ _) (lvK1 1 rfl (Nat.ne_of_beq_eq_false rfl) (Nat.ne_of_beq_eq_false rfl) (lvK1 2 rfl (Nat.ne_of_beq_eq_false rfl) (Nat.ne_of_beq_eq_false rfl) lvK0))) (fun ls hl => ?_)
    refine m_iload (pc := 24) C dX7_sampleUnits_24 (lv_at hl 0 rfl) ?_
    refine m_if_eq (tgt := 32) (pc := 26) C ra8 dX7_sampleUnits_26 (by decide) (fun c10 => ?_) (fun c10 => ?_)
    · have h := if_t h c10
      refine m_iload_n (pc := 32) C dX7_sampleUnits_32 rfl (lv_at hl 3 rfl) ?_
      refine m_aload_n (pc := 33) C dX7_sampleUnits_33 rfl (lv_at hl 2 rfl) ?_
      obtain ⟨q11, h⟩ := ck_some h
      refine G_X7_now (pc := 34) C hM bw_2_63 q11 dX7_sampleUnits_34 ?_
      obtain ⟨q12, h⟩ := ck_some h
      refine G_X6_settings (pc := 37) C hM bw_1_181 q12 dX7_sampleUnits_37 ?_
      refine m_aload_n (pc := 40) C dX7_sampleUnits_40 rfl (lv_at hl 1 rfl) ?_
      obtain ⟨q13, h⟩ := ck_some h
      obtain ⟨a14, μ15, ca14, h⟩ := bd_some h
      refine V_X5_freeUnitsOf (pc := 41) C hM ca14 q13 bw_4_79 ⟨Nat.le_of_ble_eq_true rfl, Nat.le_of_ble_eq_true rfl⟩ hl.1 (rcI rc0) ⟨Nat.le_refl _, Nat.le_refl _⟩ dX7_sampleUnits_41 (fun ra14 H locs hM => ?_)
      obtain ⟨a16, ea16, h⟩ := nm_some h
      have ra16 : R32 a16 := by rw [ea16]; exact R32_min rx2 ra14
      refine m_mmin (pc := 44) C rx2 ra14 bw_4_84 hl.1 rc0 ⟨Nat.le_of_ble_eq_true rfl, Nat.le_of_ble_eq_true rfl⟩ ⟨Nat.le_refl _, Nat.le_refl _⟩ ea16 dX7_sampleUnits_44 ?_
      refine m_istore (pc := 47) C dX7_sampleUnits_47 hl (by decide) (lvK1 1 rfl (Nat.ne_of_beq_eq_false rfl) (Nat.ne_of_beq_eq_false rfl) (lvK1 2 rfl (Nat.ne_of_beq_eq_false rfl) (Nat.ne_of_beq_eq_false rfl) (lvK1 3 rfl (Nat.ne_of_beq_eq_false rfl) (Nat.ne_of_beq_eq_false rfl) lvK0))) (fun ls hl => ?_)
      refine m_aload_n (pc := 49) C dX7_sampleUnits_49 rfl (lv_at hl 1 rfl) ?_
      refine m_iconst (pc := 50) C dX7_sampleUnits_50 ?_
      refine m_iload (pc := 51) C dX7_sampleUnits_51 (lv_at hl 0 rfl) ?_
      obtain ⟨q17, h⟩ := ck_some h
      obtain ⟨a18, μ19, ca18, h⟩ := bd_some h
      refine V_X2_dutyOfNext (pc := 53) C hM ca18 rk_0 ra16 q17 bw_4_70 ⟨Nat.le_of_ble_eq_true rfl, Nat.le_of_ble_eq_true rfl⟩ hl.1 rc0 ⟨Nat.le_refl _, Nat.le_refl _⟩ dX7_sampleUnits_53 (fun ra18 H locs hM => ?_)
      refine m_istore (pc := 56) C dX7_sampleUnits_56 hl (by decide) (lvK2 0 rfl (Nat.ne_of_beq_eq_false rfl) rfl (lvK1 1 rfl (Nat.ne_of_beq_eq_false rfl) (Nat.ne_of_beq_eq_false rfl) (lvK1 2 rfl (Nat.ne_of_beq_eq_false rfl) (Nat.ne_of_beq_eq_false rfl) (lvK1 3 rfl (Nat.ne_of_beq_eq_false rfl) (Nat.ne_of_beq_eq_false rfl) lvK0)))) (fun ls hl => ?_)
      refine m_aload_n (pc := 58) C dX7_sampleUnits_58 rfl (lv_at hl 2 rfl) ?_
      refine m_iload (pc := 59) C dX7_sampleUnits_59 (lv_at hl 1 rfl) ?_
      refine m_iload_n (pc := 61) C dX7_sampleUnits_61 rfl (lv_at hl 4 rfl) ?_
      refine m_iload (pc := 62) C dX7_sampleUnits_62 (lv_at hl 1 rfl) ?_
      obtain ⟨a20, ea20, h⟩ := nm_some h
      have ra20 : R32 a20 := by rw [ea20]; exact w32_R _
      refine m_isub (pc := 64) C dX7_sampleUnits_64 ea20 ?_
      obtain ⟨q21, h⟩ := ck_some h
      obtain ⟨a22, μ23, ca22, h⟩ := bd_some h
      refine V_X2_dutyOfNext (pc := 65) C hM ca22 ra16 ra20 q21 bw_4_70 ⟨Nat.le_of_ble_eq_true rfl, Nat.le_of_ble_eq_true rfl⟩ hl.1 rc0 ⟨Nat.le_refl _, Nat.le_refl _⟩ dX7_sampleUnits_65 (fun ra22 H locs hM => ?_)
      refine m_istore (pc := 68) C dX7_sampleUnits_68 hl (by decide) (lvK2 0 rfl (Nat.ne_of_beq_eq_false rfl) rfl (lvK1 2 rfl (Nat.ne_of_beq_eq_false rfl) (Nat.ne_of_beq_eq_false rfl) (lvK1 3 rfl (Nat.ne_of_beq_eq_false rfl) (Nat.ne_of_beq_eq_false rfl) (lvK1 4 rfl (Nat.ne_of_beq_eq_false rfl) (Nat.ne_of_beq_eq_false rfl) lvK0)))) (fun ls hl => ?_)
      refine m_aload_n (pc := 70) C dX7_sampleUnits_70 rfl (lv_at hl 3 rfl) ?_
      obtain ⟨q24, h⟩ := ck_some h
      refine G_X7_now (pc := 71) C hM bw_2_63 q24 dX7_sampleUnits_71 ?_
      refine m_aload_n (pc := 74) C dX7_sampleUnits_74 rfl (lv_at hl 2 rfl) ?_
      obtain ⟨q25, h⟩ := ck_some h
      have gq25 := Gr_X2_owner hM q25
      refine G_X2_owner (pc := 75) C hM bw_1_100 q25 dX7_sampleUnits_75 ?_
      obtain ⟨q26, h⟩ := ck_some h
      obtain ⟨a27, μ28, ca27, h⟩ := bd_some h
      refine V_X6_findOwner (pc := 78) C hM ca27 gq25 q26 bw_3_34 ⟨Nat.le_of_ble_eq_true rfl, Nat.le_of_ble_eq_true rfl⟩ hl.1 rc0 ⟨Nat.le_refl _, Nat.le_refl _⟩ dX7_sampleUnits_78 (fun _ H locs hM => ?_)
      refine m_astore (pc := 81) C dX7_sampleUnits_81 hl (by decide) (lvK2 0 rfl (Nat.ne_of_beq_eq_false rfl) rfl (lvK1 1 rfl (Nat.ne_of_beq_eq_false rfl) (Nat.ne_of_beq_eq_false rfl) (lvK1 2 rfl (Nat.ne_of_beq_eq_false rfl) (Nat.ne_of_beq_eq_false rfl) (lvK1 3 rfl (Nat.ne_of_beq_eq_false rfl) (Nat.ne_of_beq_eq_false rfl) (lvK1 4 rfl (Nat.ne_of_beq_eq_false rfl) (Nat.ne_of_beq_eq_false rfl) lvK0))))) (fun ls hl => ?_)
      refine m_aload (pc := 83) C dX7_sampleUnits_83 (lv_at hl 0 rfl) ?_
      obtain ⟨q30, h⟩ := ck_some h
      refine m_ifnull (tgt := 100) (pc := 85) C q30 dX7_sampleUnits_85 (by decide) (fun c29 => ?_) (fun c29 => ?_)
      · have h := if_t h c29
        refine m_aload_n (pc := 100) C dX7_sampleUnits_100 rfl (lv_at hl 4 rfl) ?_
        refine m_iconst (pc := 101) C dX7_sampleUnits_101 ?_
        obtain ⟨q31, h⟩ := ck_some h
        obtain ⟨a32, μ33, ca32, h⟩ := bd_some h
        refine V_X7_refuse (pc := 102) C hM ca32 rk_3 q31 bw_2_157 ⟨Nat.le_of_ble_eq_true rfl, Nat.le_of_ble_eq_true rfl⟩ hl.1 rc0 ⟨Nat.le_refl _, Nat.le_refl _⟩ dX7_sampleUnits_102 (fun ra32 H locs hM => ?_)
        cases h
        exact m_iret (pc := 105) C hM ra32 dX7_sampleUnits_105
      · have h := if_f h c29
        refine m_aload (pc := 88) C dX7_sampleUnits_88 (lv_at hl 0 rfl) ?_
        obtain ⟨q34, h⟩ := ck_some h
        have gq34 := Gr_X4_cash hM q34
        refine G_X4_cash (pc := 90) C hM bw_1_74 q34 dX7_sampleUnits_90 ?_
        refine m_iload (pc := 93) C dX7_sampleUnits_93 (lv_at hl 1 rfl) ?_
        refine m_i2l (pc := 95) C ra22 dX7_sampleUnits_95 ?_
        refine m_lcmp_ge (tgt := 106) (pc := 96) C gq34 (R32.to64 ra22) dX7_sampleUnits_96 dX7_sampleUnits_97 (by decide) (fun c35 => ?_) (fun c35 => ?_)
        · have h := if_t h c35
          refine m_aload (pc := 106) C dX7_sampleUnits_106 (lv_at hl 0 rfl) ?_
          refine m_dup (pc := 108) C (vr_cat _ _) dX7_sampleUnits_108 ?_
          obtain ⟨q36, h⟩ := ck_some h
          have gq36 := Gr_X4_cash hM q36
          refine G_X4_cash (pc := 109) C hM bw_1_74 q36 dX7_sampleUnits_109 ?_
          refine m_iload (pc := 112) C dX7_sampleUnits_112 (lv_at hl 1 rfl) ?_
          refine m_i2l (pc := 114) C ra22 dX7_sampleUnits_114 ?_
          obtain ⟨a37, ea37, h⟩ := nm_some h
          have ra37 : R64 a37 := by rw [ea37]; exact w64_R _
          refine m_lsub (pc := 115) C dX7_sampleUnits_115 ea37 ?_
          obtain ⟨q38, h⟩ := ck_some h
          obtain ⟨μ39, eμ39, h⟩ := nm_some h
          refine P_X4_cash (pc := 116) C hM bw_1_74 q38 ra37 eμ39 dX7_sampleUnits_116 (fun H locs hM => ?_)
          refine m_aload_n (pc := 119) C dX7_sampleUnits_119 rfl (lv_at hl 3 rfl) ?_
          refine m_dup (pc := 120) C (vr_cat _ _) dX7_sampleUnits_120 ?_
          obtain ⟨q40, h⟩ := ck_some h
          have gq40 := Gr_X2_discharged hM q40
          refine G_X2_discharged (pc := 121) C hM bw_1_121 q40 dX7_sampleUnits_121 ?_
          refine m_iload (pc := 124) C dX7_sampleUnits_124 (lv_at hl 2 rfl) ?_
          obtain ⟨a41, ea41, h⟩ := nm_some h
          have ra41 : R32 a41 := by rw [ea41]; exact w32_R _
          refine m_iadd (pc := 126) C dX7_sampleUnits_126 ea41 ?_
          obtain ⟨q42, h⟩ := ck_some h
          obtain ⟨μ43, eμ43, h⟩ := nm_some h
          refine P_X2_discharged (pc := 127) C hM bw_1_121 q42 ra41 eμ43 dX7_sampleUnits_127 (fun H locs hM => ?_)
          refine m_aload_n (pc := 130) C dX7_sampleUnits_130 rfl (lv_at hl 3 rfl) ?_
          refine m_dup (pc := 131) C (vr_cat _ _) dX7_sampleUnits_131 ?_
          obtain ⟨q44, h⟩ := ck_some h
          have gq44 := Gr_X2_paid hM q44
          refine G_X2_paid (pc := 132) C hM bw_1_119 q44 dX7_sampleUnits_132 ?_
          refine m_iload (pc := 135) C dX7_sampleUnits_135 (lv_at hl 1 rfl) ?_
          obtain ⟨a45, ea45, h⟩ := nm_some h
          have ra45 : R32 a45 := by rw [ea45]; exact w32_R _
          refine m_iadd (pc := 137) C dX7_sampleUnits_137 ea45 ?_
          obtain ⟨q46, h⟩ := ck_some h
          obtain ⟨μ47, eμ47, h⟩ := nm_some h
          refine P_X2_paid (pc := 138) C hM bw_1_119 q46 ra45 eμ47 dX7_sampleUnits_138 (fun H locs hM => ?_)
          refine m_aload_n (pc := 141) C dX7_sampleUnits_141 rfl (lv_at hl 3 rfl) ?_
          refine m_dup (pc := 142) C (vr_cat _ _) dX7_sampleUnits_142 ?_
          obtain ⟨q48, h⟩ := ck_some h
          have gq48 := Gr_X2_sampled hM q48
          refine G_X2_sampled (pc := 143) C hM bw_1_124 q48 dX7_sampleUnits_143 ?_
          refine m_iload_n (pc := 146) C dX7_sampleUnits_146 rfl (lv_at hl 5 rfl) ?_
          obtain ⟨a49, ea49, h⟩ := nm_some h
          have ra49 : R32 a49 := by rw [ea49]; exact w32_R _
          refine m_iadd (pc := 147) C dX7_sampleUnits_147 ea49 ?_
          obtain ⟨q50, h⟩ := ck_some h
          obtain ⟨μ51, eμ51, h⟩ := nm_some h
          refine P_X2_sampled (pc := 148) C hM bw_1_124 q50 ra49 eμ51 dX7_sampleUnits_148 (fun H locs hM => ?_)
          refine m_aload_n (pc := 151) C dX7_sampleUnits_151 rfl (lv_at hl 3 rfl) ?_
          refine m_dup (pc := 152) C (vr_cat _ _) dX7_sampleUnits_152 ?_
          obtain ⟨q52, h⟩ := ck_some h
          have gq52 := Gr_X2_stored hM q52
          refine G_X2_stored (pc := 153) C hM bw_1_116 q52 dX7_sampleUnits_153 ?_
          refine m_iload_n (pc := 156) C dX7_sampleUnits_156 rfl (lv_at hl 5 rfl) ?_
          obtain ⟨a53, ea53, h⟩ := nm_some h
          have ra53 : R32 a53 := by rw [ea53]; exact w32_R _
          refine m_isub (pc := 157) C dX7_sampleUnits_157 ea53 ?_
          obtain ⟨q54, h⟩ := ck_some h
          obtain ⟨μ55, eμ55, h⟩ := nm_some h
          refine P_X2_stored (pc := 158) C hM bw_1_116 q54 ra53 eμ55 dX7_sampleUnits_158 (fun H locs hM => ?_)
          refine m_iload (pc := 161) C dX7_sampleUnits_161 (lv_at hl 1 rfl) ?_
          cases h
          exact m_iret (pc := 163) C hM ra22 dX7_sampleUnits_163
        · have h := if_f h c35
          refine m_aload_n (pc := 100) C dX7_sampleUnits_100 rfl (lv_at hl 4 rfl) ?_
          refine m_iconst (pc := 101) C dX7_sampleUnits_101 ?_
          obtain ⟨q56, h⟩ := ck_some h
          obtain ⟨a57, μ58, ca57, h⟩ := bd_some h
          refine V_X7_refuse (pc := 102) C hM ca57 rk_3 q56 bw_2_157 ⟨Nat.le_of_ble_eq_true rfl, Nat.le_of_ble_eq_true rfl⟩ hl.1 rc0 ⟨Nat.le_refl _, Nat.le_refl _⟩ dX7_sampleUnits_102 (fun ra57 H locs hM => ?_)
          cases h
          exact m_iret (pc := 105) C hM ra57 dX7_sampleUnits_105
    · have h := if_f h c10
      refine m_iload (pc := 29) C dX7_sampleUnits_29 (lv_at hl 0 rfl) ?_
      cases h
      exact m_iret (pc := 31) C hM ra8 dX7_sampleUnits_31
  · have h := if_f h c5
    refine m_ldc (n := -100000001) (pc := 13) C bw_2_92 rfl dX7_sampleUnits_13 ?_
    cases h
    exact m_iret (pc := 15) C hM rk_m100000001 dX7_sampleUnits_15
theorem hd_X7_sampleUnits : yX7_sampleUnits.cls ≠ "java/lang/invoke/MethodHandle" ∧ yX7_sampleUnits.cls ≠ "java/lang/invoke/VarHandle" ∧ (parseMethodDescriptor yX7_sampleUnits.desc).map (fun d => d.parameters.length) = some 2 := by decide +kernel

theorem V_X7_sampleUnits {p : Program} {l : Launch} {e : Env} {R : Room} {s : State} {m : MethodId} {args : Array Value} {below : List Frame} {meth : Method} {c : Code} {H : Heap} {locs : List Loc} {cells slots : Nat} {Q : State → Prop} {cc : ByteArray} {pc nL : Nat} {ls : Array Slot} {rest : List Value} {ret : Option FieldType} {nmm own : String} {E : gE} {μ μ1 : Mm} {index : Nat} (C : gCx p s m args meth c cc nL ret nmm own) (hM : MS E μ s H locs) {N : Nat} {x0 x1 x2 v : Int} (hc : f_X7_sampleUnits N x0 x1 x2 μ = some (v, μ1)) (rx1 : R32 x1) (rx2 : R32 x2) (hck : μ x0 (-2) = 9) (h1 : Cond.methodLink own index yX7_sampleUnits ∈ bigL) (hR : 3 ≤ R.frames ∧ 72 ≤ R.locals) (hl : ls.size = nL) (hcat : RC rest 8) (hf : cells + 0 ≤ R.cells ∧ slots + 0 ≤ R.slots) (hdg : decode cc pc = .ok (.invokevirtual index, 3)) (kk : (R32 v) → ∀ (H1 : Heap) (locs1 : List Loc), MS E μ1 s H1 locs1 → W p l e R s m args below meth c H1 locs1 (cells + 0) (slots + 0) Q (F0 m (pc + 3) ls (vi v :: rest))) : W p l e R s m args below meth c H locs cells slots Q (F0 m pc ls (vi x2 :: vi x1 :: vr E x0 :: rest)) := g_callV C KF_X7 hM (c_X7_sampleUnits l E N x0 x1 x2 μ μ1 v hc rx1 rx2) hck (gV h1 bw_4_77 bs_9 bw_1_1 bw_4_78) ⟨rfl, hd_X7_sampleUnits⟩ hR rfl hl rfl hcat hf hdg kk
/-! X7_sample -/
def f_X7_sample (N : Nat) (x0 x1 x2 : Int) (μ : Mm) : Rs :=
  ck (μ x0 (-2) = 9) <|
  ck (μ x0 (-2) = 9) <|
  ck (μ (μ x0 1) (-2) = 3) <|
  bd (f_X1_prepare N (μ x0 1) (μ x0 0) μ) fun a4 μ5 =>
  ck (μ5 x0 (-2) = 9) <|
  bd (f_X7_sampleUnits N x0 x1 x2 μ5) fun a7 μ8 =>
  ck (μ8 x0 (-2) = 9) <|
  bd (f_X7_finishAct N x0 a7 μ8) fun a10 μ11 =>
  some (a10, μ11)
set_option maxHeartbeats 4000000 in
set_option maxRecDepth 100000 in
theorem c_X7_sample (l : Launch) (E : gE) (N : Nat) (x0 x1 x2 : Int) (μ μ' : Mm) (r : Int) (h : f_X7_sample N x0 x1 x2 μ = some (r, μ')) (rx1 : R32 x1) (rx2 : R32 x2) : gMet l E yX7_sample cX7_sample 3 (some .int) 4 104 [vr E x0, vi x1, vi x2] (some (vi r)) (R32 r) μ μ' 0 0 := by
  refine g_ofW [1, 1, 1] (by first | (simp only [List.map_cons, List.map_nil, vr_cat]; done) | (simp only [List.map_cons, List.map_nil, vr_cat]; rfl)) (by decide) (by decide) (fun p e s m below meth c ls C hM hl => ?_)
  replace C : gCx p s m _ meth c cX7_sample 3 (some .int) "sample" RX7 := C
  replace hl : lv_has ls 3 [(0, vr E x0), (1, vi x1), (2, vi x2)] := hl
  unfold f_X7_sample at h
  refine m_aload_n (pc := 0) C dX7_sample_0 rfl (lv_at hl 0 rfl) ?_
  obtain ⟨q1, h⟩ := ck_some h
  refine G_X7_history (pc := 1) C hM bw_2_64 q1 dX7_sample_1 ?_
  refine m_aload_n (pc := 4) C dX7_sample_4 rfl (lv_at hl 0 rfl) ?_
  obtain ⟨q2, h⟩ := ck_some h
  refine G_X7_now (pc := 5) C hM bw_2_63 q2 dX7_sample_5 ?_
  obtain ⟨q3, h⟩ := ck_some h
  obtain ⟨a4, μ5, ca4, h⟩ := bd_some h
  refine V_X1_prepare (pc := 8) C hM ca4 q3 bw_2_94 ⟨Nat.le_of_ble_eq_true rfl, Nat.le_of_ble_eq_true rfl⟩ hl.1 rc0 ⟨Nat.le_refl _, Nat.le_refl _⟩ dX7_sample_8 (fun _ H locs hM => ?_)
  refine m_aload_n (pc := 11) C dX7_sample_11 rfl (lv_at hl 0 rfl) ?_
  refine m_aload_n (pc := 12) C dX7_sample_12 rfl (lv_at hl 0 rfl) ?_
  refine m_iload_n (pc := 13) C dX7_sample_13 rfl (lv_at hl 1 rfl) ?_
  refine m_iload_n (pc := 14) C dX7_sample_14 rfl (lv_at hl 2 rfl) ?_
  obtain ⟨q6, h⟩ := ck_some h
  obtain ⟨a7, μ8, ca7, h⟩ := bd_some h
  refine V_X7_sampleUnits (pc := 15) C hM ca7 rx1 rx2 q6 bw_4_75 ⟨Nat.le_of_ble_eq_true rfl, Nat.le_of_ble_eq_true rfl⟩ hl.1 (rcR rc0) ⟨Nat.le_refl _, Nat.le_refl _⟩ dX7_sample_15 (fun ra7 H locs hM => ?_)
  obtain ⟨q9, h⟩ := ck_some h
  obtain ⟨a10, μ11, ca10, h⟩ := bd_some h
  refine V_X7_finishAct (pc := 18) C hM ca10 ra7 q9 bw_2_121 ⟨Nat.le_of_ble_eq_true rfl, Nat.le_of_ble_eq_true rfl⟩ hl.1 rc0 ⟨Nat.le_refl _, Nat.le_refl _⟩ dX7_sample_18 (fun ra10 H locs hM => ?_)
  cases h
  exact m_iret (pc := 21) C hM ra10 dX7_sample_21
theorem hd_X7_sample : yX7_sample.cls ≠ "java/lang/invoke/MethodHandle" ∧ yX7_sample.cls ≠ "java/lang/invoke/VarHandle" ∧ (parseMethodDescriptor yX7_sample.desc).map (fun d => d.parameters.length) = some 2 := by decide +kernel

theorem V_X7_sample {p : Program} {l : Launch} {e : Env} {R : Room} {s : State} {m : MethodId} {args : Array Value} {below : List Frame} {meth : Method} {c : Code} {H : Heap} {locs : List Loc} {cells slots : Nat} {Q : State → Prop} {cc : ByteArray} {pc nL : Nat} {ls : Array Slot} {rest : List Value} {ret : Option FieldType} {nmm own : String} {E : gE} {μ μ1 : Mm} {index : Nat} (C : gCx p s m args meth c cc nL ret nmm own) (hM : MS E μ s H locs) {N : Nat} {x0 x1 x2 v : Int} (hc : f_X7_sample N x0 x1 x2 μ = some (v, μ1)) (rx1 : R32 x1) (rx2 : R32 x2) (hck : μ x0 (-2) = 9) (h1 : Cond.methodLink own index yX7_sample ∈ bigL) (hR : 5 ≤ R.frames ∧ 126 ≤ R.locals) (hl : ls.size = nL) (hcat : RC rest 8) (hf : cells + 0 ≤ R.cells ∧ slots + 0 ≤ R.slots) (hdg : decode cc pc = .ok (.invokevirtual index, 3)) (kk : (R32 v) → ∀ (H1 : Heap) (locs1 : List Loc), MS E μ1 s H1 locs1 → W p l e R s m args below meth c H1 locs1 (cells + 0) (slots + 0) Q (F0 m (pc + 3) ls (vi v :: rest))) : W p l e R s m args below meth c H locs cells slots Q (F0 m pc ls (vi x2 :: vi x1 :: vr E x0 :: rest)) := g_callV C KF_X7 hM (c_X7_sample l E N x0 x1 x2 μ μ1 v hc rx1 rx2) hck (gV h1 bw_4_72 bw_4_73 bw_1_1 bw_4_74) ⟨rfl, hd_X7_sample⟩ hR rfl hl rfl hcat hf hdg kk
/-! X7_exportUnits -/
def f_X7_exportUnits (N : Nat) (x0 x1 x2 : Int) (μ : Mm) : Rs :=
  ck (μ x0 (-2) = 9) <|
  ck (μ (μ x0 0) (-2) = 8) <|
  bd (f_X6_findLot N (μ x0 0) x1 μ) fun a3 μ4 =>
  ck ((0 : Int) ≤ a3) <|
  if ¬ a3 = 0 then
    (ck (μ4 x0 (-2) = 9) <|
     bd (f_X7_errorOfTaking N x0 a3 x2 μ4) fun a8 μ9 =>
     if a8 = 0 then
       (ck (μ9 x0 (-2) = 9) <|
        ck (μ9 (μ9 x0 0) (-2) = 8) <|
        if (μ9 (μ9 x0 0) 6) < 30 then
          (ck (μ9 x0 (-2) = 9) <|
           ck (μ9 (μ9 x0 0) (-2) = 8) <|
           ck (μ9 (μ9 (μ9 x0 0) 3) (-2) = 29 ∧ (0 : Int) ≤ (μ9 (μ9 x0 0) 6) ∧ (μ9 (μ9 x0 0) 6) < μ9 (μ9 (μ9 x0 0) 3) (-1)) <|
           ck (μ9 (μ9 (μ9 (μ9 x0 0) 3) (μ9 (μ9 x0 0) 6)) (-2) = 2) <|
           nm (mset μ9 (μ9 (μ9 (μ9 x0 0) 3) (μ9 (μ9 x0 0) 6)) 0 x1) fun μ18 =>
           ck (μ18 (μ9 (μ9 (μ9 x0 0) 3) (μ9 (μ9 x0 0) 6)) (-2) = 2) <|
           nm (mset μ18 (μ9 (μ9 (μ9 x0 0) 3) (μ9 (μ9 x0 0) 6)) 1 x2) fun μ20 =>
           ck (μ20 a3 (-2) = 4) <|
           bd (f_X2_dutyOfNext N a3 0 x2 μ20) fun a22 μ23 =>
           ck (μ23 (μ9 (μ9 (μ9 x0 0) 3) (μ9 (μ9 x0 0) 6)) (-2) = 2) <|
           nm (mset μ23 (μ9 (μ9 (μ9 x0 0) 3) (μ9 (μ9 x0 0) 6)) 2 a22) fun μ25 =>
           ck (μ25 x0 (-2) = 9) <|
           ck (μ25 (μ25 x0 0) (-2) = 8) <|
           ck (μ25 x0 (-2) = 9) <|
           ck (μ25 (μ25 x0 0) (-2) = 8) <|
           ck (μ25 (μ25 (μ25 x0 0) 0) (-2) = 7) <|
           nm (w32 ((μ25 (μ25 x0 0) 8) + (μ25 (μ25 (μ25 x0 0) 0) 2))) fun a31 =>
           ck (μ25 (μ9 (μ9 (μ9 x0 0) 3) (μ9 (μ9 x0 0) 6)) (-2) = 2) <|
           nm (mset μ25 (μ9 (μ9 (μ9 x0 0) 3) (μ9 (μ9 x0 0) 6)) 3 a31) fun μ33 =>
           ck (μ33 (μ9 (μ9 (μ9 x0 0) 3) (μ9 (μ9 x0 0) 6)) (-2) = 2) <|
           nm (mset μ33 (μ9 (μ9 (μ9 x0 0) 3) (μ9 (μ9 x0 0) 6)) 4 0) fun μ35 =>
           ck (μ35 a3 (-2) = 4) <|
           nm (w32 ((μ35 a3 7) - x2)) fun a37 =>
           ck (μ35 a3 (-2) = 4) <|
           nm (mset μ35 a3 7 a37) fun μ39 =>
           ck (μ39 x0 (-2) = 9) <|
           nm (w32 ((μ9 (μ9 x0 0) 6) + 1)) fun a41 =>
           ck (μ39 (μ39 x0 0) (-2) = 8) <|
           nm (mset μ39 (μ39 x0 0) 6 a41) fun μ43 =>
           some (μ9 (μ9 x0 0) 6, μ43))
        else
        ck (μ9 x0 (-2) = 9) <|
        bd (f_X7_refuse N x0 5 μ9) fun a45 μ46 =>
        some (a45, μ46))
     else
     some (a8, μ9))
  else
  some ((-100000001), μ4)
set_option maxHeartbeats 4000000 in
set_option maxRecDepth 100000 in
theorem c_X7_exportUnits (l : Launch) (E : gE) (N : Nat) (x0 x1 x2 : Int) (μ μ' : Mm) (r : Int) (h : f_X7_exportUnits N x0 x1 x2 μ = some (r, μ')) (rx1 : R32 x1) (rx2 : R32 x2) : gMet l E yX7_exportUnits cX7_exportUnits 7 (some .int) 2 44 [vr E x0, vi x1, vi x2] (some (vi r)) (R32 r) μ μ' 0 0 := by
  refine g_ofW [1, 1, 1] (by first | (simp only [List.map_cons, List.map_nil, vr_cat]; done) | (simp only [List.map_cons, List.map_nil, vr_cat]; rfl)) (by decide) (by decide) (fun p e s m below meth c ls C hM hl => ?_)
  replace C : gCx p s m _ meth c cX7_exportUnits 7 (some .int) "exportUnits" RX7 := C
  replace hl : lv_has ls 7 [(0, vr E x0), (1, vi x1), (2, vi x2)] := hl
  unfold f_X7_exportUnits at h
  refine m_aload_n (pc := 0) C dX7_exportUnits_0 rfl (lv_at hl 0 rfl) ?_
  obtain ⟨q1, h⟩ := ck_some h
  refine G_X7_now (pc := 1) C hM bw_2_63 q1 dX7_exportUnits_1 ?_
  refine m_iload_n (pc := 4) C dX7_exportUnits_4 rfl (lv_at hl 1 rfl) ?_
  obtain ⟨q2, h⟩ := ck_some h
  obtain ⟨a3, μ4, ca3, h⟩ := bd_some h
  refine V_X6_findLot (pc := 5) C hM ca3 rx1 q2 bw_2_149 ⟨Nat.le_of_ble_eq_true rfl, Nat.le_of_ble_eq_true rfl⟩ hl.1 rc0 ⟨Nat.le_refl _, Nat.le_refl _⟩ dX7_exportUnits_5 (fun _ H locs hM => ?_)
  refine m_astore_n (pc := 8) C dX7_exportUnits_8 rfl hl (by decide) (lvK1 0 rfl (Nat.ne_of_beq_eq_false rfl) (Nat.ne_of_beq_eq_false rfl) (lvK1 1 rfl (Nat.ne_of_beq_eq_false rfl) (Nat.ne_of_beq_eq_false rfl) (lvK2 2 rfl (Nat.ne_of_beq_eq_false rfl) rfl lvK0))) (fun ls hl => ?_)
  refine m_aload_n (pc := 9) C dX7_exportUnits_9 rfl (lv_at hl 0 rfl) ?_
  obtain ⟨q6, h⟩ := ck_some h
  refine m_ifnonnull (tgt := 16) (pc := 10) C q6 dX7_exportUnits_10 (by decide) (fun c5 => ?_) (fun c5 => ?_)
  · have h := if_t h c5
    refine m_aload_n (pc := 16) C dX7_exportUnits_16 rfl (lv_at hl 1 rfl) ?_
    refine m_aload_n (pc := 17) C dX7_exportUnits_17 rfl (lv_at hl 0 rfl) ?_
    refine m_iload_n (pc := 18) C dX7_exportUnits_18 rfl (lv_at hl 3 rfl) ?_
    obtain ⟨q7, h⟩ := ck_some h
    obtain ⟨a8, μ9, ca8, h⟩ := bd_some h
    refine V_X7_errorOfTaking (pc := 19) C hM ca8 rx2 q7 bw_4_65 ⟨Nat.le_of_ble_eq_true rfl, Nat.le_of_ble_eq_true rfl⟩ hl.1 rc0 ⟨Nat.le_refl _, Nat.le_refl _⟩ dX7_exportUnits_19 (fun ra8 H locs hM => ?_)
    refine m_istore (pc := 22) C dX7_exportUnits_22 hl (by decide) (lvK2 0 rfl (Nat.ne_of_beq_eq_false rfl) (vr_cat _ _) (lvK1 1 rfl (Nat.ne_of_beq_eq_false rfl) (Nat.ne_of_beq_eq_false rfl) (lvK1 2 rfl (Nat.ne_of_beq_eq_false rfl) (Nat.ne_of_beq_eq_false rfl) (lvK1 3 rfl (Nat.ne_of_beq_eq_false rfl) (Nat.ne_of_beq_eq_false rfl) lvK0)))) (fun ls hl => ?_)
    refine m_iload (pc := 24) C dX7_exportUnits_24 (lv_at hl 0 rfl) ?_
    refine m_if_eq (tgt := 32) (pc := 26) C ra8 dX7_exportUnits_26 (by decide) (fun c10 => ?_) (fun c10 => ?_)
    · have h := if_t h c10
      refine m_aload_n (pc := 32) C dX7_exportUnits_32 rfl (lv_at hl 2 rfl) ?_
      obtain ⟨q11, h⟩ := ck_some h
      refine G_X7_now (pc := 33) C hM bw_2_63 q11 dX7_exportUnits_33 ?_
      obtain ⟨q12, h⟩ := ck_some h
      have gq12 := Gr_X6_exportCount hM q12
      refine G_X6_exportCount (pc := 36) C hM bw_1_192 q12 dX7_exportUnits_36 ?_
      refine m_istore (pc := 39) C dX7_exportUnits_39 hl (by decide) (lvK1 1 rfl (Nat.ne_of_beq_eq_false rfl) (Nat.ne_of_beq_eq_false rfl) (lvK1 2 rfl (Nat.ne_of_beq_eq_false rfl) (Nat.ne_of_beq_eq_false rfl) (lvK1 3 rfl (Nat.ne_of_beq_eq_false rfl) (Nat.ne_of_beq_eq_false rfl) (lvK1 4 rfl (Nat.ne_of_beq_eq_false rfl) (Nat.ne_of_beq_eq_false rfl) lvK0)))) (fun ls hl => ?_)
      refine m_iload (pc := 41) C dX7_exportUnits_41 (lv_at hl 0 rfl) ?_
      refine m_bipush (pc := 43) C dX7_exportUnits_43 rfl ?_
      refine m_icmp_lt (tgt := 54) (pc := 45) C gq12 rk_30 dX7_exportUnits_45 (by decide) (fun c13 => ?_) (fun c13 => ?_)
      · have h := if_t h c13
        refine m_aload_n (pc := 54) C dX7_exportUnits_54 rfl (lv_at hl 2 rfl) ?_
        obtain ⟨q14, h⟩ := ck_some h
        refine G_X7_now (pc := 55) C hM bw_2_63 q14 dX7_exportUnits_55 ?_
        obtain ⟨q15, h⟩ := ck_some h
        refine G_X6_exports (pc := 58) C hM bw_1_186 q15 dX7_exportUnits_58 ?_
        refine m_iload (pc := 61) C dX7_exportUnits_61 (lv_at hl 0 rfl) ?_
        obtain ⟨q16, h⟩ := ck_some h
        refine m_aald (pc := 63) C hM q16.1 (by decide) (by decide) q16.2.1 q16.2.2 dX7_exportUnits_63 ?_
        refine m_astore (pc := 64) C dX7_exportUnits_64 hl (by decide) (lvK2 0 rfl (Nat.ne_of_beq_eq_false rfl) rfl (lvK1 1 rfl (Nat.ne_of_beq_eq_false rfl) (Nat.ne_of_beq_eq_false rfl) (lvK1 2 rfl (Nat.ne_of_beq_eq_false rfl) (Nat.ne_of_beq_eq_false rfl) (lvK1 3 rfl (Nat.ne_of_beq_eq_false rfl) (Nat.ne_of_beq_eq_false rfl) (lvK1 4 rfl (Nat.ne_of_beq_eq_false rfl) (Nat.ne_of_beq_eq_false rfl) lvK0))))) (fun ls hl => ?_)
        refine m_aload (pc := 66) C dX7_exportUnits_66 (lv_at hl 0 rfl) ?_
        refine m_iload_n (pc := 68) C dX7_exportUnits_68 rfl (lv_at hl 4 rfl) ?_
        obtain ⟨q17, h⟩ := ck_some h
        obtain ⟨μ18, eμ18, h⟩ := nm_some h
        refine P_X0_lot (pc := 69) C hM bw_1_157 q17 rx1 eμ18 dX7_exportUnits_69 (fun H locs hM => ?_)
        refine m_aload (pc := 72) C dX7_exportUnits_72 (lv_at hl 0 rfl) ?_
        refine m_iload_n (pc := 74) C dX7_exportUnits_74 rfl (lv_at hl 5 rfl) ?_
        obtain ⟨q19, h⟩ := ck_some h
        obtain ⟨μ20, eμ20, h⟩ := nm_some h
        refine P_X0_units (pc := 75) C hM bw_1_160 q19 rx2 eμ20 dX7_exportUnits_75 (fun H locs hM => ?_)
        refine m_aload (pc := 78) C dX7_exportUnits_78 (lv_at hl 0 rfl) ?_
        refine m_aload_n (pc := 80) C dX7_exportUnits_80 rfl (lv_at hl 2 rfl) ?_
        refine m_iconst (pc := 81) C dX7_exportUnits_81 ?_
        refine m_iload_n (pc := 82) C dX7_exportUnits_82 rfl (lv_at hl 5 rfl) ?_
        obtain ⟨q21, h⟩ := ck_some h
        obtain ⟨a22, μ23, ca22, h⟩ := bd_some h
        refine V_X2_dutyOfNext (pc := 83) C hM ca22 rk_0 rx2 q21 bw_4_70 ⟨Nat.le_of_ble_eq_true rfl, Nat.le_of_ble_eq_true rfl⟩ hl.1 (rcR rc0) ⟨Nat.le_refl _, Nat.le_refl _⟩ dX7_exportUnits_83 (fun ra22 H locs hM => ?_)
        obtain ⟨q24, h⟩ := ck_some h
        obtain ⟨μ25, eμ25, h⟩ := nm_some h
        refine P_X0_duty (pc := 86) C hM bw_1_163 q24 ra22 eμ25 dX7_exportUnits_86 (fun H locs hM => ?_)
        refine m_aload (pc := 89) C dX7_exportUnits_89 (lv_at hl 0 rfl) ?_
        refine m_aload_n (pc := 91) C dX7_exportUnits_91 rfl (lv_at hl 3 rfl) ?_
        obtain ⟨q26, h⟩ := ck_some h
        refine G_X7_now (pc := 92) C hM bw_2_63 q26 dX7_exportUnits_92 ?_
        obtain ⟨q27, h⟩ := ck_some h
        have gq27 := Gr_X6_day hM q27
        refine G_X6_day (pc := 95) C hM bw_1_196 q27 dX7_exportUnits_95 ?_
        refine m_aload_n (pc := 98) C dX7_exportUnits_98 rfl (lv_at hl 3 rfl) ?_
        obtain ⟨q28, h⟩ := ck_some h
        refine G_X7_now (pc := 99) C hM bw_2_63 q28 dX7_exportUnits_99 ?_
        obtain ⟨q29, h⟩ := ck_some h
        refine G_X6_settings (pc := 102) C hM bw_1_181 q29 dX7_exportUnits_102 ?_
        obtain ⟨q30, h⟩ := ck_some h
        have gq30 := Gr_X5_proof hM q30
        refine G_X5_proof (pc := 105) C hM bw_1_45 q30 dX7_exportUnits_105 ?_
        obtain ⟨a31, ea31, h⟩ := nm_some h
        have ra31 : R32 a31 := by rw [ea31]; exact w32_R _
        refine m_iadd (pc := 108) C dX7_exportUnits_108 ea31 ?_
        obtain ⟨q32, h⟩ := ck_some h
        obtain ⟨μ33, eμ33, h⟩ := nm_some h
        refine P_X0_deadline (pc := 109) C hM bw_1_165 q32 ra31 eμ33 dX7_exportUnits_109 (fun H locs hM => ?_)
        refine m_aload (pc := 112) C dX7_exportUnits_112 (lv_at hl 0 rfl) ?_
        refine m_iconst (pc := 114) C dX7_exportUnits_114 ?_
        obtain ⟨q34, h⟩ := ck_some h
        obtain ⟨μ35, eμ35, h⟩ := nm_some h
        refine P_X0_state (pc := 115) C hM bw_1_168 q34 rk_0 eμ35 dX7_exportUnits_115 (fun H locs hM => ?_)
        refine m_aload_n (pc := 118) C dX7_exportUnits_118 rfl (lv_at hl 2 rfl) ?_
        refine m_dup (pc := 119) C (vr_cat _ _) dX7_exportUnits_119 ?_
        obtain ⟨q36, h⟩ := ck_some h
        have gq36 := Gr_X2_stored hM q36
        refine G_X2_stored (pc := 120) C hM bw_1_116 q36 dX7_exportUnits_120 ?_
        refine m_iload_n (pc := 123) C dX7_exportUnits_123 rfl (lv_at hl 5 rfl) ?_
        obtain ⟨a37, ea37, h⟩ := nm_some h
        have ra37 : R32 a37 := by rw [ea37]; exact w32_R _
        refine m_isub (pc := 124) C dX7_exportUnits_124 ea37 ?_
        obtain ⟨q38, h⟩ := ck_some h
        obtain ⟨μ39, eμ39, h⟩ := nm_some h
        refine P_X2_stored (pc := 125) C hM bw_1_116 q38 ra37 eμ39 dX7_exportUnits_125 (fun H locs hM => ?_)
        refine m_aload_n (pc := 128) C dX7_exportUnits_128 rfl (lv_at hl 3 rfl) ?_
        obtain ⟨q40, h⟩ := ck_some h
        refine G_X7_now (pc := 129) C hM bw_2_63 q40 dX7_exportUnits_129 ?_
        refine m_iload (pc := 132) C dX7_exportUnits_132 (lv_at hl 1 rfl) ?_
        refine m_iconst (pc := 134) C dX7_exportUnits_134 ?_
        obtain ⟨a41, ea41, h⟩ := nm_some h
        have ra41 : R32 a41 := by rw [ea41]; exact w32_R _
        refine m_iadd (pc := 135) C dX7_exportUnits_135 ea41 ?_
        obtain ⟨q42, h⟩ := ck_some h
        obtain ⟨μ43, eμ43, h⟩ := nm_some h
        refine P_X6_exportCount (pc := 136) C hM bw_1_192 q42 ra41 eμ43 dX7_exportUnits_136 (fun H locs hM => ?_)
        refine m_iload (pc := 139) C dX7_exportUnits_139 (lv_at hl 1 rfl) ?_
        cases h
        exact m_iret (pc := 141) C hM gq12 dX7_exportUnits_141
      · have h := if_f h c13
        refine m_aload_n (pc := 48) C dX7_exportUnits_48 rfl (lv_at hl 2 rfl) ?_
        refine m_iconst (pc := 49) C dX7_exportUnits_49 ?_
        obtain ⟨q44, h⟩ := ck_some h
        obtain ⟨a45, μ46, ca45, h⟩ := bd_some h
        refine V_X7_refuse (pc := 50) C hM ca45 rk_5 q44 bw_2_157 ⟨Nat.le_of_ble_eq_true rfl, Nat.le_of_ble_eq_true rfl⟩ hl.1 rc0 ⟨Nat.le_refl _, Nat.le_refl _⟩ dX7_exportUnits_50 (fun ra45 H locs hM => ?_)
        cases h
        exact m_iret (pc := 53) C hM ra45 dX7_exportUnits_53
    · have h := if_f h c10
      refine m_iload (pc := 29) C dX7_exportUnits_29 (lv_at hl 0 rfl) ?_
      cases h
      exact m_iret (pc := 31) C hM ra8 dX7_exportUnits_31
  · have h := if_f h c5
    refine m_ldc (n := -100000001) (pc := 13) C bw_2_92 rfl dX7_exportUnits_13 ?_
    cases h
    exact m_iret (pc := 15) C hM rk_m100000001 dX7_exportUnits_15
theorem hd_X7_exportUnits : yX7_exportUnits.cls ≠ "java/lang/invoke/MethodHandle" ∧ yX7_exportUnits.cls ≠ "java/lang/invoke/VarHandle" ∧ (parseMethodDescriptor yX7_exportUnits.desc).map (fun d => d.parameters.length) = some 2 := by decide +kernel

theorem V_X7_exportUnits {p : Program} {l : Launch} {e : Env} {R : Room} {s : State} {m : MethodId} {args : Array Value} {below : List Frame} {meth : Method} {c : Code} {H : Heap} {locs : List Loc} {cells slots : Nat} {Q : State → Prop} {cc : ByteArray} {pc nL : Nat} {ls : Array Slot} {rest : List Value} {ret : Option FieldType} {nmm own : String} {E : gE} {μ μ1 : Mm} {index : Nat} (C : gCx p s m args meth c cc nL ret nmm own) (hM : MS E μ s H locs) {N : Nat} {x0 x1 x2 v : Int} (hc : f_X7_exportUnits N x0 x1 x2 μ = some (v, μ1)) (rx1 : R32 x1) (rx2 : R32 x2) (hck : μ x0 (-2) = 9) (h1 : Cond.methodLink own index yX7_exportUnits ∈ bigL) (hR : 3 ≤ R.frames ∧ 70 ≤ R.locals) (hl : ls.size = nL) (hcat : RC rest 8) (hf : cells + 0 ≤ R.cells ∧ slots + 0 ≤ R.slots) (hdg : decode cc pc = .ok (.invokevirtual index, 3)) (kk : (R32 v) → ∀ (H1 : Heap) (locs1 : List Loc), MS E μ1 s H1 locs1 → W p l e R s m args below meth c H1 locs1 (cells + 0) (slots + 0) Q (F0 m (pc + 3) ls (vi v :: rest))) : W p l e R s m args below meth c H locs cells slots Q (F0 m pc ls (vi x2 :: vi x1 :: vr E x0 :: rest)) := g_callV C KF_X7 hM (c_X7_exportUnits l E N x0 x1 x2 μ μ1 v hc rx1 rx2) hck (gV h1 bw_4_91 bs_10 bw_1_1 bw_4_92) ⟨rfl, hd_X7_exportUnits⟩ hR rfl hl rfl hcat hf hdg kk
end G05
