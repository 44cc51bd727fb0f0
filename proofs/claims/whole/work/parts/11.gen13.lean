section G13
variable {p : Program} {l : Launch} {e : Env} {R : Room} {s : State} {m : MethodId} {args : Array Value} {below : List Frame} {meth : Method} {c : Code} {E : gE}
/-! X8_checkExport -/
def f_X8_checkExport (N : Nat) (x0 x1 x2 : Int) (μ : Mm) : Rs :=
  ck (μ x0 (-2) = 10) <|
  bd (f_X8_checkUnits N x0 x1 x2 μ) fun a2 μ3 =>
  if 0 ≤ a2 then
    (ck (μ3 x0 (-2) = 10) <|
     ck (μ3 (μ3 x0 0) (-2) = 24 ∧ (0 : Int) ≤ 3 ∧ 3 < μ3 (μ3 x0 0) (-1)) <|
     if ¬ (μ3 (μ3 x0 0) 3) = 30 then
       (some (0, μ3))
     else
     ck (μ3 x0 (-2) = 10) <|
     bd (f_X8_refuse N x0 5 μ3) fun a9 μ10 =>
     some (a9, μ10))
  else
  some (a2, μ3)
set_option maxHeartbeats 4000000 in
set_option maxRecDepth 100000 in
theorem c_X8_checkExport (l : Launch) (E : gE) (N : Nat) (x0 x1 x2 : Int) (μ μ' : Mm) (r : Int) (h : f_X8_checkExport N x0 x1 x2 μ = some (r, μ')) (rx1 : R32 x1) (rx2 : R32 x2) : gMet l E yX8_checkExport cX8_checkExport 4 (some .int) 3 68 [vr E x0, vi x1, vi x2] (some (vi r)) (R32 r) μ μ' 0 0 := by
  refine g_ofW [1, 1, 1] (by first | (simp only [List.map_cons, List.map_nil, vr_cat]; done) | (simp only [List.map_cons, List.map_nil, vr_cat]; rfl)) (by decide) (by decide) (fun p e s m below meth c ls C hM hl => ?_)
  replace C : gCx p s m _ meth c cX8_checkExport 4 (some .int) "checkExport" RX8 := C
  replace hl : lv_has ls 4 [(0, vr E x0), (1, vi x1), (2, vi x2)] := hl
  unfold f_X8_checkExport at h
  refine m_aload_n (pc := 0) C dX8_checkExport_0 rfl (lv_at hl 0 rfl) ?_
  refine m_iload_n (pc := 1) C dX8_checkExport_1 rfl (lv_at hl 1 rfl) ?_
  refine m_iload_n (pc := 2) C dX8_checkExport_2 rfl (lv_at hl 2 rfl) ?_
  obtain ⟨q1, h⟩ := ck_some h
  obtain ⟨a2, μ3, ca2, h⟩ := bd_some h
  refine V_X8_checkUnits (pc := 3) C hM ca2 rx1 rx2 q1 bw_5_167 ⟨Nat.le_of_ble_eq_true rfl, Nat.le_of_ble_eq_true rfl⟩ hl.1 rc0 ⟨Nat.le_refl _, Nat.le_refl _⟩ dX8_checkExport_3 (fun ra2 H locs hM => ?_)
  refine m_istore_n (pc := 6) C dX8_checkExport_6 rfl hl (by decide) (lvK1 0 rfl (Nat.ne_of_beq_eq_false rfl) (Nat.ne_of_beq_eq_false rfl) lvK0) (fun ls hl => ?_)
  refine m_iload_n (pc := 7) C dX8_checkExport_7 rfl (lv_at hl 0 rfl) ?_
  refine m_if_ge (tgt := 15) (pc := 8) C ra2 dX8_checkExport_8 (by decide) (fun c4 => ?_) (fun c4 => ?_)
  · have h := if_t h c4
    refine m_aload_n (pc := 15) C dX8_checkExport_15 rfl (lv_at hl 1 rfl) ?_
    obtain ⟨q5, h⟩ := ck_some h
    refine G_X8_now (pc := 16) C hM bw_4_227 q5 dX8_checkExport_16 ?_
    refine m_iconst (pc := 19) C dX8_checkExport_19 ?_
    obtain ⟨q6, h⟩ := ck_some h
    have gq6 := Ar_lald hM q6.1 q6.2.1 q6.2.2
    refine m_lald (pc := 20) C hM q6.1 q6.2.1 q6.2.2 dX8_checkExport_20 ?_
    refine m_ldc2 (n := 30) (pc := 21) C bw_4_224 rfl dX8_checkExport_21 ?_
    refine m_lcmp_ne (tgt := 36) (pc := 24) C gq6 rl_30 dX8_checkExport_24 dX8_checkExport_25 (by decide) (fun c7 => ?_) (fun c7 => ?_)
    · have h := if_t h c7
      refine m_iconst (pc := 36) C dX8_checkExport_36 ?_
      cases h
      exact m_iret (pc := 37) C hM rk_0 dX8_checkExport_37
    · have h := if_f h c7
      refine m_aload_n (pc := 28) C dX8_checkExport_28 rfl (lv_at hl 1 rfl) ?_
      refine m_iconst (pc := 29) C dX8_checkExport_29 ?_
      obtain ⟨q8, h⟩ := ck_some h
      obtain ⟨a9, μ10, ca9, h⟩ := bd_some h
      refine V_X8_refuse (pc := 30) C hM ca9 rk_5 q8 bw_5_121 ⟨Nat.le_of_ble_eq_true rfl, Nat.le_of_ble_eq_true rfl⟩ hl.1 rc0 ⟨Nat.le_refl _, Nat.le_refl _⟩ dX8_checkExport_30 (fun ra9 H locs hM => ?_)
      refine m_goto (tgt := 37) (pc := 33) C dX8_checkExport_33 (by decide) ?_
      cases h
      exact m_iret (pc := 37) C hM ra9 dX8_checkExport_37
  · have h := if_f h c4
    refine m_iload_n (pc := 11) C dX8_checkExport_11 rfl (lv_at hl 0 rfl) ?_
    refine m_goto (tgt := 37) (pc := 12) C dX8_checkExport_12 (by decide) ?_
    cases h
    exact m_iret (pc := 37) C hM ra2 dX8_checkExport_37
theorem hd_X8_checkExport : yX8_checkExport.cls ≠ "java/lang/invoke/MethodHandle" ∧ yX8_checkExport.cls ≠ "java/lang/invoke/VarHandle" ∧ (parseMethodDescriptor yX8_checkExport.desc).map (fun d => d.parameters.length) = some 2 := by decide +kernel

theorem V_X8_checkExport {p : Program} {l : Launch} {e : Env} {R : Room} {s : State} {m : MethodId} {args : Array Value} {below : List Frame} {meth : Method} {c : Code} {H : Heap} {locs : List Loc} {cells slots : Nat} {Q : State → Prop} {cc : ByteArray} {pc nL : Nat} {ls : Array Slot} {rest : List Value} {ret : Option FieldType} {nmm own : String} {E : gE} {μ μ1 : Mm} {index : Nat} (C : gCx p s m args meth c cc nL ret nmm own) (hM : MS E μ s H locs) {N : Nat} {x0 x1 x2 v : Int} (hc : f_X8_checkExport N x0 x1 x2 μ = some (v, μ1)) (rx1 : R32 x1) (rx2 : R32 x2) (hck : μ x0 (-2) = 10) (h1 : Cond.methodLink own index yX8_checkExport ∈ bigL) (hR : 4 ≤ R.frames ∧ 91 ≤ R.locals) (hl : ls.size = nL) (hcat : RC rest 8) (hf : cells + 0 ≤ R.cells ∧ slots + 0 ≤ R.slots) (hdg : decode cc pc = .ok (.invokevirtual index, 3)) (kk : (R32 v) → ∀ (H1 : Heap) (locs1 : List Loc), MS E μ1 s H1 locs1 → W p l e R s m args below meth c H1 locs1 (cells + 0) (slots + 0) Q (F0 m (pc + 3) ls (vi v :: rest))) : W p l e R s m args below meth c H locs cells slots Q (F0 m pc ls (vi x2 :: vi x1 :: vr E x0 :: rest)) := g_callV C KF_X8 hM (c_X8_checkExport l E N x0 x1 x2 μ μ1 v hc rx1 rx2) hck (gV h1 bw_5_217 bs_45 bw_1_13 bw_5_218) ⟨rfl, hd_X8_checkExport⟩ hR rfl hl rfl hcat hf hdg kk
/-! X8_exports -/
def f_X8_exports (N : Nat) (x0 x1 x2 : Int) (μ : Mm) : Rs :=
  ck (μ x0 (-2) = 10) <|
  bd (f_X8_number N x0 3 μ) fun a2 μ3 =>
  bd (f_X8_exportAt N a2 μ3) fun a4 μ5 =>
  ck (μ5 x0 (-2) = 10) <|
  ck (μ5 (μ5 x0 0) (-2) = 24 ∧ (0 : Int) ≤ a4 ∧ a4 < μ5 (μ5 x0 0) (-1)) <|
  nm (mset μ5 (μ5 x0 0) a4 x1) fun μ8 =>
  ck (μ8 x0 (-2) = 10) <|
  nm (w32 (a4 + 1)) fun a10 =>
  ck (μ8 (μ8 x0 0) (-2) = 24 ∧ (0 : Int) ≤ a10 ∧ a10 < μ8 (μ8 x0 0) (-1)) <|
  nm (mset μ8 (μ8 x0 0) a10 x2) fun μ12 =>
  ck (μ12 x0 (-2) = 10) <|
  nm (w32 (a4 + 2)) fun a14 =>
  ck (μ12 x0 (-2) = 10) <|
  bd (f_X8_dutyNow N x0 x1 x2 μ12) fun a16 μ17 =>
  ck (μ17 (μ12 x0 0) (-2) = 24 ∧ (0 : Int) ≤ a14 ∧ a14 < μ17 (μ12 x0 0) (-1)) <|
  nm (mset μ17 (μ12 x0 0) a14 a16) fun μ19 =>
  ck (μ19 x0 (-2) = 10) <|
  nm (w32 (a4 + 3)) fun a21 =>
  ck (μ19 x0 (-2) = 10) <|
  ck (μ19 (μ19 x0 0) (-2) = 24 ∧ (0 : Int) ≤ 0 ∧ 0 < μ19 (μ19 x0 0) (-1)) <|
  ck (μ19 x0 (-2) = 10) <|
  ck (μ19 (μ19 x0 0) (-2) = 24 ∧ (0 : Int) ≤ 6 ∧ 6 < μ19 (μ19 x0 0) (-1)) <|
  nm (w64 ((μ19 (μ19 x0 0) 0) + (μ19 (μ19 x0 0) 6))) fun a26 =>
  ck (μ19 (μ19 x0 0) (-2) = 24 ∧ (0 : Int) ≤ a21 ∧ a21 < μ19 (μ19 x0 0) (-1)) <|
  nm (mset μ19 (μ19 x0 0) a21 a26) fun μ28 =>
  ck (μ28 x0 (-2) = 10) <|
  nm (w32 (a4 + 4)) fun a30 =>
  ck (μ28 (μ28 x0 0) (-2) = 24 ∧ (0 : Int) ≤ a30 ∧ a30 < μ28 (μ28 x0 0) (-1)) <|
  nm (mset μ28 (μ28 x0 0) a30 0) fun μ32 =>
  ck (μ32 x0 (-2) = 10) <|
  bd (f_X8_take N x0 x1 x2 μ32) fun a34 μ35 =>
  ck (μ35 x0 (-2) = 10) <|
  ck (μ35 (μ35 x0 0) (-2) = 24 ∧ (0 : Int) ≤ 3 ∧ 3 < μ35 (μ35 x0 0) (-1)) <|
  nm (w64 ((μ35 (μ35 x0 0) 3) + 1)) fun a38 =>
  ck (μ35 (μ35 x0 0) (-2) = 24 ∧ (0 : Int) ≤ 3 ∧ 3 < μ35 (μ35 x0 0) (-1)) <|
  nm (mset μ35 (μ35 x0 0) 3 a38) fun μ40 =>
  some (a2, μ40)
set_option maxHeartbeats 4000000 in
set_option maxRecDepth 100000 in
theorem c_X8_exports (l : Launch) (E : gE) (N : Nat) (x0 x1 x2 : Int) (μ μ' : Mm) (r : Int) (h : f_X8_exports N x0 x1 x2 μ = some (r, μ')) (rx1 : R32 x1) (rx2 : R32 x2) : gMet l E yX8_exports cX8_exports 5 (some .int) 3 72 [vr E x0, vi x1, vi x2] (some (vi r)) (R32 r) μ μ' 0 0 := by
  refine g_ofW [1, 1, 1] (by first | (simp only [List.map_cons, List.map_nil, vr_cat]; done) | (simp only [List.map_cons, List.map_nil, vr_cat]; rfl)) (by decide) (by decide) (fun p e s m below meth c ls C hM hl => ?_)
  replace C : gCx p s m _ meth c cX8_exports 5 (some .int) "exports" RX8 := C
  replace hl : lv_has ls 5 [(0, vr E x0), (1, vi x1), (2, vi x2)] := hl
  unfold f_X8_exports at h
  refine m_aload_n (pc := 0) C dX8_exports_0 rfl (lv_at hl 0 rfl) ?_
  refine m_iconst (pc := 1) C dX8_exports_1 ?_
  obtain ⟨q1, h⟩ := ck_some h
  obtain ⟨a2, μ3, ca2, h⟩ := bd_some h
  refine V_X8_number (pc := 2) C hM ca2 rk_3 q1 bw_5_47 ⟨Nat.le_of_ble_eq_true rfl, Nat.le_of_ble_eq_true rfl⟩ hl.1 rc0 ⟨Nat.le_refl _, Nat.le_refl _⟩ dX8_exports_2 (fun ra2 H locs hM => ?_)
  refine m_istore_n (pc := 5) C dX8_exports_5 rfl hl (by decide) (lvK1 0 rfl (Nat.ne_of_beq_eq_false rfl) (Nat.ne_of_beq_eq_false rfl) (lvK1 1 rfl (Nat.ne_of_beq_eq_false rfl) (Nat.ne_of_beq_eq_false rfl) (lvK2 2 rfl (Nat.ne_of_beq_eq_false rfl) rfl lvK0))) (fun ls hl => ?_)
  refine m_iload_n (pc := 6) C dX8_exports_6 rfl (lv_at hl 0 rfl) ?_
  obtain ⟨a4, μ5, ca4, h⟩ := bd_some h
  refine V_X8_exportAt (pc := 7) C hM ca4 ra2 bw_5_114 ⟨Nat.le_of_ble_eq_true rfl, Nat.le_of_ble_eq_true rfl⟩ hl.1 rc0 ⟨Nat.le_refl _, Nat.le_refl _⟩ dX8_exports_7 (fun ra4 H locs hM => ?_)
  refine m_istore (pc := 10) C dX8_exports_10 hl (by decide) (lvK2 0 rfl (Nat.ne_of_beq_eq_false rfl) rfl (lvK1 1 rfl (Nat.ne_of_beq_eq_false rfl) (Nat.ne_of_beq_eq_false rfl) (lvK1 2 rfl (Nat.ne_of_beq_eq_false rfl) (Nat.ne_of_beq_eq_false rfl) (lvK1 3 rfl (Nat.ne_of_beq_eq_false rfl) (Nat.ne_of_beq_eq_false rfl) lvK0)))) (fun ls hl => ?_)
  refine m_aload_n (pc := 12) C dX8_exports_12 rfl (lv_at hl 2 rfl) ?_
  obtain ⟨q6, h⟩ := ck_some h
  refine G_X8_now (pc := 13) C hM bw_4_227 q6 dX8_exports_13 ?_
  refine m_iload (pc := 16) C dX8_exports_16 (lv_at hl 0 rfl) ?_
  refine m_iload_n (pc := 18) C dX8_exports_18 rfl (lv_at hl 3 rfl) ?_
  refine m_i2l (pc := 19) C rx1 dX8_exports_19 ?_
  obtain ⟨q7, h⟩ := ck_some h
  obtain ⟨μ8, eμ8, h⟩ := nm_some h
  refine m_last (pc := 20) C hM q7.1 q7.2.1  q7.2.2 (R32.to64 rx1) eμ8 dX8_exports_20 (fun H locs hM => ?_)
  refine m_aload_n (pc := 21) C dX8_exports_21 rfl (lv_at hl 2 rfl) ?_
  obtain ⟨q9, h⟩ := ck_some h
  refine G_X8_now (pc := 22) C hM bw_4_227 q9 dX8_exports_22 ?_
  refine m_iload (pc := 25) C dX8_exports_25 (lv_at hl 0 rfl) ?_
  refine m_iconst (pc := 27) C dX8_exports_27 ?_
  obtain ⟨a10, ea10, h⟩ := nm_some h
  have ra10 : R32 a10 := by rw [ea10]; exact w32_R _
  refine m_iadd (pc := 28) C dX8_exports_28 ea10 ?_
  refine m_iload_n (pc := 29) C dX8_exports_29 rfl (lv_at hl 4 rfl) ?_
  refine m_i2l (pc := 30) C rx2 dX8_exports_30 ?_
  obtain ⟨q11, h⟩ := ck_some h
  obtain ⟨μ12, eμ12, h⟩ := nm_some h
  refine m_last (pc := 31) C hM q11.1 q11.2.1  q11.2.2 (R32.to64 rx2) eμ12 dX8_exports_31 (fun H locs hM => ?_)
  refine m_aload_n (pc := 32) C dX8_exports_32 rfl (lv_at hl 2 rfl) ?_
  obtain ⟨q13, h⟩ := ck_some h
  refine G_X8_now (pc := 33) C hM bw_4_227 q13 dX8_exports_33 ?_
  refine m_iload (pc := 36) C dX8_exports_36 (lv_at hl 0 rfl) ?_
  refine m_iconst (pc := 38) C dX8_exports_38 ?_
  obtain ⟨a14, ea14, h⟩ := nm_some h
  have ra14 : R32 a14 := by rw [ea14]; exact w32_R _
  refine m_iadd (pc := 39) C dX8_exports_39 ea14 ?_
  refine m_aload_n (pc := 40) C dX8_exports_40 rfl (lv_at hl 2 rfl) ?_
  refine m_iload_n (pc := 41) C dX8_exports_41 rfl (lv_at hl 3 rfl) ?_
  refine m_iload_n (pc := 42) C dX8_exports_42 rfl (lv_at hl 4 rfl) ?_
  refine m_i2l (pc := 43) C rx2 dX8_exports_43 ?_
  obtain ⟨q15, h⟩ := ck_some h
  obtain ⟨a16, μ17, ca16, h⟩ := bd_some h
  refine V_X8_dutyNow (pc := 44) C hM ca16 rx1 (R32.to64 rx2) q15 bw_5_98 ⟨Nat.le_of_ble_eq_true rfl, Nat.le_of_ble_eq_true rfl⟩ hl.1 (rcI (rcR rc0)) ⟨Nat.le_refl _, Nat.le_refl _⟩ dX8_exports_44 (fun ra16 H locs hM => ?_)
  obtain ⟨q18, h⟩ := ck_some h
  obtain ⟨μ19, eμ19, h⟩ := nm_some h
  refine m_last (pc := 47) C hM q18.1 q18.2.1  q18.2.2 ra16 eμ19 dX8_exports_47 (fun H locs hM => ?_)
  refine m_aload_n (pc := 48) C dX8_exports_48 rfl (lv_at hl 2 rfl) ?_
  obtain ⟨q20, h⟩ := ck_some h
  refine G_X8_now (pc := 49) C hM bw_4_227 q20 dX8_exports_49 ?_
  refine m_iload (pc := 52) C dX8_exports_52 (lv_at hl 0 rfl) ?_
  refine m_iconst (pc := 54) C dX8_exports_54 ?_
  obtain ⟨a21, ea21, h⟩ := nm_some h
  have ra21 : R32 a21 := by rw [ea21]; exact w32_R _
  refine m_iadd (pc := 55) C dX8_exports_55 ea21 ?_
  refine m_aload_n (pc := 56) C dX8_exports_56 rfl (lv_at hl 2 rfl) ?_
  obtain ⟨q22, h⟩ := ck_some h
  refine G_X8_now (pc := 57) C hM bw_4_227 q22 dX8_exports_57 ?_
  refine m_iconst (pc := 60) C dX8_exports_60 ?_
  obtain ⟨q23, h⟩ := ck_some h
  have gq23 := Ar_lald hM q23.1 q23.2.1 q23.2.2
  refine m_lald (pc := 61) C hM q23.1 q23.2.1 q23.2.2 dX8_exports_61 ?_
  refine m_aload_n (pc := 62) C dX8_exports_62 rfl (lv_at hl 2 rfl) ?_
  obtain ⟨q24, h⟩ := ck_some h
  refine G_X8_now (pc := 63) C hM bw_4_227 q24 dX8_exports_63 ?_
  refine m_bipush (pc := 66) C dX8_exports_66 rfl ?_
  obtain ⟨q25, h⟩ := ck_some h
  have gq25 := Ar_lald hM q25.1 q25.2.1 q25.2.2
  refine m_lald (pc := 68) C hM q25.1 q25.2.1 q25.2.2 dX8_exports_68 ?_
  obtain ⟨a26, ea26, h⟩ := nm_some h
  have ra26 : R64 a26 := by rw [ea26]; exact w64_R _
  refine m_ladd (pc := 69) C dX8_exports_69 ea26 ?_
  obtain ⟨q27, h⟩ := ck_some h
  obtain ⟨μ28, eμ28, h⟩ := nm_some h
  refine m_last (pc := 70) C hM q27.1 q27.2.1  q27.2.2 ra26 eμ28 dX8_exports_70 (fun H locs hM => ?_)
  refine m_aload_n (pc := 71) C dX8_exports_71 rfl (lv_at hl 2 rfl) ?_
  obtain ⟨q29, h⟩ := ck_some h
  refine G_X8_now (pc := 72) C hM bw_4_227 q29 dX8_exports_72 ?_
  refine m_iload (pc := 75) C dX8_exports_75 (lv_at hl 0 rfl) ?_
  refine m_iconst (pc := 77) C dX8_exports_77 ?_
  obtain ⟨a30, ea30, h⟩ := nm_some h
  have ra30 : R32 a30 := by rw [ea30]; exact w32_R _
  refine m_iadd (pc := 78) C dX8_exports_78 ea30 ?_
  refine m_lconst (v := 0) (pc := 79) C dX8_exports_79 rfl ?_
  obtain ⟨q31, h⟩ := ck_some h
  obtain ⟨μ32, eμ32, h⟩ := nm_some h
  refine m_last (pc := 80) C hM q31.1 q31.2.1  q31.2.2 rl_0 eμ32 dX8_exports_80 (fun H locs hM => ?_)
  refine m_aload_n (pc := 81) C dX8_exports_81 rfl (lv_at hl 2 rfl) ?_
  refine m_iload_n (pc := 82) C dX8_exports_82 rfl (lv_at hl 3 rfl) ?_
  refine m_iload_n (pc := 83) C dX8_exports_83 rfl (lv_at hl 4 rfl) ?_
  refine m_i2l (pc := 84) C rx2 dX8_exports_84 ?_
  obtain ⟨q33, h⟩ := ck_some h
  obtain ⟨a34, μ35, ca34, h⟩ := bd_some h
  refine V_X8_take (pc := 85) C hM ca34 rx1 (R32.to64 rx2) q33 bw_5_183 ⟨Nat.le_of_ble_eq_true rfl, Nat.le_of_ble_eq_true rfl⟩ hl.1 rc0 ⟨Nat.le_refl _, Nat.le_refl _⟩ dX8_exports_85 (fun _ H locs hM => ?_)
  refine m_aload_n (pc := 88) C dX8_exports_88 rfl (lv_at hl 2 rfl) ?_
  obtain ⟨q36, h⟩ := ck_some h
  refine G_X8_now (pc := 89) C hM bw_4_227 q36 dX8_exports_89 ?_
  refine m_iconst (pc := 92) C dX8_exports_92 ?_
  refine m_dup2 (pc := 93) C rfl (vr_cat _ _) dX8_exports_93 ?_
  obtain ⟨q37, h⟩ := ck_some h
  have gq37 := Ar_lald hM q37.1 q37.2.1 q37.2.2
  refine m_lald (pc := 94) C hM q37.1 q37.2.1 q37.2.2 dX8_exports_94 ?_
  refine m_lconst (v := 1) (pc := 95) C dX8_exports_95 rfl ?_
  obtain ⟨a38, ea38, h⟩ := nm_some h
  have ra38 : R64 a38 := by rw [ea38]; exact w64_R _
  refine m_ladd (pc := 96) C dX8_exports_96 ea38 ?_
  obtain ⟨q39, h⟩ := ck_some h
  obtain ⟨μ40, eμ40, h⟩ := nm_some h
  refine m_last (pc := 97) C hM q39.1 q39.2.1  q39.2.2 ra38 eμ40 dX8_exports_97 (fun H locs hM => ?_)
  refine m_iload_n (pc := 98) C dX8_exports_98 rfl (lv_at hl 1 rfl) ?_
  cases h
  exact m_iret (pc := 99) C hM ra2 dX8_exports_99
theorem hd_X8_exports : yX8_exports.cls ≠ "java/lang/invoke/MethodHandle" ∧ yX8_exports.cls ≠ "java/lang/invoke/VarHandle" ∧ (parseMethodDescriptor yX8_exports.desc).map (fun d => d.parameters.length) = some 2 := by decide +kernel

theorem V_X8_exports {p : Program} {l : Launch} {e : Env} {R : Room} {s : State} {m : MethodId} {args : Array Value} {below : List Frame} {meth : Method} {c : Code} {H : Heap} {locs : List Loc} {cells slots : Nat} {Q : State → Prop} {cc : ByteArray} {pc nL : Nat} {ls : Array Slot} {rest : List Value} {ret : Option FieldType} {nmm own : String} {E : gE} {μ μ1 : Mm} {index : Nat} (C : gCx p s m args meth c cc nL ret nmm own) (hM : MS E μ s H locs) {N : Nat} {x0 x1 x2 v : Int} (hc : f_X8_exports N x0 x1 x2 μ = some (v, μ1)) (rx1 : R32 x1) (rx2 : R32 x2) (hck : μ x0 (-2) = 10) (h1 : Cond.methodLink own index yX8_exports ∈ bigL) (hR : 4 ≤ R.frames ∧ 96 ≤ R.locals) (hl : ls.size = nL) (hcat : RC rest 8) (hf : cells + 0 ≤ R.cells ∧ slots + 0 ≤ R.slots) (hdg : decode cc pc = .ok (.invokevirtual index, 3)) (kk : (R32 v) → ∀ (H1 : Heap) (locs1 : List Loc), MS E μ1 s H1 locs1 → W p l e R s m args below meth c H1 locs1 (cells + 0) (slots + 0) Q (F0 m (pc + 3) ls (vi v :: rest))) : W p l e R s m args below meth c H locs cells slots Q (F0 m pc ls (vi x2 :: vi x1 :: vr E x0 :: rest)) := g_callV C KF_X8 hM (c_X8_exports l E N x0 x1 x2 μ μ1 v hc rx1 rx2) hck (gV h1 bw_5_221 bs_46 bw_1_13 bw_5_222) ⟨rfl, hd_X8_exports⟩ hR rfl hl rfl hcat hf hdg kk
/-! X8_checkProve -/
def f_X8_checkProve (N : Nat) (x0 x1 : Int) (μ : Mm) : Rs :=
  ck (μ x0 (-2) = 10) <|
  bd (f_X8_noExport N x0 x1 μ) fun a2 μ3 =>
  if a2 = 0 then
    (ck (μ3 x0 (-2) = 10) <|
     bd (f_X8_waits N x0 x1 μ3) fun a6 μ7 =>
     if a6 = 0 then
       (ck (μ7 x0 (-2) = 10) <|
        bd (f_X8_refuse N x0 6 μ7) fun a10 μ11 =>
        some (a10, μ11))
     else
     some (0, μ7))
  else
  some ((-100000001), μ3)
set_option maxHeartbeats 4000000 in
set_option maxRecDepth 100000 in
theorem c_X8_checkProve (l : Launch) (E : gE) (N : Nat) (x0 x1 : Int) (μ μ' : Mm) (r : Int) (h : f_X8_checkProve N x0 x1 μ = some (r, μ')) (rx1 : R32 x1) : gMet l E yX8_checkProve cX8_checkProve 2 (some .int) 2 46 [vr E x0, vi x1] (some (vi r)) (R32 r) μ μ' 0 0 := by
  refine g_ofW [1, 1] (by first | (simp only [List.map_cons, List.map_nil, vr_cat]; done) | (simp only [List.map_cons, List.map_nil, vr_cat]; rfl)) (by decide) (by decide) (fun p e s m below meth c ls C hM hl => ?_)
  replace C : gCx p s m _ meth c cX8_checkProve 2 (some .int) "checkProve" RX8 := C
  replace hl : lv_has ls 2 [(0, vr E x0), (1, vi x1)] := hl
  unfold f_X8_checkProve at h
  refine m_aload_n (pc := 0) C dX8_checkProve_0 rfl (lv_at hl 0 rfl) ?_
  refine m_iload_n (pc := 1) C dX8_checkProve_1 rfl (lv_at hl 1 rfl) ?_
  obtain ⟨q1, h⟩ := ck_some h
  obtain ⟨a2, μ3, ca2, h⟩ := bd_some h
  refine V_X8_noExport (pc := 2) C hM ca2 rx1 q1 bw_5_231 ⟨Nat.le_of_ble_eq_true rfl, Nat.le_of_ble_eq_true rfl⟩ hl.1 rc0 ⟨Nat.le_refl _, Nat.le_refl _⟩ dX8_checkProve_2 (fun ra2 H locs hM => ?_)
  refine m_if_eq (tgt := 13) (pc := 5) C ra2 dX8_checkProve_5 (by decide) (fun c4 => ?_) (fun c4 => ?_)
  · have h := if_t h c4
    refine m_aload_n (pc := 13) C dX8_checkProve_13 rfl (lv_at hl 0 rfl) ?_
    refine m_iload_n (pc := 14) C dX8_checkProve_14 rfl (lv_at hl 1 rfl) ?_
    obtain ⟨q5, h⟩ := ck_some h
    obtain ⟨a6, μ7, ca6, h⟩ := bd_some h
    refine V_X8_waits (pc := 15) C hM ca6 rx1 q5 bw_5_110 ⟨Nat.le_of_ble_eq_true rfl, Nat.le_of_ble_eq_true rfl⟩ hl.1 rc0 ⟨Nat.le_refl _, Nat.le_refl _⟩ dX8_checkProve_15 (fun ra6 H locs hM => ?_)
    refine m_if_eq (tgt := 25) (pc := 18) C ra6 dX8_checkProve_18 (by decide) (fun c8 => ?_) (fun c8 => ?_)
    · have h := if_t h c8
      refine m_aload_n (pc := 25) C dX8_checkProve_25 rfl (lv_at hl 0 rfl) ?_
      refine m_bipush (pc := 26) C dX8_checkProve_26 rfl ?_
      obtain ⟨q9, h⟩ := ck_some h
      obtain ⟨a10, μ11, ca10, h⟩ := bd_some h
      refine V_X8_refuse (pc := 28) C hM ca10 rk_6 q9 bw_5_121 ⟨Nat.le_of_ble_eq_true rfl, Nat.le_of_ble_eq_true rfl⟩ hl.1 rc0 ⟨Nat.le_refl _, Nat.le_refl _⟩ dX8_checkProve_28 (fun ra10 H locs hM => ?_)
      cases h
      exact m_iret (pc := 31) C hM ra10 dX8_checkProve_31
    · have h := if_f h c8
      refine m_iconst (pc := 21) C dX8_checkProve_21 ?_
      refine m_goto (tgt := 31) (pc := 22) C dX8_checkProve_22 (by decide) ?_
      cases h
      exact m_iret (pc := 31) C hM rk_0 dX8_checkProve_31
  · have h := if_f h c4
    refine m_ldc (n := -100000001) (pc := 8) C bw_5_46 rfl dX8_checkProve_8 ?_
    refine m_goto (tgt := 31) (pc := 10) C dX8_checkProve_10 (by decide) ?_
    cases h
    exact m_iret (pc := 31) C hM rk_m100000001 dX8_checkProve_31
theorem hd_X8_checkProve : yX8_checkProve.cls ≠ "java/lang/invoke/MethodHandle" ∧ yX8_checkProve.cls ≠ "java/lang/invoke/VarHandle" ∧ (parseMethodDescriptor yX8_checkProve.desc).map (fun d => d.parameters.length) = some 1 := by decide +kernel

theorem V_X8_checkProve {p : Program} {l : Launch} {e : Env} {R : Room} {s : State} {m : MethodId} {args : Array Value} {below : List Frame} {meth : Method} {c : Code} {H : Heap} {locs : List Loc} {cells slots : Nat} {Q : State → Prop} {cc : ByteArray} {pc nL : Nat} {ls : Array Slot} {rest : List Value} {ret : Option FieldType} {nmm own : String} {E : gE} {μ μ1 : Mm} {index : Nat} (C : gCx p s m args meth c cc nL ret nmm own) (hM : MS E μ s H locs) {N : Nat} {x0 x1 v : Int} (hc : f_X8_checkProve N x0 x1 μ = some (v, μ1)) (rx1 : R32 x1) (hck : μ x0 (-2) = 10) (h1 : Cond.methodLink own index yX8_checkProve ∈ bigL) (hR : 3 ≤ R.frames ∧ 67 ≤ R.locals) (hl : ls.size = nL) (hcat : RC rest 8) (hf : cells + 0 ≤ R.cells ∧ slots + 0 ≤ R.slots) (hdg : decode cc pc = .ok (.invokevirtual index, 3)) (kk : (R32 v) → ∀ (H1 : Heap) (locs1 : List Loc), MS E μ1 s H1 locs1 → W p l e R s m args below meth c H1 locs1 (cells + 0) (slots + 0) Q (F0 m (pc + 3) ls (vi v :: rest))) : W p l e R s m args below meth c H locs cells slots Q (F0 m pc ls (vi x1 :: vr E x0 :: rest)) := g_callV C KF_X8 hM (c_X8_checkProve l E N x0 x1 μ μ1 v hc rx1) hck (gV h1 bw_5_229 bs_47 bw_1_13 bw_5_230) ⟨rfl, hd_X8_checkProve⟩ hR rfl hl rfl hcat hf hdg kk
/-! X8_proves -/
def f_X8_proves (N : Nat) (x0 x1 : Int) (μ : Mm) : Rs :=
  ck (μ x0 (-2) = 10) <|
  bd (f_X8_exportAt N x1 μ) fun a2 μ3 =>
  nm (w32 (a2 + 4)) fun a4 =>
  ck (μ3 (μ x0 0) (-2) = 24 ∧ (0 : Int) ≤ a4 ∧ a4 < μ3 (μ x0 0) (-1)) <|
  nm (mset μ3 (μ x0 0) a4 1) fun μ6 =>
  ck (μ6 x0 (-2) = 10) <|
  ck (μ6 x0 (-2) = 10) <|
  bd (f_X8_exportAt N x1 μ6) fun a9 μ10 =>
  ck (μ10 (μ6 x0 0) (-2) = 24 ∧ (0 : Int) ≤ a9 ∧ a9 < μ10 (μ6 x0 0) (-1)) <|
  nm (w32 (μ10 (μ6 x0 0) a9)) fun a12 =>
  bd (f_X8_lotAt N a12 μ10) fun a13 μ14 =>
  nm (w32 (a13 + 9)) fun a15 =>
  ck (μ14 (μ6 x0 0) (-2) = 24 ∧ (0 : Int) ≤ a15 ∧ a15 < μ14 (μ6 x0 0) (-1)) <|
  ck (μ14 x0 (-2) = 10) <|
  bd (f_X8_exportAt N x1 μ14) fun a18 μ19 =>
  nm (w32 (a18 + 2)) fun a20 =>
  ck (μ19 (μ14 x0 0) (-2) = 24 ∧ (0 : Int) ≤ a20 ∧ a20 < μ19 (μ14 x0 0) (-1)) <|
  nm (w64 ((μ14 (μ6 x0 0) a15) + (μ19 (μ14 x0 0) a20))) fun a22 =>
  ck (μ19 (μ6 x0 0) (-2) = 24 ∧ (0 : Int) ≤ a15 ∧ a15 < μ19 (μ6 x0 0) (-1)) <|
  nm (mset μ19 (μ6 x0 0) a15 a22) fun μ24 =>
  bd (f_X8_exportAt N x1 μ24) fun a25 μ26 =>
  nm (w32 (a25 + 2)) fun a27 =>
  ck (μ26 x0 (-2) = 10) <|
  bd (f_X8_number N x0 a27 μ26) fun a29 μ30 =>
  some (a29, μ30)
set_option maxHeartbeats 4000000 in
set_option maxRecDepth 100000 in
theorem c_X8_proves (l : Launch) (E : gE) (N : Nat) (x0 x1 : Int) (μ μ' : Mm) (r : Int) (h : f_X8_proves N x0 x1 μ = some (r, μ')) (rx1 : R32 x1) : gMet l E yX8_proves cX8_proves 2 (some .int) 1 21 [vr E x0, vi x1] (some (vi r)) (R32 r) μ μ' 0 0 := by
  refine g_ofW [1, 1] (by first | (simp only [List.map_cons, List.map_nil, vr_cat]; done) | (simp only [List.map_cons, List.map_nil, vr_cat]; rfl)) (by decide) (by decide) (fun p e s m below meth c ls C hM hl => ?_)
  replace C : gCx p s m _ meth c cX8_proves 2 (some .int) "proves" RX8 := C
  replace hl : lv_has ls 2 [(0, vr E x0), (1, vi x1)] := hl
  unfold f_X8_proves at h
  refine m_aload_n (pc := 0) C dX8_proves_0 rfl (lv_at hl 0 rfl) ?_
  obtain ⟨q1, h⟩ := ck_some h
  refine G_X8_now (pc := 1) C hM bw_4_227 q1 dX8_proves_1 ?_
  refine m_iload_n (pc := 4) C dX8_proves_4 rfl (lv_at hl 1 rfl) ?_
  obtain ⟨a2, μ3, ca2, h⟩ := bd_some h
  refine V_X8_exportAt (pc := 5) C hM ca2 rx1 bw_5_114 ⟨Nat.le_of_ble_eq_true rfl, Nat.le_of_ble_eq_true rfl⟩ hl.1 (rcR rc0) ⟨Nat.le_refl _, Nat.le_refl _⟩ dX8_proves_5 (fun ra2 H locs hM => ?_)
  refine m_iconst (pc := 8) C dX8_proves_8 ?_
  obtain ⟨a4, ea4, h⟩ := nm_some h
  have ra4 : R32 a4 := by rw [ea4]; exact w32_R _
  refine m_iadd (pc := 9) C dX8_proves_9 ea4 ?_
  refine m_lconst (v := 1) (pc := 10) C dX8_proves_10 rfl ?_
  obtain ⟨q5, h⟩ := ck_some h
  obtain ⟨μ6, eμ6, h⟩ := nm_some h
  refine m_last (pc := 11) C hM q5.1 q5.2.1  q5.2.2 rl_1 eμ6 dX8_proves_11 (fun H locs hM => ?_)
  refine m_aload_n (pc := 12) C dX8_proves_12 rfl (lv_at hl 0 rfl) ?_
  obtain ⟨q7, h⟩ := ck_some h
  refine G_X8_now (pc := 13) C hM bw_4_227 q7 dX8_proves_13 ?_
  refine m_aload_n (pc := 16) C dX8_proves_16 rfl (lv_at hl 0 rfl) ?_
  obtain ⟨q8, h⟩ := ck_some h
  refine G_X8_now (pc := 17) C hM bw_4_227 q8 dX8_proves_17 ?_
  refine m_iload_n (pc := 20) C dX8_proves_20 rfl (lv_at hl 1 rfl) ?_
  obtain ⟨a9, μ10, ca9, h⟩ := bd_some h
  refine V_X8_exportAt (pc := 21) C hM ca9 rx1 bw_5_114 ⟨Nat.le_of_ble_eq_true rfl, Nat.le_of_ble_eq_true rfl⟩ hl.1 (rcR (rcR rc0)) ⟨Nat.le_refl _, Nat.le_refl _⟩ dX8_proves_21 (fun ra9 H locs hM => ?_)
  obtain ⟨q11, h⟩ := ck_some h
  have gq11 := Ar_lald hM q11.1 q11.2.1 q11.2.2
  refine m_lald (pc := 24) C hM q11.1 q11.2.1 q11.2.2 dX8_proves_24 ?_
  obtain ⟨a12, ea12, h⟩ := nm_some h
  have ra12 : R32 a12 := by rw [ea12]; exact w32_R _
  refine m_l2i (pc := 25) C dX8_proves_25 ea12 ?_
  obtain ⟨a13, μ14, ca13, h⟩ := bd_some h
  refine V_X8_lotAt (pc := 26) C hM ca13 ra12 bw_5_87 ⟨Nat.le_of_ble_eq_true rfl, Nat.le_of_ble_eq_true rfl⟩ hl.1 (rcR rc0) ⟨Nat.le_refl _, Nat.le_refl _⟩ dX8_proves_26 (fun ra13 H locs hM => ?_)
  refine m_bipush (pc := 29) C dX8_proves_29 rfl ?_
  obtain ⟨a15, ea15, h⟩ := nm_some h
  have ra15 : R32 a15 := by rw [ea15]; exact w32_R _
  refine m_iadd (pc := 31) C dX8_proves_31 ea15 ?_
  refine m_dup2 (pc := 32) C rfl (vr_cat _ _) dX8_proves_32 ?_
  obtain ⟨q16, h⟩ := ck_some h
  have gq16 := Ar_lald hM q16.1 q16.2.1 q16.2.2
  refine m_lald (pc := 33) C hM q16.1 q16.2.1 q16.2.2 dX8_proves_33 ?_
  refine m_aload_n (pc := 34) C dX8_proves_34 rfl (lv_at hl 0 rfl) ?_
  obtain ⟨q17, h⟩ := ck_some h
  refine G_X8_now (pc := 35) C hM bw_4_227 q17 dX8_proves_35 ?_
  refine m_iload_n (pc := 38) C dX8_proves_38 rfl (lv_at hl 1 rfl) ?_
  obtain ⟨a18, μ19, ca18, h⟩ := bd_some h
  refine V_X8_exportAt (pc := 39) C hM ca18 rx1 bw_5_114 ⟨Nat.le_of_ble_eq_true rfl, Nat.le_of_ble_eq_true rfl⟩ hl.1 (rcR (rcL (rcI (rcR rc0)))) ⟨Nat.le_refl _, Nat.le_refl _⟩ dX8_proves_39 (fun ra18 H locs hM => ?_)
  refine m_iconst (pc := 42) C dX8_proves_42 ?_
  obtain ⟨a20, ea20, h⟩ := nm_some h
  have ra20 : R32 a20 := by rw [ea20]; exact w32_R _
  refine m_iadd (pc := 43) C dX8_proves_43 ea20 ?_
  obtain ⟨q21, h⟩ := ck_some h
  have gq21 := Ar_lald hM q21.1 q21.2.1 q21.2.2
  refine m_lald (pc := 44) C hM q21.1 q21.2.1 q21.2.2 dX8_proves_44 ?_
  obtain ⟨a22, ea22, h⟩ := nm_some h
  have ra22 : R64 a22 := by rw [ea22]; exact w64_R _
  refine m_ladd (pc := 45) C dX8_proves_45 ea22 ?_
  obtain ⟨q23, h⟩ := ck_some h
  obtain ⟨μ24, eμ24, h⟩ := nm_some h
  refine m_last (pc := 46) C hM q23.1 q23.2.1  q23.2.2 ra22 eμ24 dX8_proves_46 (fun H locs hM => ?_)
  refine m_aload_n (pc := 47) C dX8_proves_47 rfl (lv_at hl 0 rfl) ?_
  refine m_iload_n (pc := 48) C dX8_proves_48 rfl (lv_at hl 1 rfl) ?_
  obtain ⟨a25, μ26, ca25, h⟩ := bd_some h
  refine V_X8_exportAt (pc := 49) C hM ca25 rx1 bw_5_114 ⟨Nat.le_of_ble_eq_true rfl, Nat.le_of_ble_eq_true rfl⟩ hl.1 (rcR rc0) ⟨Nat.le_refl _, Nat.le_refl _⟩ dX8_proves_49 (fun ra25 H locs hM => ?_)
  refine m_iconst (pc := 52) C dX8_proves_52 ?_
  obtain ⟨a27, ea27, h⟩ := nm_some h
  have ra27 : R32 a27 := by rw [ea27]; exact w32_R _
  refine m_iadd (pc := 53) C dX8_proves_53 ea27 ?_
  obtain ⟨q28, h⟩ := ck_some h
  obtain ⟨a29, μ30, ca29, h⟩ := bd_some h
  refine V_X8_number (pc := 54) C hM ca29 ra27 q28 bw_5_47 ⟨Nat.le_of_ble_eq_true rfl, Nat.le_of_ble_eq_true rfl⟩ hl.1 rc0 ⟨Nat.le_refl _, Nat.le_refl _⟩ dX8_proves_54 (fun ra29 H locs hM => ?_)
  cases h
  exact m_iret (pc := 57) C hM ra29 dX8_proves_57
theorem hd_X8_proves : yX8_proves.cls ≠ "java/lang/invoke/MethodHandle" ∧ yX8_proves.cls ≠ "java/lang/invoke/VarHandle" ∧ (parseMethodDescriptor yX8_proves.desc).map (fun d => d.parameters.length) = some 1 := by decide +kernel

theorem V_X8_proves {p : Program} {l : Launch} {e : Env} {R : Room} {s : State} {m : MethodId} {args : Array Value} {below : List Frame} {meth : Method} {c : Code} {H : Heap} {locs : List Loc} {cells slots : Nat} {Q : State → Prop} {cc : ByteArray} {pc nL : Nat} {ls : Array Slot} {rest : List Value} {ret : Option FieldType} {nmm own : String} {E : gE} {μ μ1 : Mm} {index : Nat} (C : gCx p s m args meth c cc nL ret nmm own) (hM : MS E μ s H locs) {N : Nat} {x0 x1 v : Int} (hc : f_X8_proves N x0 x1 μ = some (v, μ1)) (rx1 : R32 x1) (hck : μ x0 (-2) = 10) (h1 : Cond.methodLink own index yX8_proves ∈ bigL) (hR : 2 ≤ R.frames ∧ 42 ≤ R.locals) (hl : ls.size = nL) (hcat : RC rest 8) (hf : cells + 0 ≤ R.cells ∧ slots + 0 ≤ R.slots) (hdg : decode cc pc = .ok (.invokevirtual index, 3)) (kk : (R32 v) → ∀ (H1 : Heap) (locs1 : List Loc), MS E μ1 s H1 locs1 → W p l e R s m args below meth c H1 locs1 (cells + 0) (slots + 0) Q (F0 m (pc + 3) ls (vi v :: rest))) : W p l e R s m args below meth c H locs cells slots Q (F0 m pc ls (vi x1 :: vr E x0 :: rest)) := g_callV C KF_X8 hM (c_X8_proves l E N x0 x1 μ μ1 v hc rx1) hck (gV h1 bw_5_237 bs_49 bw_1_13 bw_5_238) ⟨rfl, hd_X8_proves⟩ hR rfl hl rfl hcat hf hdg kk
/-! X8_checkDestroy -/
def f_X8_checkDestroy (N : Nat) (x0 x1 x2 : Int) (μ : Mm) : Rs :=
  ck (μ x0 (-2) = 10) <|
  bd (f_X8_checkUnits N x0 x1 x2 μ) fun a2 μ3 =>
  if 0 ≤ a2 then
    (ck (μ3 x0 (-2) = 10) <|
     ck (μ3 (μ3 x0 0) (-2) = 24 ∧ (0 : Int) ≤ 9 ∧ 9 < μ3 (μ3 x0 0) (-1)) <|
     nm (w64 (x2 * (μ3 (μ3 x0 0) 9))) fun a7 =>
     ck (μ3 x0 (-2) = 10) <|
     bd (f_X8_cash N x0 x1 μ3) fun a9 μ10 =>
     if a7 ≤ a9 then
       (some (0, μ10))
     else
     ck (μ10 x0 (-2) = 10) <|
     bd (f_X8_refuse N x0 3 μ10) fun a13 μ14 =>
     some (a13, μ14))
  else
  some (a2, μ3)
set_option maxHeartbeats 4000000 in
set_option maxRecDepth 100000 in
theorem c_X8_checkDestroy (l : Launch) (E : gE) (N : Nat) (x0 x1 x2 : Int) (μ μ' : Mm) (r : Int) (h : f_X8_checkDestroy N x0 x1 x2 μ = some (r, μ')) (rx1 : R32 x1) (rx2 : R32 x2) : gMet l E yX8_checkDestroy cX8_checkDestroy 4 (some .int) 3 68 [vr E x0, vi x1, vi x2] (some (vi r)) (R32 r) μ μ' 0 0 := by
  refine g_ofW [1, 1, 1] (by first | (simp only [List.map_cons, List.map_nil, vr_cat]; done) | (simp only [List.map_cons, List.map_nil, vr_cat]; rfl)) (by decide) (by decide) (fun p e s m below meth c ls C hM hl => ?_)
  replace C : gCx p s m _ meth c cX8_checkDestroy 4 (some .int) "checkDestroy" RX8 := C
  replace hl : lv_has ls 4 [(0, vr E x0), (1, vi x1), (2, vi x2)] := hl
  unfold f_X8_checkDestroy at h
  refine m_aload_n (pc := 0) C dX8_checkDestroy_0 rfl (lv_at hl 0 rfl) ?_
  refine m_iload_n (pc := 1) C dX8_checkDestroy_1 rfl (lv_at hl 1 rfl) ?_
  refine m_iload_n (pc := 2) C dX8_checkDestroy_2 rfl (lv_at hl 2 rfl) ?_
  obtain ⟨q1, h⟩ := ck_some h
  obtain ⟨a2, μ3, ca2, h⟩ := bd_some h
  refine V_X8_checkUnits (pc := 3) C hM ca2 rx1 rx2 q1 bw_5_167 ⟨Nat.le_of_ble_eq_true rfl, Nat.le_of_ble_eq_true rfl⟩ hl.1 rc0 ⟨Nat.le_refl _, Nat.le_refl _⟩ dX8_checkDestroy_3 (fun ra2 H locs hM => ?_)
  refine m_istore_n (pc := 6) C dX8_checkDestroy_6 rfl hl (by decide) (lvK1 0 rfl (Nat.ne_of_beq_eq_false rfl) (Nat.ne_of_beq_eq_false rfl) (lvK1 1 rfl (Nat.ne_of_beq_eq_false rfl) (Nat.ne_of_beq_eq_false rfl) (lvK2 2 rfl (Nat.ne_of_beq_eq_false rfl) rfl lvK0))) (fun ls hl => ?_)
  refine m_iload_n (pc := 7) C dX8_checkDestroy_7 rfl (lv_at hl 0 rfl) ?_
  refine m_if_ge (tgt := 15) (pc := 8) C ra2 dX8_checkDestroy_8 (by decide) (fun c4 => ?_) (fun c4 => ?_)
  · have h := if_t h c4
    refine m_iload_n (pc := 15) C dX8_checkDestroy_15 rfl (lv_at hl 3 rfl) ?_
    refine m_i2l (pc := 16) C rx2 dX8_checkDestroy_16 ?_
    refine m_aload_n (pc := 17) C dX8_checkDestroy_17 rfl (lv_at hl 1 rfl) ?_
    obtain ⟨q5, h⟩ := ck_some h
    refine G_X8_now (pc := 18) C hM bw_4_227 q5 dX8_checkDestroy_18 ?_
    refine m_bipush (pc := 21) C dX8_checkDestroy_21 rfl ?_
    obtain ⟨q6, h⟩ := ck_some h
    have gq6 := Ar_lald hM q6.1 q6.2.1 q6.2.2
    refine m_lald (pc := 23) C hM q6.1 q6.2.1 q6.2.2 dX8_checkDestroy_23 ?_
    obtain ⟨a7, ea7, h⟩ := nm_some h
    have ra7 : R64 a7 := by rw [ea7]; exact w64_R _
    refine m_lmul (pc := 24) C dX8_checkDestroy_24 ea7 ?_
    refine m_aload_n (pc := 25) C dX8_checkDestroy_25 rfl (lv_at hl 1 rfl) ?_
    refine m_iload_n (pc := 26) C dX8_checkDestroy_26 rfl (lv_at hl 2 rfl) ?_
    obtain ⟨q8, h⟩ := ck_some h
    obtain ⟨a9, μ10, ca9, h⟩ := bd_some h
    refine V_X8_cash (pc := 27) C hM ca9 rx1 q8 bw_5_175 ⟨Nat.le_of_ble_eq_true rfl, Nat.le_of_ble_eq_true rfl⟩ hl.1 (rcL rc0) ⟨Nat.le_refl _, Nat.le_refl _⟩ dX8_checkDestroy_27 (fun ra9 H locs hM => ?_)
    refine m_lcmp_le (tgt := 42) (pc := 30) C ra7 ra9 dX8_checkDestroy_30 dX8_checkDestroy_31 (by decide) (fun c11 => ?_) (fun c11 => ?_)
    · have h := if_t h c11
      refine m_iconst (pc := 42) C dX8_checkDestroy_42 ?_
      cases h
      exact m_iret (pc := 43) C hM rk_0 dX8_checkDestroy_43
    · have h := if_f h c11
      refine m_aload_n (pc := 34) C dX8_checkDestroy_34 rfl (lv_at hl 1 rfl) ?_
      refine m_iconst (pc := 35) C dX8_checkDestroy_35 ?_
      obtain ⟨q12, h⟩ := ck_some h
      obtain ⟨a13, μ14, ca13, h⟩ := bd_some h
      refine V_X8_refuse (pc := 36) C hM ca13 rk_3 q12 bw_5_121 ⟨Nat.le_of_ble_eq_true rfl, Nat.le_of_ble_eq_true rfl⟩ hl.1 rc0 ⟨Nat.le_refl _, Nat.le_refl _⟩ dX8_checkDestroy_36 (fun ra13 H locs hM => ?_)
      refine m_goto (tgt := 43) (pc := 39) C dX8_checkDestroy_39 (by decide) ?_
      cases h
      exact m_iret (pc := 43) C hM ra13 dX8_checkDestroy_43
  · have h := if_f h c4
    refine m_iload_n (pc := 11) C dX8_checkDestroy_11 rfl (lv_at hl 0 rfl) ?_
    refine m_goto (tgt := 43) (pc := 12) C dX8_checkDestroy_12 (by decide) ?_
    cases h
    exact m_iret (pc := 43) C hM ra2 dX8_checkDestroy_43
theorem hd_X8_checkDestroy : yX8_checkDestroy.cls ≠ "java/lang/invoke/MethodHandle" ∧ yX8_checkDestroy.cls ≠ "java/lang/invoke/VarHandle" ∧ (parseMethodDescriptor yX8_checkDestroy.desc).map (fun d => d.parameters.length) = some 2 := by decide +kernel

theorem V_X8_checkDestroy {p : Program} {l : Launch} {e : Env} {R : Room} {s : State} {m : MethodId} {args : Array Value} {below : List Frame} {meth : Method} {c : Code} {H : Heap} {locs : List Loc} {cells slots : Nat} {Q : State → Prop} {cc : ByteArray} {pc nL : Nat} {ls : Array Slot} {rest : List Value} {ret : Option FieldType} {nmm own : String} {E : gE} {μ μ1 : Mm} {index : Nat} (C : gCx p s m args meth c cc nL ret nmm own) (hM : MS E μ s H locs) {N : Nat} {x0 x1 x2 v : Int} (hc : f_X8_checkDestroy N x0 x1 x2 μ = some (v, μ1)) (rx1 : R32 x1) (rx2 : R32 x2) (hck : μ x0 (-2) = 10) (h1 : Cond.methodLink own index yX8_checkDestroy ∈ bigL) (hR : 4 ≤ R.frames ∧ 91 ≤ R.locals) (hl : ls.size = nL) (hcat : RC rest 8) (hf : cells + 0 ≤ R.cells ∧ slots + 0 ≤ R.slots) (hdg : decode cc pc = .ok (.invokevirtual index, 3)) (kk : (R32 v) → ∀ (H1 : Heap) (locs1 : List Loc), MS E μ1 s H1 locs1 → W p l e R s m args below meth c H1 locs1 (cells + 0) (slots + 0) Q (F0 m (pc + 3) ls (vi v :: rest))) : W p l e R s m args below meth c H locs cells slots Q (F0 m pc ls (vi x2 :: vi x1 :: vr E x0 :: rest)) := g_callV C KF_X8 hM (c_X8_checkDestroy l E N x0 x1 x2 μ μ1 v hc rx1 rx2) hck (gV h1 bw_6_5 bs_50 bw_1_13 bw_6_6) ⟨rfl, hd_X8_checkDestroy⟩ hR rfl hl rfl hcat hf hdg kk
/-! X8_destroys -/
def f_X8_destroys (N : Nat) (x0 x1 x2 : Int) (μ : Mm) : Rs :=
  ck (μ x0 (-2) = 10) <|
  bd (f_X8_dutyNow N x0 x1 x2 μ) fun a2 μ3 =>
  ck (μ3 x0 (-2) = 10) <|
  bd (f_X8_take N x0 x1 x2 μ3) fun a5 μ6 =>
  ck (μ6 x0 (-2) = 10) <|
  bd (f_X8_lotAt N x1 μ6) fun a8 μ9 =>
  nm (w32 (a8 + 9)) fun a10 =>
  ck (μ9 (μ6 x0 0) (-2) = 24 ∧ (0 : Int) ≤ a10 ∧ a10 < μ9 (μ6 x0 0) (-1)) <|
  nm (w64 ((μ9 (μ6 x0 0) a10) + a2)) fun a12 =>
  ck (μ9 (μ6 x0 0) (-2) = 24 ∧ (0 : Int) ≤ a10 ∧ a10 < μ9 (μ6 x0 0) (-1)) <|
  nm (mset μ9 (μ6 x0 0) a10 a12) fun μ14 =>
  ck (μ14 x0 (-2) = 10) <|
  ck (μ14 x0 (-2) = 10) <|
  bd (f_X8_lotAt N x1 μ14) fun a17 μ18 =>
  ck (μ18 (μ14 x0 0) (-2) = 24 ∧ (0 : Int) ≤ a17 ∧ a17 < μ18 (μ14 x0 0) (-1)) <|
  nm (w32 (μ18 (μ14 x0 0) a17)) fun a20 =>
  bd (f_X8_ownerAt N a20 μ18) fun a21 μ22 =>
  ck (μ22 (μ14 x0 0) (-2) = 24 ∧ (0 : Int) ≤ a21 ∧ a21 < μ22 (μ14 x0 0) (-1)) <|
  ck (μ22 x0 (-2) = 10) <|
  ck (μ22 (μ22 x0 0) (-2) = 24 ∧ (0 : Int) ≤ 9 ∧ 9 < μ22 (μ22 x0 0) (-1)) <|
  nm (w64 (x2 * (μ22 (μ22 x0 0) 9))) fun a26 =>
  nm (w64 ((μ22 (μ14 x0 0) a21) - a26)) fun a27 =>
  ck (μ22 (μ14 x0 0) (-2) = 24 ∧ (0 : Int) ≤ a21 ∧ a21 < μ22 (μ14 x0 0) (-1)) <|
  nm (mset μ22 (μ14 x0 0) a21 a27) fun μ29 =>
  ck (μ29 x0 (-2) = 10) <|
  ck (μ29 (μ29 x0 0) (-2) = 24 ∧ (0 : Int) ≤ 11 ∧ 11 < μ29 (μ29 x0 0) (-1)) <|
  ck (μ29 x0 (-2) = 10) <|
  ck (μ29 (μ29 x0 0) (-2) = 24 ∧ (0 : Int) ≤ 9 ∧ 9 < μ29 (μ29 x0 0) (-1)) <|
  nm (w64 (x2 * (μ29 (μ29 x0 0) 9))) fun a34 =>
  nm (w64 ((μ29 (μ29 x0 0) 11) + a34)) fun a35 =>
  ck (μ29 (μ29 x0 0) (-2) = 24 ∧ (0 : Int) ≤ 11 ∧ 11 < μ29 (μ29 x0 0) (-1)) <|
  nm (mset μ29 (μ29 x0 0) 11 a35) fun μ37 =>
  nm (w32 a2) fun a38 =>
  some (a38, μ37)
set_option maxHeartbeats 4000000 in
set_option maxRecDepth 100000 in
theorem c_X8_destroys (l : Launch) (E : gE) (N : Nat) (x0 x1 x2 : Int) (μ μ' : Mm) (r : Int) (h : f_X8_destroys N x0 x1 x2 μ = some (r, μ')) (rx1 : R32 x1) (rx2 : R32 x2) : gMet l E yX8_destroys cX8_destroys 5 (some .int) 3 72 [vr E x0, vi x1, vi x2] (some (vi r)) (R32 r) μ μ' 0 0 := by
  refine g_ofW [1, 1, 1] (by first | (simp only [List.map_cons, List.map_nil, vr_cat]; done) | (simp only [List.map_cons, List.map_nil, vr_cat]; rfl)) (by decide) (by decide) (fun p e s m below meth c ls C hM hl => ?_)
  replace C : gCx p s m _ meth c cX8_destroys 5 (some .int) "destroys" RX8 := C
  replace hl : lv_has ls 5 [(0, vr E x0), (1, vi x1), (2, vi x2)] := hl
  unfold f_X8_destroys at h
  refine m_aload_n (pc := 0) C dX8_destroys_0 rfl (lv_at hl 0 rfl) ?_
  refine m_iload_n (pc := 1) C dX8_destroys_1 rfl (lv_at hl 1 rfl) ?_
  refine m_iload_n (pc := 2) C dX8_destroys_2 rfl (lv_at hl 2 rfl) ?_
  refine m_i2l (pc := 3) C rx2 dX8_destroys_3 ?_
  obtain ⟨q1, h⟩ := ck_some h
  obtain ⟨a2, μ3, ca2, h⟩ := bd_some h
  refine V_X8_dutyNow (pc := 4) C hM ca2 rx1 (R32.to64 rx2) q1 bw_5_98 ⟨Nat.le_of_ble_eq_true rfl, Nat.le_of_ble_eq_true rfl⟩ hl.1 rc0 ⟨Nat.le_refl _, Nat.le_refl _⟩ dX8_destroys_4 (fun ra2 H locs hM => ?_)
  refine m_lstore_n (pc := 7) C dX8_destroys_7 rfl hl (by decide) (lvK1 0 rfl (Nat.ne_of_beq_eq_false rfl) (Nat.ne_of_beq_eq_false rfl) (lvK1 1 rfl (Nat.ne_of_beq_eq_false rfl) (Nat.ne_of_beq_eq_false rfl) (lvK2 2 rfl (Nat.ne_of_beq_eq_false rfl) rfl lvK0))) (lvN1 (Nat.ne_of_beq_eq_false rfl) (lvN1 (Nat.ne_of_beq_eq_false rfl) (lvN1 (Nat.ne_of_beq_eq_false rfl) lvN0))) (fun ls hl => ?_)
  refine m_aload_n (pc := 8) C dX8_destroys_8 rfl (lv_at hl 1 rfl) ?_
  refine m_iload_n (pc := 9) C dX8_destroys_9 rfl (lv_at hl 2 rfl) ?_
  refine m_iload_n (pc := 10) C dX8_destroys_10 rfl (lv_at hl 3 rfl) ?_
  refine m_i2l (pc := 11) C rx2 dX8_destroys_11 ?_
  obtain ⟨q4, h⟩ := ck_some h
  obtain ⟨a5, μ6, ca5, h⟩ := bd_some h
  refine V_X8_take (pc := 12) C hM ca5 rx1 (R32.to64 rx2) q4 bw_5_183 ⟨Nat.le_of_ble_eq_true rfl, Nat.le_of_ble_eq_true rfl⟩ hl.1 rc0 ⟨Nat.le_refl _, Nat.le_refl _⟩ dX8_destroys_12 (fun _ H locs hM => ?_)
  refine m_aload_n (pc := 15) C dX8_destroys_15 rfl (lv_at hl 1 rfl) ?_
  obtain ⟨q7, h⟩ := ck_some h
  refine G_X8_now (pc := 16) C hM bw_4_227 q7 dX8_destroys_16 ?_
  refine m_iload_n (pc := 19) C dX8_destroys_19 rfl (lv_at hl 2 rfl) ?_
  obtain ⟨a8, μ9, ca8, h⟩ := bd_some h
  refine V_X8_lotAt (pc := 20) C hM ca8 rx1 bw_5_87 ⟨Nat.le_of_ble_eq_true rfl, Nat.le_of_ble_eq_true rfl⟩ hl.1 (rcR rc0) ⟨Nat.le_refl _, Nat.le_refl _⟩ dX8_destroys_20 (fun ra8 H locs hM => ?_)
  refine m_bipush (pc := 23) C dX8_destroys_23 rfl ?_
  obtain ⟨a10, ea10, h⟩ := nm_some h
  have ra10 : R32 a10 := by rw [ea10]; exact w32_R _
  refine m_iadd (pc := 25) C dX8_destroys_25 ea10 ?_
  refine m_dup2 (pc := 26) C rfl (vr_cat _ _) dX8_destroys_26 ?_
  obtain ⟨q11, h⟩ := ck_some h
  have gq11 := Ar_lald hM q11.1 q11.2.1 q11.2.2
  refine m_lald (pc := 27) C hM q11.1 q11.2.1 q11.2.2 dX8_destroys_27 ?_
  refine m_lload_n (pc := 28) C dX8_destroys_28 rfl (lv_at hl 0 rfl) ?_
  obtain ⟨a12, ea12, h⟩ := nm_some h
  have ra12 : R64 a12 := by rw [ea12]; exact w64_R _
  refine m_ladd (pc := 29) C dX8_destroys_29 ea12 ?_
  obtain ⟨q13, h⟩ := ck_some h
  obtain ⟨μ14, eμ14, h⟩ := nm_some h
  refine m_last (pc := 30) C hM q13.1 q13.2.1  q13.2.2 ra12 eμ14 dX8_destroys_30 (fun H locs hM => ?_)
  refine m_aload_n (pc := 31) C dX8_destroys_31 rfl (lv_at hl 1 rfl) ?_
  obtain ⟨q15, h⟩ := ck_some h
  refine G_X8_now (pc := 32) C hM bw_4_227 q15 dX8_destroys_32 ?_
  refine m_aload_n (pc := 35) C dX8_destroys_35 rfl (lv_at hl 1 rfl) ?_
  obtain ⟨q16, h⟩ := ck_some h
  refine G_X8_now (pc := 36) C hM bw_4_227 q16 dX8_destroys_36 ?_
  refine m_iload_n (pc := 39) C dX8_destroys_39 rfl (lv_at hl 2 rfl) ?_
  obtain ⟨a17, μ18, ca17, h⟩ := bd_some h
  refine V_X8_lotAt (pc := 40) C hM ca17 rx1 bw_5_87 ⟨Nat.le_of_ble_eq_true rfl, Nat.le_of_ble_eq_true rfl⟩ hl.1 (rcR (rcR rc0)) ⟨Nat.le_refl _, Nat.le_refl _⟩ dX8_destroys_40 (fun ra17 H locs hM => ?_)
  obtain ⟨q19, h⟩ := ck_some h
  have gq19 := Ar_lald hM q19.1 q19.2.1 q19.2.2
  refine m_lald (pc := 43) C hM q19.1 q19.2.1 q19.2.2 dX8_destroys_43 ?_
  obtain ⟨a20, ea20, h⟩ := nm_some h
  have ra20 : R32 a20 := by rw [ea20]; exact w32_R _
  refine m_l2i (pc := 44) C dX8_destroys_44 ea20 ?_
  obtain ⟨a21, μ22, ca21, h⟩ := bd_some h
  refine V_X8_ownerAt (pc := 45) C hM ca21 ra20 bw_5_65 ⟨Nat.le_of_ble_eq_true rfl, Nat.le_of_ble_eq_true rfl⟩ hl.1 (rcR rc0) ⟨Nat.le_refl _, Nat.le_refl _⟩ dX8_destroys_45 (fun ra21 H locs hM => ?_)
  refine m_dup2 (pc := 48) C rfl (vr_cat _ _) dX8_destroys_48 ?_
  obtain ⟨q23, h⟩ := ck_some h
  have gq23 := Ar_lald hM q23.1 q23.2.1 q23.2.2
  refine m_lald (pc := 49) C hM q23.1 q23.2.1 q23.2.2 dX8_destroys_49 ?_
  refine m_iload_n (pc := 50) C dX8_destroys_50 rfl (lv_at hl 3 rfl) ?_
  refine m_i2l (pc := 51) C rx2 dX8_destroys_51 ?_
  refine m_aload_n (pc := 52) C dX8_destroys_52 rfl (lv_at hl 1 rfl) ?_
  obtain ⟨q24, h⟩ := ck_some h
  refine G_X8_now (pc := 53) C hM bw_4_227 q24 dX8_destroys_53 ?_
  refine m_bipush (pc := 56) C dX8_destroys_56 rfl ?_
  obtain ⟨q25, h⟩ := ck_some h
  have gq25 := Ar_lald hM q25.1 q25.2.1 q25.2.2
  refine m_lald (pc := 58) C hM q25.1 q25.2.1 q25.2.2 dX8_destroys_58 ?_
  obtain ⟨a26, ea26, h⟩ := nm_some h
  have ra26 : R64 a26 := by rw [ea26]; exact w64_R _
  refine m_lmul (pc := 59) C dX8_destroys_59 ea26 ?_
  obtain ⟨a27, ea27, h⟩ := nm_some h
  have ra27 : R64 a27 := by rw [ea27]; exact w64_R _
  refine m_lsub (pc := 60) C dX8_destroys_60 ea27 ?_
  obtain ⟨q28, h⟩ := ck_some h
  obtain ⟨μ29, eμ29, h⟩ := nm_some h
  refine m_last (pc := 61) C hM q28.1 q28.2.1  q28.2.2 ra27 eμ29 dX8_destroys_61 (fun H locs hM => ?_)
  refine m_aload_n (pc := 62) C dX8_destroys_62 rfl (lv_at hl 1 rfl) ?_
  obtain ⟨q30, h⟩ := ck_some h
  refine G_X8_now (pc := 63) C hM bw_4_227 q30 dX8_destroys_63 ?_
  refine m_bipush (pc := 66) C dX8_destroys_66 rfl ?_
  refine m_dup2 (pc := 68) C rfl (vr_cat _ _) dX8_destroys_68 ?_
  obtain ⟨q31, h⟩ := ck_some h
  have gq31 := Ar_lald hM q31.1 q31.2.1 q31.2.2
  refine m_lald (pc := 69) C hM q31.1 q31.2.1 q31.2.2 dX8_destroys_69 ?_
  refine m_iload_n (pc := 70) C dX8_destroys_70 rfl (lv_at hl 3 rfl) ?_
  refine m_i2l (pc := 71) C rx2 dX8_destroys_71 ?_
  refine m_aload_n (pc := 72) C dX8_destroys_72 rfl (lv_at hl 1 rfl) ?_
  obtain ⟨q32, h⟩ := ck_some h
  refine G_X8_now (pc := 73) C hM bw_4_227 q32 dX8_destroys_73 ?_
  refine m_bipush (pc := 76) C dX8_destroys_76 rfl ?_
  obtain ⟨q33, h⟩ := ck_some h
  have gq33 := Ar_lald hM q33.1 q33.2.1 q33.2.2
  refine m_lald (pc := 78) C hM q33.1 q33.2.1 q33.2.2 dX8_destroys_78 ?_
  obtain ⟨a34, ea34, h⟩ := nm_some h
  have ra34 : R64 a34 := by rw [ea34]; exact w64_R _
  refine m_lmul (pc := 79) C dX8_destroys_79 ea34 ?_
  obtain ⟨a35, ea35, h⟩ := nm_some h
  have ra35 : R64 a35 := by rw [ea35]; exact w64_R _
  refine m_ladd (pc := 80) C dX8_destroys_80 ea35 ?_
  obtain ⟨q36, h⟩ := ck_some h
  obtain ⟨μ37, eμ37, h⟩ := nm_some h
  refine m_last (pc := 81) C hM q36.1 q36.2.1  q36.2.2 ra35 eμ37 dX8_destroys_81 (fun H locs hM => ?_)
  refine m_lload_n (pc := 82) C dX8_destroys_82 rfl (lv_at hl 0 rfl) ?_
  obtain ⟨a38, ea38, h⟩ := nm_some h
  have ra38 : R32 a38 := by rw [ea38]; exact w32_R _
  refine m_l2i (pc := 83) C dX8_destroys_83 ea38 ?_
  cases h
  exact m_iret (pc := 84) C hM ra38 dX8_destroys_84
theorem hd_X8_destroys : yX8_destroys.cls ≠ "java/lang/invoke/MethodHandle" ∧ yX8_destroys.cls ≠ "java/lang/invoke/VarHandle" ∧ (parseMethodDescriptor yX8_destroys.desc).map (fun d => d.parameters.length) = some 2 := by decide +kernel

theorem V_X8_destroys {p : Program} {l : Launch} {e : Env} {R : Room} {s : State} {m : MethodId} {args : Array Value} {below : List Frame} {meth : Method} {c : Code} {H : Heap} {locs : List Loc} {cells slots : Nat} {Q : State → Prop} {cc : ByteArray} {pc nL : Nat} {ls : Array Slot} {rest : List Value} {ret : Option FieldType} {nmm own : String} {E : gE} {μ μ1 : Mm} {index : Nat} (C : gCx p s m args meth c cc nL ret nmm own) (hM : MS E μ s H locs) {N : Nat} {x0 x1 x2 v : Int} (hc : f_X8_destroys N x0 x1 x2 μ = some (v, μ1)) (rx1 : R32 x1) (rx2 : R32 x2) (hck : μ x0 (-2) = 10) (h1 : Cond.methodLink own index yX8_destroys ∈ bigL) (hR : 4 ≤ R.frames ∧ 96 ≤ R.locals) (hl : ls.size = nL) (hcat : RC rest 8) (hf : cells + 0 ≤ R.cells ∧ slots + 0 ≤ R.slots) (hdg : decode cc pc = .ok (.invokevirtual index, 3)) (kk : (R32 v) → ∀ (H1 : Heap) (locs1 : List Loc), MS E μ1 s H1 locs1 → W p l e R s m args below meth c H1 locs1 (cells + 0) (slots + 0) Q (F0 m (pc + 3) ls (vi v :: rest))) : W p l e R s m args below meth c H locs cells slots Q (F0 m pc ls (vi x2 :: vi x1 :: vr E x0 :: rest)) := g_callV C KF_X8 hM (c_X8_destroys l E N x0 x1 x2 μ μ1 v hc rx1 rx2) hck (gV h1 bw_6_9 bs_51 bw_1_13 bw_6_10) ⟨rfl, hd_X8_destroys⟩ hR rfl hl rfl hcat hf hdg kk
/-! X8_checkGive -/
def f_X8_checkGive (N : Nat) (x0 x1 x2 : Int) (μ : Mm) : Rs :=
  ck (μ x0 (-2) = 10) <|
  bd (f_X8_noLot N x0 x1 μ) fun a2 μ3 =>
  if ¬ a2 = 0 then
    (some ((-100000001), μ3))
  else
  ck (μ3 x0 (-2) = 10) <|
  bd (f_X8_noOwner N x0 x2 μ3) fun a6 μ7 =>
  if a6 = 0 then
    (ck (μ7 x0 (-2) = 10) <|
     bd (f_X8_lotAt N x1 μ7) fun a10 μ11 =>
     ck (μ11 (μ7 x0 0) (-2) = 24 ∧ (0 : Int) ≤ a10 ∧ a10 < μ11 (μ7 x0 0) (-1)) <|
     if ¬ (μ11 (μ7 x0 0) a10) = x2 then
       (ck (μ11 x0 (-2) = 10) <|
        bd (f_X8_ownerAt N x2 μ11) fun a15 μ16 =>
        nm (w32 (a15 + 2)) fun a17 =>
        ck (μ16 (μ11 x0 0) (-2) = 24 ∧ (0 : Int) ≤ a17 ∧ a17 < μ16 (μ11 x0 0) (-1)) <|
        if (μ16 (μ11 x0 0) a17) ≤ 0 then
          (ck (μ16 x0 (-2) = 10) <|
           bd (f_X8_use N x0 x2 μ16) fun a21 μ22 =>
           ck (μ22 x0 (-2) = 10) <|
           bd (f_X8_suspended N x0 x1 μ22) fun a24 μ25 =>
           nm (w64 (a21 + a24)) fun a26 =>
           ck (μ25 x0 (-2) = 10) <|
           bd (f_X8_ownerAt N x2 μ25) fun a28 μ29 =>
           nm (w32 (a28 + 1)) fun a30 =>
           ck (μ29 (μ25 x0 0) (-2) = 24 ∧ (0 : Int) ≤ a30 ∧ a30 < μ29 (μ25 x0 0) (-1)) <|
           ck (μ29 x0 (-2) = 10) <|
           bd (f_X8_isCovered N x0 a26 (μ29 (μ25 x0 0) a30) μ29) fun a33 μ34 =>
           if a33 = 0 then
             (ck (μ34 x0 (-2) = 10) <|
              bd (f_X8_refuse N x0 2 μ34) fun a37 μ38 =>
              some (a37, μ38))
           else
           some (0, μ34))
        else
        ck (μ16 x0 (-2) = 10) <|
        bd (f_X8_refuse N x0 1 μ16) fun a40 μ41 =>
        some (a40, μ41))
     else
     some ((-100000002), μ11))
  else
  some ((-100000001), μ7)
set_option maxHeartbeats 4000000 in
set_option maxRecDepth 100000 in
theorem c_X8_checkGive (l : Launch) (E : gE) (N : Nat) (x0 x1 x2 : Int) (μ μ' : Mm) (r : Int) (h : f_X8_checkGive N x0 x1 x2 μ = some (r, μ')) (rx1 : R32 x1) (rx2 : R32 x2) : gMet l E yX8_checkGive cX8_checkGive 3 (some .int) 5 117 [vr E x0, vi x1, vi x2] (some (vi r)) (R32 r) μ μ' 0 0 := by
  refine g_ofW [1, 1, 1] (by first | (simp only [List.map_cons, List.map_nil, vr_cat]; done) | (simp only [List.map_cons, List.map_nil, vr_cat]; rfl)) (by decide) (by decide) (fun p e s m below meth c ls C hM hl => ?_)
  replace C : gCx p s m _ meth c cX8_checkGive 3 (some .int) "checkGive" RX8 := C
  replace hl : lv_has ls 3 [(0, vr E x0), (1, vi x1), (2, vi x2)] := hl
  unfold f_X8_checkGive at h
  refine m_aload_n (pc := 0) C dX8_checkGive_0 rfl (lv_at hl 0 rfl) ?_
  refine m_iload_n (pc := 1) C dX8_checkGive_1 rfl (lv_at hl 1 rfl) ?_
  obtain ⟨q1, h⟩ := ck_some h
  obtain ⟨a2, μ3, ca2, h⟩ := bd_some h
  refine V_X8_noLot (pc := 2) C hM ca2 rx1 q1 bw_5_171 ⟨Nat.le_of_ble_eq_true rfl, Nat.le_of_ble_eq_true rfl⟩ hl.1 rc0 ⟨Nat.le_refl _, Nat.le_refl _⟩ dX8_checkGive_2 (fun ra2 H locs hM => ?_)
  refine m_if_ne (tgt := 16) (pc := 5) C ra2 dX8_checkGive_5 (by decide) (fun c4 => ?_) (fun c4 => ?_)
  · have h := if_t h c4
    refine m_ldc (n := -100000001) (pc := 16) C bw_5_46 rfl dX8_checkGive_16 ?_
    cases h
    exact m_iret (pc := 18) C hM rk_m100000001 dX8_checkGive_18
  · have h := if_f h c4
    refine m_aload_n (pc := 8) C dX8_checkGive_8 rfl (lv_at hl 0 rfl) ?_
    refine m_iload_n (pc := 9) C dX8_checkGive_9 rfl (lv_at hl 2 rfl) ?_
    obtain ⟨q5, h⟩ := ck_some h
    obtain ⟨a6, μ7, ca6, h⟩ := bd_some h
    refine V_X8_noOwner (pc := 10) C hM ca6 rx2 q5 bw_5_72 ⟨Nat.le_of_ble_eq_true rfl, Nat.le_of_ble_eq_true rfl⟩ hl.1 rc0 ⟨Nat.le_refl _, Nat.le_refl _⟩ dX8_checkGive_10 (fun ra6 H locs hM => ?_)
    refine m_if_eq (tgt := 19) (pc := 13) C ra6 dX8_checkGive_13 (by decide) (fun c8 => ?_) (fun c8 => ?_)
    · have h := if_t h c8
      refine m_aload_n (pc := 19) C dX8_checkGive_19 rfl (lv_at hl 0 rfl) ?_
      obtain ⟨q9, h⟩ := ck_some h
      refine G_X8_now (pc := 20) C hM bw_4_227 q9 dX8_checkGive_20 ?_
      refine m_iload_n (pc := 23) C dX8_checkGive_23 rfl (lv_at hl 1 rfl) ?_
      obtain ⟨a10, μ11, ca10, h⟩ := bd_some h
      refine V_X8_lotAt (pc := 24) C hM ca10 rx1 bw_5_87 ⟨Nat.le_of_ble_eq_true rfl, Nat.le_of_ble_eq_true rfl⟩ hl.1 (rcR rc0) ⟨Nat.le_refl _, Nat.le_refl _⟩ dX8_checkGive_24 (fun ra10 H locs hM => ?_)
      obtain ⟨q12, h⟩ := ck_some h
      have gq12 := Ar_lald hM q12.1 q12.2.1 q12.2.2
      refine m_lald (pc := 27) C hM q12.1 q12.2.1 q12.2.2 dX8_checkGive_27 ?_
      refine m_iload_n (pc := 28) C dX8_checkGive_28 rfl (lv_at hl 2 rfl) ?_
      refine m_i2l (pc := 29) C rx2 dX8_checkGive_29 ?_
      refine m_lcmp_ne (tgt := 37) (pc := 30) C gq12 (R32.to64 rx2) dX8_checkGive_30 dX8_checkGive_31 (by decide) (fun c13 => ?_) (fun c13 => ?_)
      · have h := if_t h c13
        refine m_aload_n (pc := 37) C dX8_checkGive_37 rfl (lv_at hl 0 rfl) ?_
        obtain ⟨q14, h⟩ := ck_some h
        refine G_X8_now (pc := 38) C hM bw_4_227 q14 dX8_checkGive_38 ?_
        refine m_iload_n (pc := 41) C dX8_checkGive_41 rfl (lv_at hl 2 rfl) ?_
        obtain ⟨a15, μ16, ca15, h⟩ := bd_some h
        refine V_X8_ownerAt (pc := 42) C hM ca15 rx2 bw_5_65 ⟨Nat.le_of_ble_eq_true rfl, Nat.le_of_ble_eq_true rfl⟩ hl.1 (rcR rc0) ⟨Nat.le_refl _, Nat.le_refl _⟩ dX8_checkGive_42 (fun ra15 H locs hM => ?_)
        refine m_iconst (pc := 45) C dX8_checkGive_45 ?_
        obtain ⟨a17, ea17, h⟩ := nm_some h
        have ra17 : R32 a17 := by rw [ea17]; exact w32_R _
        refine m_iadd (pc := 46) C dX8_checkGive_46 ea17 ?_
        obtain ⟨q18, h⟩ := ck_some h
        have gq18 := Ar_lald hM q18.1 q18.2.1 q18.2.2
        refine m_lald (pc := 47) C hM q18.1 q18.2.1 q18.2.2 dX8_checkGive_47 ?_
        refine m_lconst (v := 0) (pc := 48) C dX8_checkGive_48 rfl ?_
        refine m_lcmp_le (tgt := 59) (pc := 49) C gq18 rl_0 dX8_checkGive_49 dX8_checkGive_50 (by decide) (fun c19 => ?_) (fun c19 => ?_)
        · have h := if_t h c19
          refine m_aload_n (pc := 59) C dX8_checkGive_59 rfl (lv_at hl 0 rfl) ?_
          refine m_aload_n (pc := 60) C dX8_checkGive_60 rfl (lv_at hl 0 rfl) ?_
          refine m_iload_n (pc := 61) C dX8_checkGive_61 rfl (lv_at hl 2 rfl) ?_
          obtain ⟨q20, h⟩ := ck_some h
          obtain ⟨a21, μ22, ca21, h⟩ := bd_some h
          refine V_X8_use (pc := 62) C hM ca21 rx2 q20 bw_5_83 ⟨Nat.le_of_ble_eq_true rfl, Nat.le_of_ble_eq_true rfl⟩ hl.1 (rcR rc0) ⟨Nat.le_refl _, Nat.le_refl _⟩ dX8_checkGive_62 (fun ra21 H locs hM => ?_)
          refine m_aload_n (pc := 65) C dX8_checkGive_65 rfl (lv_at hl 0 rfl) ?_
          refine m_iload_n (pc := 66) C dX8_checkGive_66 rfl (lv_at hl 1 rfl) ?_
          obtain ⟨q23, h⟩ := ck_some h
          obtain ⟨a24, μ25, ca24, h⟩ := bd_some h
          refine V_X8_suspended (pc := 67) C hM ca24 rx1 q23 bw_5_90 ⟨Nat.le_of_ble_eq_true rfl, Nat.le_of_ble_eq_true rfl⟩ hl.1 (rcL (rcR rc0)) ⟨Nat.le_refl _, Nat.le_refl _⟩ dX8_checkGive_67 (fun ra24 H locs hM => ?_)
          obtain ⟨a26, ea26, h⟩ := nm_some h
          have ra26 : R64 a26 := by rw [ea26]; exact w64_R _
          refine m_ladd (pc := 70) C dX8_checkGive_70 ea26 ?_
          refine m_aload_n (pc := 71) C dX8_checkGive_71 rfl (lv_at hl 0 rfl) ?_
          obtain ⟨q27, h⟩ := ck_some h
          refine G_X8_now (pc := 72) C hM bw_4_227 q27 dX8_checkGive_72 ?_
          refine m_iload_n (pc := 75) C dX8_checkGive_75 rfl (lv_at hl 2 rfl) ?_
          obtain ⟨a28, μ29, ca28, h⟩ := bd_some h
          refine V_X8_ownerAt (pc := 76) C hM ca28 rx2 bw_5_65 ⟨Nat.le_of_ble_eq_true rfl, Nat.le_of_ble_eq_true rfl⟩ hl.1 (rcR (rcL (rcR rc0))) ⟨Nat.le_refl _, Nat.le_refl _⟩ dX8_checkGive_76 (fun ra28 H locs hM => ?_)
          refine m_iconst (pc := 79) C dX8_checkGive_79 ?_
          obtain ⟨a30, ea30, h⟩ := nm_some h
          have ra30 : R32 a30 := by rw [ea30]; exact w32_R _
          refine m_iadd (pc := 80) C dX8_checkGive_80 ea30 ?_
          obtain ⟨q31, h⟩ := ck_some h
          have gq31 := Ar_lald hM q31.1 q31.2.1 q31.2.2
          refine m_lald (pc := 81) C hM q31.1 q31.2.1 q31.2.2 dX8_checkGive_81 ?_
          obtain ⟨q32, h⟩ := ck_some h
          obtain ⟨a33, μ34, ca33, h⟩ := bd_some h
          refine V_X8_isCovered (pc := 82) C hM ca33 ra26 gq31 q32 bw_5_117 ⟨Nat.le_of_ble_eq_true rfl, Nat.le_of_ble_eq_true rfl⟩ hl.1 rc0 ⟨Nat.le_refl _, Nat.le_refl _⟩ dX8_checkGive_82 (fun ra33 H locs hM => ?_)
          refine m_if_eq (tgt := 92) (pc := 85) C ra33 dX8_checkGive_85 (by decide) (fun c35 => ?_) (fun c35 => ?_)
          · have h := if_t h c35
            refine m_aload_n (pc := 92) C dX8_checkGive_92 rfl (lv_at hl 0 rfl) ?_
            refine m_iconst (pc := 93) C dX8_checkGive_93 ?_
            obtain ⟨q36, h⟩ := ck_some h
            obtain ⟨a37, μ38, ca37, h⟩ := bd_some h
            refine V_X8_refuse (pc := 94) C hM ca37 rk_2 q36 bw_5_121 ⟨Nat.le_of_ble_eq_true rfl, Nat.le_of_ble_eq_true rfl⟩ hl.1 rc0 ⟨Nat.le_refl _, Nat.le_refl _⟩ dX8_checkGive_94 (fun ra37 H locs hM => ?_)
            cases h
            exact m_iret (pc := 97) C hM ra37 dX8_checkGive_97
          · have h := if_f h c35
            refine m_iconst (pc := 88) C dX8_checkGive_88 ?_
            refine m_goto (tgt := 97) (pc := 89) C dX8_checkGive_89 (by decide) ?_
            cases h
            exact m_iret (pc := 97) C hM rk_0 dX8_checkGive_97
        · have h := if_f h c19
          refine m_aload_n (pc := 53) C dX8_checkGive_53 rfl (lv_at hl 0 rfl) ?_
          refine m_iconst (pc := 54) C dX8_checkGive_54 ?_
          obtain ⟨q39, h⟩ := ck_some h
          obtain ⟨a40, μ41, ca40, h⟩ := bd_some h
          refine V_X8_refuse (pc := 55) C hM ca40 rk_1 q39 bw_5_121 ⟨Nat.le_of_ble_eq_true rfl, Nat.le_of_ble_eq_true rfl⟩ hl.1 rc0 ⟨Nat.le_refl _, Nat.le_refl _⟩ dX8_checkGive_55 (fun ra40 H locs hM => ?_)
          cases h
          exact m_iret (pc := 58) C hM ra40 dX8_checkGive_58
      · have h := if_f h c13
        refine m_ldc (n := -100000002) (pc := 34) C bw_5_77 rfl dX8_checkGive_34 ?_
        cases h
        exact m_iret (pc := 36) C hM rk_m100000002 dX8_checkGive_36
    · have h := if_f h c8
      refine m_ldc (n := -100000001) (pc := 16) C bw_5_46 rfl dX8_checkGive_16 ?_
      cases h
      exact m_iret (pc := 18) C hM rk_m100000001 dX8_checkGive_18
theorem hd_X8_checkGive : yX8_checkGive.cls ≠ "java/lang/invoke/MethodHandle" ∧ yX8_checkGive.cls ≠ "java/lang/invoke/VarHandle" ∧ (parseMethodDescriptor yX8_checkGive.desc).map (fun d => d.parameters.length) = some 2 := by decide +kernel

theorem V_X8_checkGive {p : Program} {l : Launch} {e : Env} {R : Room} {s : State} {m : MethodId} {args : Array Value} {below : List Frame} {meth : Method} {c : Code} {H : Heap} {locs : List Loc} {cells slots : Nat} {Q : State → Prop} {cc : ByteArray} {pc nL : Nat} {ls : Array Slot} {rest : List Value} {ret : Option FieldType} {nmm own : String} {E : gE} {μ μ1 : Mm} {index : Nat} (C : gCx p s m args meth c cc nL ret nmm own) (hM : MS E μ s H locs) {N : Nat} {x0 x1 x2 v : Int} (hc : f_X8_checkGive N x0 x1 x2 μ = some (v, μ1)) (rx1 : R32 x1) (rx2 : R32 x2) (hck : μ x0 (-2) = 10) (h1 : Cond.methodLink own index yX8_checkGive ∈ bigL) (hR : 6 ≤ R.frames ∧ 139 ≤ R.locals) (hl : ls.size = nL) (hcat : RC rest 8) (hf : cells + 0 ≤ R.cells ∧ slots + 0 ≤ R.slots) (hdg : decode cc pc = .ok (.invokevirtual index, 3)) (kk : (R32 v) → ∀ (H1 : Heap) (locs1 : List Loc), MS E μ1 s H1 locs1 → W p l e R s m args below meth c H1 locs1 (cells + 0) (slots + 0) Q (F0 m (pc + 3) ls (vi v :: rest))) : W p l e R s m args below meth c H locs cells slots Q (F0 m pc ls (vi x2 :: vi x1 :: vr E x0 :: rest)) := g_callV C KF_X8 hM (c_X8_checkGive l E N x0 x1 x2 μ μ1 v hc rx1 rx2) hck (gV h1 bw_6_17 bs_52 bw_1_13 bw_6_18) ⟨rfl, hd_X8_checkGive⟩ hR rfl hl rfl hcat hf hdg kk
/-! X8_gives -/
def f_X8_gives (N : Nat) (x0 x1 x2 : Int) (μ : Mm) : Rs :=
  bd (f_X8_lotAt N x1 μ) fun a1 μ2 =>
  ck (μ2 x0 (-2) = 10) <|
  bd (f_X8_number N x0 a1 μ2) fun a4 μ5 =>
  ck (μ5 x0 (-2) = 10) <|
  bd (f_X8_lotAt N x1 μ5) fun a7 μ8 =>
  ck (μ8 (μ5 x0 0) (-2) = 24 ∧ (0 : Int) ≤ a7 ∧ a7 < μ8 (μ5 x0 0) (-1)) <|
  nm (mset μ8 (μ5 x0 0) a7 x2) fun μ10 =>
  some (a4, μ10)
set_option maxHeartbeats 4000000 in
set_option maxRecDepth 100000 in
theorem c_X8_gives (l : Launch) (E : gE) (N : Nat) (x0 x1 x2 : Int) (μ μ' : Mm) (r : Int) (h : f_X8_gives N x0 x1 x2 μ = some (r, μ')) (rx1 : R32 x1) (rx2 : R32 x2) : gMet l E yX8_gives cX8_gives 4 (some .int) 1 21 [vr E x0, vi x1, vi x2] (some (vi r)) (R32 r) μ μ' 0 0 := by
  refine g_ofW [1, 1, 1] (by first | (simp only [List.map_cons, List.map_nil, vr_cat]; done) | (simp only [List.map_cons, List.map_nil, vr_cat]; rfl)) (by decide) (by decide) (fun p e s m below meth c ls C hM hl => ?_)
  replace C : gCx p s m _ meth c cX8_gives 4 (some .int) "gives" RX8 := C
  replace hl : lv_has ls 4 [(0, vr E x0), (1, vi x1), (2, vi x2)] := hl
  unfold f_X8_gives at h
  refine m_aload_n (pc := 0) C dX8_gives_0 rfl (lv_at hl 0 rfl) ?_
  refine m_iload_n (pc := 1) C dX8_gives_1 rfl (lv_at hl 1 rfl) ?_
  obtain ⟨a1, μ2, ca1, h⟩ := bd_some h
  refine V_X8_lotAt (pc := 2) C hM ca1 rx1 bw_5_87 ⟨Nat.le_of_ble_eq_true rfl, Nat.le_of_ble_eq_true rfl⟩ hl.1 (rcR rc0) ⟨Nat.le_refl _, Nat.le_refl _⟩ dX8_gives_2 (fun ra1 H locs hM => ?_)
  obtain ⟨q3, h⟩ := ck_some h
  obtain ⟨a4, μ5, ca4, h⟩ := bd_some h
  refine V_X8_number (pc := 5) C hM ca4 ra1 q3 bw_5_47 ⟨Nat.le_of_ble_eq_true rfl, Nat.le_of_ble_eq_true rfl⟩ hl.1 rc0 ⟨Nat.le_refl _, Nat.le_refl _⟩ dX8_gives_5 (fun ra4 H locs hM => ?_)
  refine m_istore_n (pc := 8) C dX8_gives_8 rfl hl (by decide) (lvK1 0 rfl (Nat.ne_of_beq_eq_false rfl) (Nat.ne_of_beq_eq_false rfl) (lvK1 1 rfl (Nat.ne_of_beq_eq_false rfl) (Nat.ne_of_beq_eq_false rfl) (lvK2 2 rfl (Nat.ne_of_beq_eq_false rfl) rfl lvK0))) (fun ls hl => ?_)
  refine m_aload_n (pc := 9) C dX8_gives_9 rfl (lv_at hl 1 rfl) ?_
  obtain ⟨q6, h⟩ := ck_some h
  refine G_X8_now (pc := 10) C hM bw_4_227 q6 dX8_gives_10 ?_
  refine m_iload_n (pc := 13) C dX8_gives_13 rfl (lv_at hl 2 rfl) ?_
  obtain ⟨a7, μ8, ca7, h⟩ := bd_some h
  refine V_X8_lotAt (pc := 14) C hM ca7 rx1 bw_5_87 ⟨Nat.le_of_ble_eq_true rfl, Nat.le_of_ble_eq_true rfl⟩ hl.1 (rcR rc0) ⟨Nat.le_refl _, Nat.le_refl _⟩ dX8_gives_14 (fun ra7 H locs hM => ?_)
  refine m_iload_n (pc := 17) C dX8_gives_17 rfl (lv_at hl 3 rfl) ?_
  refine m_i2l (pc := 18) C rx2 dX8_gives_18 ?_
  obtain ⟨q9, h⟩ := ck_some h
  obtain ⟨μ10, eμ10, h⟩ := nm_some h
  refine m_last (pc := 19) C hM q9.1 q9.2.1  q9.2.2 (R32.to64 rx2) eμ10 dX8_gives_19 (fun H locs hM => ?_)
  refine m_iload_n (pc := 20) C dX8_gives_20 rfl (lv_at hl 0 rfl) ?_
  cases h
  exact m_iret (pc := 21) C hM ra4 dX8_gives_21
theorem hd_X8_gives : yX8_gives.cls ≠ "java/lang/invoke/MethodHandle" ∧ yX8_gives.cls ≠ "java/lang/invoke/VarHandle" ∧ (parseMethodDescriptor yX8_gives.desc).map (fun d => d.parameters.length) = some 2 := by decide +kernel

theorem V_X8_gives {p : Program} {l : Launch} {e : Env} {R : Room} {s : State} {m : MethodId} {args : Array Value} {below : List Frame} {meth : Method} {c : Code} {H : Heap} {locs : List Loc} {cells slots : Nat} {Q : State → Prop} {cc : ByteArray} {pc nL : Nat} {ls : Array Slot} {rest : List Value} {ret : Option FieldType} {nmm own : String} {E : gE} {μ μ1 : Mm} {index : Nat} (C : gCx p s m args meth c cc nL ret nmm own) (hM : MS E μ s H locs) {N : Nat} {x0 x1 x2 v : Int} (hc : f_X8_gives N x0 x1 x2 μ = some (v, μ1)) (rx1 : R32 x1) (rx2 : R32 x2) (hck : μ x0 (-2) = 10) (h1 : Cond.methodLink own index yX8_gives ∈ bigL) (hR : 2 ≤ R.frames ∧ 44 ≤ R.locals) (hl : ls.size = nL) (hcat : RC rest 8) (hf : cells + 0 ≤ R.cells ∧ slots + 0 ≤ R.slots) (hdg : decode cc pc = .ok (.invokevirtual index, 3)) (kk : (R32 v) → ∀ (H1 : Heap) (locs1 : List Loc), MS E μ1 s H1 locs1 → W p l e R s m args below meth c H1 locs1 (cells + 0) (slots + 0) Q (F0 m (pc + 3) ls (vi v :: rest))) : W p l e R s m args below meth c H locs cells slots Q (F0 m pc ls (vi x2 :: vi x1 :: vr E x0 :: rest)) := g_callV C KF_X8 hM (c_X8_gives l E N x0 x1 x2 μ μ1 v hc rx1 rx2) hck (gV h1 bw_6_21 bs_53 bw_1_13 bw_6_22) ⟨rfl, hd_X8_gives⟩ hR rfl hl rfl hcat hf hdg kk
/-! X8_call -/
def f_X8_call_b42 (N : Nat) (x0 x1 x2 x4 y0 : Int) (μ : Mm) : Rs :=
  ck (μ x0 (-2) = 10) <|
  nm (w32 (x4 + 1)) fun a2 =>
  ck (μ (μ x0 0) (-2) = 24 ∧ (0 : Int) ≤ a2 ∧ a2 < μ (μ x0 0) (-1)) <|
  nm (w64 ((μ (μ x0 0) a2) - y0)) fun a4 =>
  ck (μ (μ x0 0) (-2) = 24 ∧ (0 : Int) ≤ a2 ∧ a2 < μ (μ x0 0) (-1)) <|
  nm (mset μ (μ x0 0) a2 a4) fun μ6 =>
  ck (μ6 x0 (-2) = 10) <|
  nm (w32 (x4 + 2)) fun a8 =>
  ck (μ6 (μ6 x0 0) (-2) = 24 ∧ (0 : Int) ≤ a8 ∧ a8 < μ6 (μ6 x0 0) (-1)) <|
  nm (w64 (x2 - y0)) fun a10 =>
  nm (w64 ((μ6 (μ6 x0 0) a8) + a10)) fun a11 =>
  ck (μ6 (μ6 x0 0) (-2) = 24 ∧ (0 : Int) ≤ a8 ∧ a8 < μ6 (μ6 x0 0) (-1)) <|
  nm (mset μ6 (μ6 x0 0) a8 a11) fun μ13 =>
  ck (μ13 x0 (-2) = 10) <|
  nm (w32 (x4 + 3)) fun a15 =>
  ck (μ13 (μ13 x0 0) (-2) = 24 ∧ (0 : Int) ≤ a15 ∧ a15 < μ13 (μ13 x0 0) (-1)) <|
  nm (w64 ((μ13 (μ13 x0 0) a15) + x2)) fun a17 =>
  ck (μ13 (μ13 x0 0) (-2) = 24 ∧ (0 : Int) ≤ a15 ∧ a15 < μ13 (μ13 x0 0) (-1)) <|
  nm (mset μ13 (μ13 x0 0) a15 a17) fun μ19 =>
  ck (μ19 x0 (-2) = 10) <|
  bd (f_X8_lotAt N x1 μ19) fun a21 μ22 =>
  nm (w32 (a21 + 8)) fun a23 =>
  ck (μ22 (μ19 x0 0) (-2) = 24 ∧ (0 : Int) ≤ a23 ∧ a23 < μ22 (μ19 x0 0) (-1)) <|
  nm (w64 ((μ22 (μ19 x0 0) a23) + x2)) fun a25 =>
  ck (μ22 (μ19 x0 0) (-2) = 24 ∧ (0 : Int) ≤ a23 ∧ a23 < μ22 (μ19 x0 0) (-1)) <|
  nm (mset μ22 (μ19 x0 0) a23 a25) fun μ27 =>
  ck (μ27 x0 (-2) = 10) <|
  ck (μ27 (μ27 x0 0) (-2) = 24 ∧ (0 : Int) ≤ 10 ∧ 10 < μ27 (μ27 x0 0) (-1)) <|
  nm (w64 ((μ27 (μ27 x0 0) 10) + x2)) fun a30 =>
  ck (μ27 (μ27 x0 0) (-2) = 24 ∧ (0 : Int) ≤ 10 ∧ 10 < μ27 (μ27 x0 0) (-1)) <|
  nm (mset μ27 (μ27 x0 0) 10 a30) fun μ32 =>
  some (0, μ32)
def f_X8_call (N : Nat) (x0 x1 x2 : Int) (μ : Mm) : Rs :=
  ck (μ x0 (-2) = 10) <|
  bd (f_X8_lotAt N x1 μ) fun a2 μ3 =>
  ck (μ3 (μ x0 0) (-2) = 24 ∧ (0 : Int) ≤ a2 ∧ a2 < μ3 (μ x0 0) (-1)) <|
  nm (w32 (μ3 (μ x0 0) a2)) fun a5 =>
  bd (f_X8_ownerAt N a5 μ3) fun a6 μ7 =>
  ck (μ7 x0 (-2) = 10) <|
  nm (w32 (a6 + 1)) fun a9 =>
  ck (μ7 (μ7 x0 0) (-2) = 24 ∧ (0 : Int) ≤ a9 ∧ a9 < μ7 (μ7 x0 0) (-1)) <|
  if x2 ≤ (μ7 (μ7 x0 0) a9) then
    (f_X8_call_b42 N x0 x1 x2 a6 x2 μ7)
  else
  ck (μ7 x0 (-2) = 10) <|
  nm (w32 (a6 + 1)) fun a13 =>
  ck (μ7 (μ7 x0 0) (-2) = 24 ∧ (0 : Int) ≤ a13 ∧ a13 < μ7 (μ7 x0 0) (-1)) <|
  f_X8_call_b42 N x0 x1 x2 a6 (μ7 (μ7 x0 0) a13) μ7
set_option maxHeartbeats 4000000 in
set_option maxRecDepth 100000 in
theorem k_X8_call_b42 (C : gCx p s m args meth c cX8_call 7 none "call" RX8) (N : Nat) {r : Int} {μ' : Mm} : ∀ (x0 x1 x2 x4 y0 : Int) (μ : Mm), f_X8_call_b42 N x0 x1 x2 x4 y0 μ = some (r, μ') → R32 x1 → R64 x2 → R32 x4 → R64 y0 → ∀ (H : Heap) (locs : List Loc) (ls : Array Slot), MS E μ s H locs → lv_has ls 7 [(0, vr E x0), (1, vi x1), (2, vl x2), (4, vi x4)] → W p l e ({ frames := 1, cells := 0, slots := 0, locals := 20 } : Room) s m args below meth c H locs 0 0 (MQ below (gQ E none True μ') args s 0 0 (gA E)) (F0 m 42 ls [vl y0]) := by
  intro x0 x1 x2 x4 y0 μ h rx1 rx2 rx4 ry0 H locs ls hM hl
  unfold f_X8_call_b42 at h
  refine m_lstore (pc := 42) C dX8_call_42 hl (by decide) (lvK1 0 rfl (Nat.ne_of_beq_eq_false rfl) (Nat.ne_of_beq_eq_false rfl) (lvK1 1 rfl (Nat.ne_of_beq_eq_false rfl) (Nat.ne_of_beq_eq_false rfl) (lvK1 2 rfl (Nat.ne_of_beq_eq_false rfl) (Nat.ne_of_beq_eq_false rfl) (lvK2 3 rfl (Nat.ne_of_beq_eq_false rfl) rfl lvK0)))) (lvN1 (Nat.ne_of_beq_eq_false rfl) (lvN1 (Nat.ne_of_beq_eq_false rfl) (lvN1 (Nat.ne_of_beq_eq_false rfl) (lvN1 (Nat.ne_of_beq_eq_false rfl) lvN0)))) (fun ls hl => ?_)
  refine m_aload_n (pc := 44) C dX8_call_44 rfl (lv_at hl 1 rfl) ?_
  obtain ⟨q1, h⟩ := ck_some h
  refine G_X8_now (pc := 45) C hM bw_4_227 q1 dX8_call_45 ?_
  refine m_iload (pc := 48) C dX8_call_48 (lv_at hl 4 rfl) ?_
  refine m_iconst (pc := 50) C dX8_call_50 ?_
  obtain ⟨a2, ea2, h⟩ := nm_some h
  have ra2 : R32 a2 := by rw [ea2]; exact w32_R _
  refine m_iadd (pc := 51) C dX8_call_51 ea2 ?_
  refine m_dup2 (pc := 52) C rfl (vr_cat _ _) dX8_call_52 ?_
  obtain ⟨q3, h⟩ := ck_some h
  have gq3 := Ar_lald hM q3.1 q3.2.1 q3.2.2
  refine m_lald (pc := 53) C hM q3.1 q3.2.1 q3.2.2 dX8_call_53 ?_
  refine m_lload (pc := 54) C dX8_call_54 (lv_at hl 0 rfl) ?_
  obtain ⟨a4, ea4, h⟩ := nm_some h
  have ra4 : R64 a4 := by rw [ea4]; exact w64_R _
  refine m_lsub (pc := 56) C dX8_call_56 ea4 ?_
  obtain ⟨q5, h⟩ := ck_some h
  obtain ⟨μ6, eμ6, h⟩ := nm_some h
  refine m_last (pc := 57) C hM q5.1 q5.2.1  q5.2.2 ra4 eμ6 dX8_call_57 (fun H locs hM => ?_)
  refine m_aload_n (pc := 58) C dX8_call_58 rfl (lv_at hl 1 rfl) ?_
  obtain ⟨q7, h⟩ := ck_some h
  refine G_X8_now (pc := 59) C hM bw_4_227 q7 dX8_call_59 ?_
  refine m_iload (pc := 62) C dX8_call_62 (lv_at hl 4 rfl) ?_
  refine m_iconst (pc := 64) C dX8_call_64 ?_
  obtain ⟨a8, ea8, h⟩ := nm_some h
  have ra8 : R32 a8 := by rw [ea8]; exact w32_R _
  refine m_iadd (pc := 65) C dX8_call_65 ea8 ?_
  refine m_dup2 (pc := 66) C rfl (vr_cat _ _) dX8_call_66 ?_
  obtain ⟨q9, h⟩ := ck_some h
  have gq9 := Ar_lald hM q9.1 q9.2.1 q9.2.2
  refine m_lald (pc := 67) C hM q9.1 q9.2.1 q9.2.2 dX8_call_67 ?_
  refine m_lload_n (pc := 68) C dX8_call_68 rfl (lv_at hl 3 rfl) ?_
  refine m_lload (pc := 69) C dX8_call_69 (lv_at hl 0 rfl) ?_
  obtain ⟨a10, ea10, h⟩ := nm_some h
  have ra10 : R64 a10 := by rw [ea10]; exact w64_R _
  refine m_lsub (pc := 71) C dX8_call_71 ea10 ?_
  obtain ⟨a11, ea11, h⟩ := nm_some h
  have ra11 : R64 a11 := by rw [ea11]; exact w64_R _
  refine m_ladd (pc := 72) C dX8_call_72 ea11 ?_
  obtain ⟨q12, h⟩ := ck_some h
  obtain ⟨μ13, eμ13, h⟩ := nm_some h
  refine m_last (pc := 73) C hM q12.1 q12.2.1  q12.2.2 ra11 eμ13 dX8_call_73 (fun H locs hM => ?_)
  refine m_aload_n (pc := 74) C dX8_call_74 rfl (lv_at hl 1 rfl) ?_
  obtain ⟨q14, h⟩ := ck_some h
  refine G_X8_now (pc := 75) C hM bw_4_227 q14 dX8_call_75 ?_
  refine m_iload (pc := 78) C dX8_call_78 (lv_at hl 4 rfl) ?_
  refine m_iconst (pc := 80) C dX8_call_80 ?_
  obtain ⟨a15, ea15, h⟩ := nm_some h
  have ra15 : R32 a15 := by rw [ea15]; exact w32_R _
  refine m_iadd (pc := 81) C dX8_call_81 ea15 ?_
  refine m_dup2 (pc := 82) C rfl (vr_cat _ _) dX8_call_82 ?_
  obtain ⟨q16, h⟩ := ck_some h
  have gq16 := Ar_lald hM q16.1 q16.2.1 q16.2.2
  refine m_lald (pc := 83) C hM q16.1 q16.2.1 q16.2.2 dX8_call_83 ?_
  refine m_lload_n (pc := 84) C dX8_call_84 rfl (lv_at hl 3 rfl) ?_
  obtain ⟨a17, ea17, h⟩ := nm_some h
  have ra17 : R64 a17 := by rw [ea17]; exact w64_R _
  refine m_ladd (pc := 85) C dX8_call_85 ea17 ?_
  obtain ⟨q18, h⟩ := ck_some h
  obtain ⟨μ19, eμ19, h⟩ := nm_some h
  refine m_last (pc := 86) C hM q18.1 q18.2.1  q18.2.2 ra17 eμ19 dX8_call_86 (fun H locs hM => ?_)
  refine m_aload_n (pc := 87) C dX8_call_87 rfl (lv_at hl 1 rfl) ?_
  obtain ⟨q20, h⟩ := ck_some h
  refine G_X8_now (pc := 88) C hM bw_4_227 q20 dX8_call_88 ?_
  refine m_iload_n (pc := 91) C dX8_call_91 rfl (lv_at hl 2 rfl) ?_
  obtain ⟨a21, μ22, ca21, h⟩ := bd_some h
  refine V_X8_lotAt (pc := 92) C hM ca21 rx1 bw_5_87 ⟨Nat.le_of_ble_eq_true rfl, Nat.le_of_ble_eq_true rfl⟩ hl.1 (rcR rc0) ⟨Nat.le_refl _, Nat.le_refl _⟩ dX8_call_92 (fun ra21 H locs hM => ?_)
  refine m_bipush (pc := 95) C dX8_call_95 rfl ?_
  obtain ⟨a23, ea23, h⟩ := nm_some h
  have ra23 : R32 a23 := by rw [ea23]; exact w32_R _
  refine m_iadd (pc := 97) C dX8_call_97 ea23 ?_
  refine m_dup2 (pc := 98) C rfl (vr_cat _ _) dX8_call_98 ?_
  obtain ⟨q24, h⟩ := ck_some h
  have gq24 := Ar_lald hM q24.1 q24.2.1 q24.2.2
  refine m_lald (pc := 99) C hM q24.1 q24.2.1 q24.2.2 dX8_call_99 ?_
  refine m_lload_n (pc := 100) C dX8_call_100 rfl (lv_at hl 3 rfl) ?_
  obtain ⟨a25, ea25, h⟩ := nm_some h
  have ra25 : R64 a25 := by rw [ea25]; exact w64_R _
  refine m_ladd (pc := 101) C dX8_call_101 ea25 ?_
  obtain ⟨q26, h⟩ := ck_some h
  obtain ⟨μ27, eμ27, h⟩ := nm_some h
  refine m_last (pc := 102) C hM q26.1 q26.2.1  q26.2.2 ra25 eμ27 dX8_call_102 (fun H locs hM => ?_)
  refine m_aload_n (pc := 103) C dX8_call_103 rfl (lv_at hl 1 rfl) ?_
  obtain ⟨q28, h⟩ := ck_some h
  refine G_X8_now (pc := 104) C hM bw_4_227 q28 dX8_call_104 ?_
  refine m_bipush (pc := 107) C dX8_call_107 rfl ?_
  refine m_dup2 (pc := 109) C rfl (vr_cat _ _) dX8_call_109 ?_
  obtain ⟨q29, h⟩ := ck_some h
  have gq29 := Ar_lald hM q29.1 q29.2.1 q29.2.2
  refine m_lald (pc := 110) C hM q29.1 q29.2.1 q29.2.2 dX8_call_110 ?_
  refine m_lload_n (pc := 111) C dX8_call_111 rfl (lv_at hl 3 rfl) ?_
  obtain ⟨a30, ea30, h⟩ := nm_some h
  have ra30 : R64 a30 := by rw [ea30]; exact w64_R _
  refine m_ladd (pc := 112) C dX8_call_112 ea30 ?_
  obtain ⟨q31, h⟩ := ck_some h
  obtain ⟨μ32, eμ32, h⟩ := nm_some h
  refine m_last (pc := 113) C hM q31.1 q31.2.1  q31.2.2 ra30 eμ32 dX8_call_113 (fun H locs hM => ?_)
  cases h
  exact m_vret (pc := 114) C hM trivial dX8_call_114
set_option maxHeartbeats 4000000 in
set_option maxRecDepth 100000 in
theorem c_X8_call (l : Launch) (E : gE) (N : Nat) (x0 x1 x2 : Int) (μ μ' : Mm) (r : Int) (h : f_X8_call N x0 x1 x2 μ = some (r, μ')) (rx1 : R32 x1) (rx2 : R64 x2) : gMet l E yX8_call cX8_call 7 none 1 20 [vr E x0, vi x1, vl x2] none True μ μ' 0 0 := by
  refine g_ofW [1, 1, 2] (by first | (simp only [List.map_cons, List.map_nil, vr_cat]; done) | (simp only [List.map_cons, List.map_nil, vr_cat]; rfl)) (by decide) (by decide) (fun p e s m below meth c ls C hM hl => ?_)
  replace C : gCx p s m _ meth c cX8_call 7 none "call" RX8 := C
  replace hl : lv_has ls 7 [(0, vr E x0), (1, vi x1), (2, vl x2)] := hl
  unfold f_X8_call at h
  refine m_aload_n (pc := 0) C dX8_call_0 rfl (lv_at hl 0 rfl) ?_
  obtain ⟨q1, h⟩ := ck_some h
  refine G_X8_now (pc := 1) C hM bw_4_227 q1 dX8_call_1 ?_
  refine m_iload_n (pc := 4) C dX8_call_4 rfl (lv_at hl 1 rfl) ?_
  obtain ⟨a2, μ3, ca2, h⟩ := bd_some h
  refine V_X8_lotAt (pc := 5) C hM ca2 rx1 bw_5_87 ⟨Nat.le_of_ble_eq_true rfl, Nat.le_of_ble_eq_true rfl⟩ hl.1 (rcR rc0) ⟨Nat.le_refl _, Nat.le_refl _⟩ dX8_call_5 (fun ra2 H locs hM => ?_)
  obtain ⟨q4, h⟩ := ck_some h
  have gq4 := Ar_lald hM q4.1 q4.2.1 q4.2.2
  refine m_lald (pc := 8) C hM q4.1 q4.2.1 q4.2.2 dX8_call_8 ?_
  obtain ⟨a5, ea5, h⟩ := nm_some h
  have ra5 : R32 a5 := by rw [ea5]; exact w32_R _
  refine m_l2i (pc := 9) C dX8_call_9 ea5 ?_
  obtain ⟨a6, μ7, ca6, h⟩ := bd_some h
  refine V_X8_ownerAt (pc := 10) C hM ca6 ra5 bw_5_65 ⟨Nat.le_of_ble_eq_true rfl, Nat.le_of_ble_eq_true rfl⟩ hl.1 rc0 ⟨Nat.le_refl _, Nat.le_refl _⟩ dX8_call_10 (fun ra6 H locs hM => ?_)
  refine m_istore (pc := 13) C dX8_call_13 hl (by decide) (lvK1 0 rfl (Nat.ne_of_beq_eq_false rfl) (Nat.ne_of_beq_eq_false rfl) (lvK1 1 rfl (Nat.ne_of_beq_eq_false rfl) (Nat.ne_of_beq_eq_false rfl) (lvK1 2 rfl (Nat.ne_of_beq_eq_false rfl) (Nat.ne_of_beq_eq_false rfl) lvK0))) (fun ls hl => ?_)
  refine m_aload_n (pc := 15) C dX8_call_15 rfl (lv_at hl 1 rfl) ?_
  obtain ⟨q8, h⟩ := ck_some h
  refine G_X8_now (pc := 16) C hM bw_4_227 q8 dX8_call_16 ?_
  refine m_iload (pc := 19) C dX8_call_19 (lv_at hl 0 rfl) ?_
  refine m_iconst (pc := 21) C dX8_call_21 ?_
  obtain ⟨a9, ea9, h⟩ := nm_some h
  have ra9 : R32 a9 := by rw [ea9]; exact w32_R _
  refine m_iadd (pc := 22) C dX8_call_22 ea9 ?_
  obtain ⟨q10, h⟩ := ck_some h
  have gq10 := Ar_lald hM q10.1 q10.2.1 q10.2.2
  refine m_lald (pc := 23) C hM q10.1 q10.2.1 q10.2.2 dX8_call_23 ?_
  refine m_lload_n (pc := 24) C dX8_call_24 rfl (lv_at hl 3 rfl) ?_
  refine m_lcmp_ge (tgt := 41) (pc := 25) C gq10 rx2 dX8_call_25 dX8_call_26 (by decide) (fun c11 => ?_) (fun c11 => ?_)
  · have h := if_t h c11
    refine m_lload_n (pc := 41) C dX8_call_41 rfl (lv_at hl 3 rfl) ?_
    exact k_X8_call_b42 C N _ _ _ _ _ _ h rx1 rx2 ra6 rx2 _ _ _ hM (lv_sub hl [1, 2, 3, 0] rfl)
  · have h := if_f h c11
    refine m_aload_n (pc := 29) C dX8_call_29 rfl (lv_at hl 1 rfl) ?_
    obtain ⟨q12, h⟩ := ck_some h
    refine G_X8_now (pc := 30) C hM bw_4_227 q12 dX8_call_30 ?_
    refine m_iload (pc := 33) C dX8_call_33 (lv_at hl 0 rfl) ?_
    refine m_iconst (pc := 35) C dX8_call_35 ?_
    obtain ⟨a13, ea13, h⟩ := nm_some h
    have ra13 : R32 a13 := by rw [ea13]; exact w32_R _
    refine m_iadd (pc := 36) C dX8_call_36 ea13 ?_
    obtain ⟨q14, h⟩ := ck_some h
    have gq14 := Ar_lald hM q14.1 q14.2.1 q14.2.2
    refine m_lald (pc := 37) C hM q14.1 q14.2.1 q14.2.2 dX8_call_37 ?_
    refine m_goto (tgt := 42) (pc := 38) C dX8_call_38 (by decide) ?_
    exact k_X8_call_b42 C N _ _ _ _ _ _ h rx1 rx2 ra6 gq14 _ _ _ hM (lv_sub hl [1, 2, 3, 0] rfl)
theorem hd_X8_call : yX8_call.cls ≠ "java/lang/invoke/MethodHandle" ∧ yX8_call.cls ≠ "java/lang/invoke/VarHandle" ∧ (parseMethodDescriptor yX8_call.desc).map (fun d => d.parameters.length) = some 2 := by decide +kernel

theorem V_X8_call {p : Program} {l : Launch} {e : Env} {R : Room} {s : State} {m : MethodId} {args : Array Value} {below : List Frame} {meth : Method} {c : Code} {H : Heap} {locs : List Loc} {cells slots : Nat} {Q : State → Prop} {cc : ByteArray} {pc nL : Nat} {ls : Array Slot} {rest : List Value} {ret : Option FieldType} {nmm own : String} {E : gE} {μ μ1 : Mm} {index : Nat} (C : gCx p s m args meth c cc nL ret nmm own) (hM : MS E μ s H locs) {N : Nat} {x0 x1 x2 v : Int} (hc : f_X8_call N x0 x1 x2 μ = some (v, μ1)) (rx1 : R32 x1) (rx2 : R64 x2) (hck : μ x0 (-2) = 10) (h1 : Cond.methodLink own index yX8_call ∈ bigL) (hR : 2 ≤ R.frames ∧ 46 ≤ R.locals) (hl : ls.size = nL) (hcat : RC rest 8) (hf : cells + 0 ≤ R.cells ∧ slots + 0 ≤ R.slots) (hdg : decode cc pc = .ok (.invokevirtual index, 3)) (kk : True → ∀ (H1 : Heap) (locs1 : List Loc), MS E μ1 s H1 locs1 → W p l e R s m args below meth c H1 locs1 (cells + 0) (slots + 0) Q (F0 m (pc + 3) ls rest)) : W p l e R s m args below meth c H locs cells slots Q (F0 m pc ls (vl x2 :: vi x1 :: vr E x0 :: rest)) := g_callV C KF_X8 hM (c_X8_call l E N x0 x1 x2 μ μ1 v hc rx1 rx2) hck (gV h1 bw_6_34 bs_55 bw_1_13 bw_6_35) ⟨rfl, hd_X8_call⟩ hR rfl hl rfl hcat hf hdg kk
/-! X8_passes -/
def f_X8_passes_b125 (N : Nat) (k11 : Int → Int → Int → Int → Mm → Rs) : Nat → Int → Int → Int → Int → Int → Mm → Rs
  | 0, _, _, _, _, _, _ => none
  | n + 1, x0, x1, x2, x4, x5, μ =>
    ck (μ x0 (-2) = 10) <|
    ck (μ (μ x0 0) (-2) = 24 ∧ (0 : Int) ≤ 2 ∧ 2 < μ (μ x0 0) (-1)) <|
    if (μ (μ x0 0) 2) ≤ x5 then
      (nm (w32 (x4 + 1)) fun a4 =>
       k11 x0 x1 x2 a4 μ)
    else
    ck (μ x0 (-2) = 10) <|
    bd (f_X8_units N x0 x5 μ) fun a6 μ7 =>
    if a6 ≤ 0 then
      (nm (w32 (x5 + 1)) fun a9 =>
       f_X8_passes_b125 N k11 n x0 x1 x2 x4 a9 μ7)
    else
    ck (μ7 x0 (-2) = 10) <|
    bd (f_X8_lotAt N x5 μ7) fun a11 μ12 =>
    nm (w32 (a11 + 5)) fun a13 =>
    ck (μ12 (μ7 x0 0) (-2) = 24 ∧ (0 : Int) ≤ a13 ∧ a13 < μ12 (μ7 x0 0) (-1)) <|
    ck (μ12 x0 (-2) = 10) <|
    ck (μ12 (μ12 x0 0) (-2) = 24 ∧ (0 : Int) ≤ 0 ∧ 0 < μ12 (μ12 x0 0) (-1)) <|
    if (μ12 (μ12 x0 0) 0) ≤ (μ12 (μ7 x0 0) a13) then
      (nm (w32 (x5 + 1)) fun a18 =>
       f_X8_passes_b125 N k11 n x0 x1 x2 x4 a18 μ12)
    else
    ck (μ12 x0 (-2) = 10) <|
    bd (f_X8_units N x0 x5 μ12) fun a20 μ21 =>
    ck (μ21 x0 (-2) = 10) <|
    bd (f_X8_dutyNow N x0 x5 a20 μ21) fun a23 μ24 =>
    ck (μ24 x0 (-2) = 10) <|
    bd (f_X8_units N x0 x5 μ24) fun a26 μ27 =>
    ck (μ27 x0 (-2) = 10) <|
    bd (f_X8_take N x0 x5 a26 μ27) fun a29 μ30 =>
    ck (μ30 x0 (-2) = 10) <|
    ck (μ30 (μ30 x0 0) (-2) = 24 ∧ (0 : Int) ≤ 4 ∧ 4 < μ30 (μ30 x0 0) (-1)) <|
    nm (w64 ((μ30 (μ30 x0 0) 4) + 1)) fun a33 =>
    ck (μ30 (μ30 x0 0) (-2) = 24 ∧ (0 : Int) ≤ 4 ∧ 4 < μ30 (μ30 x0 0) (-1)) <|
    nm (mset μ30 (μ30 x0 0) 4 a33) fun μ35 =>
    ck (μ35 x0 (-2) = 10) <|
    bd (f_X8_call N x0 x5 a23 μ35) fun a37 μ38 =>
    nm (w32 (x5 + 1)) fun a39 =>
    f_X8_passes_b125 N k11 n x0 x1 x2 x4 a39 μ38
def f_X8_passes_b30 (N : Nat) (k11 : Int → Int → Int → Int → Mm → Rs) : Nat → Int → Int → Int → Int → Int → Mm → Rs
  | 0, _, _, _, _, _, _ => none
  | n + 1, x0, x1, x2, x4, x5, μ =>
    ck (μ x0 (-2) = 10) <|
    ck (μ (μ x0 0) (-2) = 24 ∧ (0 : Int) ≤ 3 ∧ 3 < μ (μ x0 0) (-1)) <|
    if (μ (μ x0 0) 3) ≤ x5 then
      (f_X8_passes_b125 N k11 N x0 x1 x2 x4 0 μ)
    else
    ck (μ x0 (-2) = 10) <|
    bd (f_X8_waits N x0 x5 μ) fun a5 μ6 =>
    if a5 = 0 then
      (nm (w32 (x5 + 1)) fun a8 =>
       f_X8_passes_b30 N k11 n x0 x1 x2 x4 a8 μ6)
    else
    ck (μ6 x0 (-2) = 10) <|
    bd (f_X8_exportAt N x5 μ6) fun a10 μ11 =>
    nm (w32 (a10 + 3)) fun a12 =>
    ck (μ11 (μ6 x0 0) (-2) = 24 ∧ (0 : Int) ≤ a12 ∧ a12 < μ11 (μ6 x0 0) (-1)) <|
    ck (μ11 x0 (-2) = 10) <|
    ck (μ11 (μ11 x0 0) (-2) = 24 ∧ (0 : Int) ≤ 0 ∧ 0 < μ11 (μ11 x0 0) (-1)) <|
    if (μ11 (μ11 x0 0) 0) ≤ (μ11 (μ6 x0 0) a12) then
      (nm (w32 (x5 + 1)) fun a17 =>
       f_X8_passes_b30 N k11 n x0 x1 x2 x4 a17 μ11)
    else
    ck (μ11 x0 (-2) = 10) <|
    bd (f_X8_exportAt N x5 μ11) fun a19 μ20 =>
    nm (w32 (a19 + 4)) fun a21 =>
    ck (μ20 (μ11 x0 0) (-2) = 24 ∧ (0 : Int) ≤ a21 ∧ a21 < μ20 (μ11 x0 0) (-1)) <|
    nm (mset μ20 (μ11 x0 0) a21 2) fun μ23 =>
    ck (μ23 x0 (-2) = 10) <|
    bd (f_X8_exportAt N x5 μ23) fun a25 μ26 =>
    ck (μ26 (μ23 x0 0) (-2) = 24 ∧ (0 : Int) ≤ a25 ∧ a25 < μ26 (μ23 x0 0) (-1)) <|
    nm (w32 (μ26 (μ23 x0 0) a25)) fun a28 =>
    ck (μ26 x0 (-2) = 10) <|
    bd (f_X8_exportAt N x5 μ26) fun a30 μ31 =>
    nm (w32 (a30 + 2)) fun a32 =>
    ck (μ31 (μ26 x0 0) (-2) = 24 ∧ (0 : Int) ≤ a32 ∧ a32 < μ31 (μ26 x0 0) (-1)) <|
    ck (μ31 x0 (-2) = 10) <|
    bd (f_X8_call N x0 a28 (μ31 (μ26 x0 0) a32) μ31) fun a35 μ36 =>
    nm (w32 (x5 + 1)) fun a37 =>
    f_X8_passes_b30 N k11 n x0 x1 x2 x4 a37 μ36
def f_X8_passes_b11 (N : Nat) : Nat → Int → Int → Int → Int → Mm → Rs
  | 0, _, _, _, _, _ => none
  | n + 1, x0, x1, x2, x4, μ =>
    if x1 ≤ x4 then
      (ck (μ x0 (-2) = 10) <|
       ck (μ (μ x0 0) (-2) = 24 ∧ (0 : Int) ≤ 10 ∧ 10 < μ (μ x0 0) (-1)) <|
       nm (w64 ((μ (μ x0 0) 10) - x2)) fun a4 =>
       nm (w32 a4) fun a5 =>
       some (a5, μ))
    else
    ck (μ x0 (-2) = 10) <|
    ck (μ (μ x0 0) (-2) = 24 ∧ (0 : Int) ≤ 0 ∧ 0 < μ (μ x0 0) (-1)) <|
    nm (w64 ((μ (μ x0 0) 0) + 1)) fun a8 =>
    ck (μ (μ x0 0) (-2) = 24 ∧ (0 : Int) ≤ 0 ∧ 0 < μ (μ x0 0) (-1)) <|
    nm (mset μ (μ x0 0) 0 a8) fun μ10 =>
    f_X8_passes_b30 N (f_X8_passes_b11 N n) N x0 x1 x2 x4 0 μ10
def f_X8_passes (N : Nat) (x0 x1 : Int) (μ : Mm) : Rs :=
  ck (μ x0 (-2) = 10) <|
  ck (μ (μ x0 0) (-2) = 24 ∧ (0 : Int) ≤ 10 ∧ 10 < μ (μ x0 0) (-1)) <|
  f_X8_passes_b11 N N x0 x1 (μ (μ x0 0) 10) 0 μ
set_option maxHeartbeats 4000000 in
set_option maxRecDepth 100000 in
theorem k_X8_passes_b125 (C : gCx p s m args meth c cX8_passes 8 (some .int) "passes" RX8) (N : Nat) {r : Int} {μ' : Mm} (k11 : Int → Int → Int → Int → Mm → Rs) (hk11 : ∀ (x0 x1 x2 x4 : Int) (μ : Mm), k11 x0 x1 x2 x4 μ = some (r, μ') → R32 x1 → R64 x2 → R32 x4 → ∀ (H : Heap) (locs : List Loc) (ls : Array Slot), MS E μ s H locs → lv_has ls 8 [(0, vr E x0), (1, vi x1), (2, vl x2), (4, vi x4)] → W p l e ({ frames := 3, cells := 0, slots := 0, locals := 72 } : Room) s m args below meth c H locs 0 0 (MQ below (gQ E (some (vi r)) (R32 r) μ') args s 0 0 (gA E)) (F0 m 11 ls [])) : ∀ (n : Nat), ∀ (x0 x1 x2 x4 x5 : Int) (μ : Mm), f_X8_passes_b125 N k11 n x0 x1 x2 x4 x5 μ = some (r, μ') → R32 x1 → R64 x2 → R32 x4 → R32 x5 → ∀ (H : Heap) (locs : List Loc) (ls : Array Slot), MS E μ s H locs → lv_has ls 8 [(0, vr E x0), (1, vi x1), (2, vl x2), (4, vi x4), (5, vi x5)] → W p l e ({ frames := 3, cells := 0, slots := 0, locals := 72 } : Room) s m args below meth c H locs 0 0 (MQ below (gQ E (some (vi r)) (R32 r) μ') args s 0 0 (gA E)) (F0 m 125 ls []) := by
  intro n
  induction n with
  | zero => intro x0 x1 x2 x4 x5 μ h; simp [f_X8_passes_b125] at h
  | succ n ih =>
    intro x0 x1 x2 x4 x5 μ h rx1 rx2 rx4 rx5 H locs ls hM hl
    rw [f_X8_passes_b125] at h
    refine m_iload (pc := 125) C dX8_passes_125 (lv_at hl 4 rfl) ?_
    refine m_i2l (pc := 127) C rx5 dX8_passes_127 ?_
    refine m_aload_n (pc := 128) C dX8_passes_128 rfl (lv_at hl 0 rfl) ?_
    obtain ⟨q1, h⟩ := ck_some h
    refine G_X8_now (pc := 129) C hM bw_4_227 q1 dX8_passes_129 ?_
    refine m_iconst (pc := 132) C dX8_passes_132 ?_
    obtain ⟨q2, h⟩ := ck_some h
    have gq2 := Ar_lald hM q2.1 q2.2.1 q2.2.2
    refine m_lald (pc := 133) C hM q2.1 q2.2.1 q2.2.2 dX8_passes_133 ?_
    refine m_lcmp_ge (tgt := 221) (pc := 134) C (R32.to64 rx5) gq2 dX8_passes_134 dX8_passes_135 (by decide) (fun c3 => ?_) (fun c3 => ?_)
    · have h := if_t h c3
      obtain ⟨a4, ea4, h⟩ := nm_some h
      have ra4 : R32 a4 := by rw [ea4]; exact w32_R _
      refine m_iinc (k := 3) (pc := 221) C dX8_passes_221 hl rfl (by decide) ea4 (lvK1 0 rfl (Nat.ne_of_beq_eq_false rfl) (Nat.ne_of_beq_eq_false rfl) (lvK1 1 rfl (Nat.ne_of_beq_eq_false rfl) (Nat.ne_of_beq_eq_false rfl) (lvK1 2 rfl (Nat.ne_of_beq_eq_false rfl) (Nat.ne_of_beq_eq_false rfl) lvK0))) (fun ls hl => ?_)
      refine m_goto (tgt := 11) (pc := 224) C dX8_passes_224 (by decide) ?_
      exact hk11 _ _ _ _ _ h rx1 rx2 ra4 _ _ _ hM (lv_sub hl [1, 2, 3, 0] rfl)
    · have h := if_f h c3
      refine m_aload_n (pc := 138) C dX8_passes_138 rfl (lv_at hl 0 rfl) ?_
      refine m_iload (pc := 139) C dX8_passes_139 (lv_at hl 4 rfl) ?_
      obtain ⟨q5, h⟩ := ck_some h
      obtain ⟨a6, μ7, ca6, h⟩ := bd_some h
      refine V_X8_units (pc := 141) C hM ca6 rx5 q5 bw_5_94 ⟨Nat.le_of_ble_eq_true rfl, Nat.le_of_ble_eq_true rfl⟩ hl.1 rc0 ⟨Nat.le_refl _, Nat.le_refl _⟩ dX8_passes_141 (fun ra6 H locs hM => ?_)
      refine m_lconst (v := 0) (pc := 144) C dX8_passes_144 rfl ?_
      refine m_lcmp_le (tgt := 215) (pc := 145) C ra6 rl_0 dX8_passes_145 dX8_passes_146 (by decide) (fun c8 => ?_) (fun c8 => ?_)
      · have h := if_t h c8
        obtain ⟨a9, ea9, h⟩ := nm_some h
        have ra9 : R32 a9 := by rw [ea9]; exact w32_R _
        refine m_iinc (k := 4) (pc := 215) C dX8_passes_215 hl rfl (by decide) ea9 (lvK1 0 rfl (Nat.ne_of_beq_eq_false rfl) (Nat.ne_of_beq_eq_false rfl) (lvK1 1 rfl (Nat.ne_of_beq_eq_false rfl) (Nat.ne_of_beq_eq_false rfl) (lvK1 2 rfl (Nat.ne_of_beq_eq_false rfl) (Nat.ne_of_beq_eq_false rfl) (lvK2 3 rfl (Nat.ne_of_beq_eq_false rfl) rfl lvK0)))) (fun ls hl => ?_)
        refine m_goto (tgt := 125) (pc := 218) C dX8_passes_218 (by decide) ?_
        exact ih _ _ _ _ _ _ h rx1 rx2 rx4 ra9 _ _ _ hM (lv_sub hl [1, 2, 3, 4, 0] rfl)
      · have h := if_f h c8
        refine m_aload_n (pc := 149) C dX8_passes_149 rfl (lv_at hl 0 rfl) ?_
        obtain ⟨q10, h⟩ := ck_some h
        refine G_X8_now (pc := 150) C hM bw_4_227 q10 dX8_passes_150 ?_
        refine m_iload (pc := 153) C dX8_passes_153 (lv_at hl 4 rfl) ?_
        obtain ⟨a11, μ12, ca11, h⟩ := bd_some h
        refine V_X8_lotAt (pc := 155) C hM ca11 rx5 bw_5_87 ⟨Nat.le_of_ble_eq_true rfl, Nat.le_of_ble_eq_true rfl⟩ hl.1 (rcR rc0) ⟨Nat.le_refl _, Nat.le_refl _⟩ dX8_passes_155 (fun ra11 H locs hM => ?_)
        refine m_iconst (pc := 158) C dX8_passes_158 ?_
        obtain ⟨a13, ea13, h⟩ := nm_some h
        have ra13 : R32 a13 := by rw [ea13]; exact w32_R _
        refine m_iadd (pc := 159) C dX8_passes_159 ea13 ?_
        obtain ⟨q14, h⟩ := ck_some h
        have gq14 := Ar_lald hM q14.1 q14.2.1 q14.2.2
        refine m_lald (pc := 160) C hM q14.1 q14.2.1 q14.2.2 dX8_passes_160 ?_
        refine m_aload_n (pc := 161) C dX8_passes_161 rfl (lv_at hl 0 rfl) ?_
        obtain ⟨q15, h⟩ := ck_some h
        refine G_X8_now (pc := 162) C hM bw_4_227 q15 dX8_passes_162 ?_
        refine m_iconst (pc := 165) C dX8_passes_165 ?_
        obtain ⟨q16, h⟩ := ck_some h
        have gq16 := Ar_lald hM q16.1 q16.2.1 q16.2.2
        refine m_lald (pc := 166) C hM q16.1 q16.2.1 q16.2.2 dX8_passes_166 ?_
        refine m_lcmp_ge (tgt := 215) (pc := 167) C gq14 gq16 dX8_passes_167 dX8_passes_168 (by decide) (fun c17 => ?_) (fun c17 => ?_)
        · have h := if_t h c17
          obtain ⟨a18, ea18, h⟩ := nm_some h
          have ra18 : R32 a18 := by rw [ea18]; exact w32_R _
          refine m_iinc (k := 4) (pc := 215) C dX8_passes_215 hl rfl (by decide) ea18 (lvK1 0 rfl (Nat.ne_of_beq_eq_false rfl) (Nat.ne_of_beq_eq_false rfl) (lvK1 1 rfl (Nat.ne_of_beq_eq_false rfl) (Nat.ne_of_beq_eq_false rfl) (lvK1 2 rfl (Nat.ne_of_beq_eq_false rfl) (Nat.ne_of_beq_eq_false rfl) (lvK2 3 rfl (Nat.ne_of_beq_eq_false rfl) rfl lvK0)))) (fun ls hl => ?_)
          refine m_goto (tgt := 125) (pc := 218) C dX8_passes_218 (by decide) ?_
          exact ih _ _ _ _ _ _ h rx1 rx2 rx4 ra18 _ _ _ hM (lv_sub hl [1, 2, 3, 4, 0] rfl)
        · have h := if_f h c17
          refine m_aload_n (pc := 171) C dX8_passes_171 rfl (lv_at hl 0 rfl) ?_
          refine m_iload (pc := 172) C dX8_passes_172 (lv_at hl 4 rfl) ?_
          refine m_aload_n (pc := 174) C dX8_passes_174 rfl (lv_at hl 0 rfl) ?_
          refine m_iload (pc := 175) C dX8_passes_175 (lv_at hl 4 rfl) ?_
          obtain ⟨q19, h⟩ := ck_some h
          obtain ⟨a20, μ21, ca20, h⟩ := bd_some h
          refine V_X8_units (pc := 177) C hM ca20 rx5 q19 bw_5_94 ⟨Nat.le_of_ble_eq_true rfl, Nat.le_of_ble_eq_true rfl⟩ hl.1 (rcI (rcR rc0)) ⟨Nat.le_refl _, Nat.le_refl _⟩ dX8_passes_177 (fun ra20 H locs hM => ?_)
          obtain ⟨q22, h⟩ := ck_some h
          obtain ⟨a23, μ24, ca23, h⟩ := bd_some h
          refine V_X8_dutyNow (pc := 180) C hM ca23 rx5 ra20 q22 bw_5_98 ⟨Nat.le_of_ble_eq_true rfl, Nat.le_of_ble_eq_true rfl⟩ hl.1 rc0 ⟨Nat.le_refl _, Nat.le_refl _⟩ dX8_passes_180 (fun ra23 H locs hM => ?_)
          refine m_lstore (pc := 183) C dX8_passes_183 hl (by decide) (lvK1 0 rfl (Nat.ne_of_beq_eq_false rfl) (Nat.ne_of_beq_eq_false rfl) (lvK1 1 rfl (Nat.ne_of_beq_eq_false rfl) (Nat.ne_of_beq_eq_false rfl) (lvK1 2 rfl (Nat.ne_of_beq_eq_false rfl) (Nat.ne_of_beq_eq_false rfl) (lvK1 3 rfl (Nat.ne_of_beq_eq_false rfl) (Nat.ne_of_beq_eq_false rfl) (lvK2 4 rfl (Nat.ne_of_beq_eq_false rfl) rfl lvK0))))) (lvN1 (Nat.ne_of_beq_eq_false rfl) (lvN1 (Nat.ne_of_beq_eq_false rfl) (lvN1 (Nat.ne_of_beq_eq_false rfl) (lvN1 (Nat.ne_of_beq_eq_false rfl) (lvN1 (Nat.ne_of_beq_eq_false rfl) lvN0))))) (fun ls hl => ?_)
          refine m_aload_n (pc := 185) C dX8_passes_185 rfl (lv_at hl 1 rfl) ?_
          refine m_iload (pc := 186) C dX8_passes_186 (lv_at hl 5 rfl) ?_
          refine m_aload_n (pc := 188) C dX8_passes_188 rfl (lv_at hl 1 rfl) ?_
          refine m_iload (pc := 189) C dX8_passes_189 (lv_at hl 5 rfl) ?_
          obtain ⟨q25, h⟩ := ck_some h
          obtain ⟨a26, μ27, ca26, h⟩ := bd_some h
          refine V_X8_units (pc := 191) C hM ca26 rx5 q25 bw_5_94 ⟨Nat.le_of_ble_eq_true rfl, Nat.le_of_ble_eq_true rfl⟩ hl.1 (rcI (rcR rc0)) ⟨Nat.le_refl _, Nat.le_refl _⟩ dX8_passes_191 (fun ra26 H locs hM => ?_)
          obtain ⟨q28, h⟩ := ck_some h
          obtain ⟨a29, μ30, ca29, h⟩ := bd_some h
          refine V_X8_take (pc := 194) C hM ca29 rx5 ra26 q28 bw_5_183 ⟨Nat.le_of_ble_eq_true rfl, Nat.le_of_ble_eq_true rfl⟩ hl.1 rc0 ⟨Nat.le_refl _, Nat.le_refl _⟩ dX8_passes_194 (fun _ H locs hM => ?_)
          refine m_aload_n (pc := 197) C dX8_passes_197 rfl (lv_at hl 1 rfl) ?_
          obtain ⟨q31, h⟩ := ck_some h
          refine G_X8_now (pc := 198) C hM bw_4_227 q31 dX8_passes_198 ?_
          refine m_iconst (pc := 201) C dX8_passes_201 ?_
          refine m_dup2 (pc := 202) C rfl (vr_cat _ _) dX8_passes_202 ?_
          obtain ⟨q32, h⟩ := ck_some h
          have gq32 := Ar_lald hM q32.1 q32.2.1 q32.2.2
          refine m_lald (pc := 203) C hM q32.1 q32.2.1 q32.2.2 dX8_passes_203 ?_
          refine m_lconst (v := 1) (pc := 204) C dX8_passes_204 rfl ?_
          obtain ⟨a33, ea33, h⟩ := nm_some h
          have ra33 : R64 a33 := by rw [ea33]; exact w64_R _
          refine m_ladd (pc := 205) C dX8_passes_205 ea33 ?_
          obtain ⟨q34, h⟩ := ck_some h
          obtain ⟨μ35, eμ35, h⟩ := nm_some h
          refine m_last (pc := 206) C hM q34.1 q34.2.1  q34.2.2 ra33 eμ35 dX8_passes_206 (fun H locs hM => ?_)
          refine m_aload_n (pc := 207) C dX8_passes_207 rfl (lv_at hl 1 rfl) ?_
          refine m_iload (pc := 208) C dX8_passes_208 (lv_at hl 5 rfl) ?_
          refine m_lload (pc := 210) C dX8_passes_210 (lv_at hl 0 rfl) ?_
          obtain ⟨q36, h⟩ := ck_some h
          obtain ⟨a37, μ38, ca37, h⟩ := bd_some h
          refine V_X8_call (pc := 212) C hM ca37 rx5 ra23 q36 bw_6_32 ⟨Nat.le_of_ble_eq_true rfl, Nat.le_of_ble_eq_true rfl⟩ hl.1 rc0 ⟨Nat.le_refl _, Nat.le_refl _⟩ dX8_passes_212 (fun _ H locs hM => ?_)
          obtain ⟨a39, ea39, h⟩ := nm_some h
          have ra39 : R32 a39 := by rw [ea39]; exact w32_R _
          refine m_iinc (k := 5) (pc := 215) C dX8_passes_215 hl rfl (by decide) ea39 (lvK1 1 rfl (Nat.ne_of_beq_eq_false rfl) (Nat.ne_of_beq_eq_false rfl) (lvK1 2 rfl (Nat.ne_of_beq_eq_false rfl) (Nat.ne_of_beq_eq_false rfl) (lvK1 3 rfl (Nat.ne_of_beq_eq_false rfl) (Nat.ne_of_beq_eq_false rfl) (lvK2 4 rfl (Nat.ne_of_beq_eq_false rfl) rfl lvK0)))) (fun ls hl => ?_)
          refine m_goto (tgt := 125) (pc := 218) C dX8_passes_218 (by decide) ?_
          exact ih _ _ _ _ _ _ h rx1 rx2 rx4 ra39 _ _ _ hM (lv_sub hl [1, 2, 3, 4, 0] rfl)
set_option maxHeartbeats 4000000 in
set_option maxRecDepth 100000 in
theorem k_X8_passes_b30 (C : gCx p s m args meth c cX8_passes 8 (some .int) "passes" RX8) (N : Nat) {r : Int} {μ' : Mm} (k11 : Int → Int → Int → Int → Mm → Rs) (hk11 : ∀ (x0 x1 x2 x4 : Int) (μ : Mm), k11 x0 x1 x2 x4 μ = some (r, μ') → R32 x1 → R64 x2 → R32 x4 → ∀ (H : Heap) (locs : List Loc) (ls : Array Slot), MS E μ s H locs → lv_has ls 8 [(0, vr E x0), (1, vi x1), (2, vl x2), (4, vi x4)] → W p l e ({ frames := 3, cells := 0, slots := 0, locals := 72 } : Room) s m args below meth c H locs 0 0 (MQ below (gQ E (some (vi r)) (R32 r) μ') args s 0 0 (gA E)) (F0 m 11 ls [])) : ∀ (n : Nat), ∀ (x0 x1 x2 x4 x5 : Int) (μ : Mm), f_X8_passes_b30 N k11 n x0 x1 x2 x4 x5 μ = some (r, μ') → R32 x1 → R64 x2 → R32 x4 → R32 x5 → ∀ (H : Heap) (locs : List Loc) (ls : Array Slot), MS E μ s H locs → lv_has ls 8 [(0, vr E x0), (1, vi x1), (2, vl x2), (4, vi x4), (5, vi x5)] → W p l e ({ frames := 3, cells := 0, slots := 0, locals := 72 } : Room) s m args below meth c H locs 0 0 (MQ below (gQ E (some (vi r)) (R32 r) μ') args s 0 0 (gA E)) (F0 m 30 ls []) := by
  intro n
  induction n with
  | zero => intro x0 x1 x2 x4 x5 μ h; simp [f_X8_passes_b30] at h
  | succ n ih =>
    intro x0 x1 x2 x4 x5 μ h rx1 rx2 rx4 rx5 H locs ls hM hl
    rw [f_X8_passes_b30] at h
    refine m_iload (pc := 30) C dX8_passes_30 (lv_at hl 4 rfl) ?_
    refine m_i2l (pc := 32) C rx5 dX8_passes_32 ?_
    refine m_aload_n (pc := 33) C dX8_passes_33 rfl (lv_at hl 0 rfl) ?_
    obtain ⟨q1, h⟩ := ck_some h
    refine G_X8_now (pc := 34) C hM bw_4_227 q1 dX8_passes_34 ?_
    refine m_iconst (pc := 37) C dX8_passes_37 ?_
    obtain ⟨q2, h⟩ := ck_some h
    have gq2 := Ar_lald hM q2.1 q2.2.1 q2.2.2
    refine m_lald (pc := 38) C hM q2.1 q2.2.1 q2.2.2 dX8_passes_38 ?_
    refine m_lcmp_ge (tgt := 122) (pc := 39) C (R32.to64 rx5) gq2 dX8_passes_39 dX8_passes_40 (by decide) (fun c3 => ?_) (fun c3 => ?_)
    · have h := if_t h c3
      refine m_iconst (pc := 122) C dX8_passes_122 ?_
      refine m_istore (pc := 123) C dX8_passes_123 hl (by decide) (lvK1 0 rfl (Nat.ne_of_beq_eq_false rfl) (Nat.ne_of_beq_eq_false rfl) (lvK1 1 rfl (Nat.ne_of_beq_eq_false rfl) (Nat.ne_of_beq_eq_false rfl) (lvK1 2 rfl (Nat.ne_of_beq_eq_false rfl) (Nat.ne_of_beq_eq_false rfl) (lvK2 3 rfl (Nat.ne_of_beq_eq_false rfl) rfl lvK0)))) (fun ls hl => ?_)
      exact k_X8_passes_b125 C N _ hk11 N _ _ _ _ _ _ h rx1 rx2 rx4 rk_0 _ _ _ hM (lv_sub hl [1, 2, 3, 4, 0] rfl)
    · have h := if_f h c3
      refine m_aload_n (pc := 43) C dX8_passes_43 rfl (lv_at hl 0 rfl) ?_
      refine m_iload (pc := 44) C dX8_passes_44 (lv_at hl 4 rfl) ?_
      obtain ⟨q4, h⟩ := ck_some h
      obtain ⟨a5, μ6, ca5, h⟩ := bd_some h
      refine V_X8_waits (pc := 46) C hM ca5 rx5 q4 bw_5_110 ⟨Nat.le_of_ble_eq_true rfl, Nat.le_of_ble_eq_true rfl⟩ hl.1 rc0 ⟨Nat.le_refl _, Nat.le_refl _⟩ dX8_passes_46 (fun ra5 H locs hM => ?_)
      refine m_if_eq (tgt := 116) (pc := 49) C ra5 dX8_passes_49 (by decide) (fun c7 => ?_) (fun c7 => ?_)
      · have h := if_t h c7
        obtain ⟨a8, ea8, h⟩ := nm_some h
        have ra8 : R32 a8 := by rw [ea8]; exact w32_R _
        refine m_iinc (k := 4) (pc := 116) C dX8_passes_116 hl rfl (by decide) ea8 (lvK1 0 rfl (Nat.ne_of_beq_eq_false rfl) (Nat.ne_of_beq_eq_false rfl) (lvK1 1 rfl (Nat.ne_of_beq_eq_false rfl) (Nat.ne_of_beq_eq_false rfl) (lvK1 2 rfl (Nat.ne_of_beq_eq_false rfl) (Nat.ne_of_beq_eq_false rfl) (lvK2 3 rfl (Nat.ne_of_beq_eq_false rfl) rfl lvK0)))) (fun ls hl => ?_)
        refine m_goto (tgt := 30) (pc := 119) C dX8_passes_119 (by decide) ?_
        exact ih _ _ _ _ _ _ h rx1 rx2 rx4 ra8 _ _ _ hM (lv_sub hl [1, 2, 3, 4, 0] rfl)
      · have h := if_f h c7
        refine m_aload_n (pc := 52) C dX8_passes_52 rfl (lv_at hl 0 rfl) ?_
        obtain ⟨q9, h⟩ := ck_some h
        refine G_X8_now (pc := 53) C hM bw_4_227 q9 dX8_passes_53 ?_
        refine m_iload (pc := 56) C dX8_passes_56 (lv_at hl 4 rfl) ?_
        obtain ⟨a10, μ11, ca10, h⟩ := bd_some h
        refine V_X8_exportAt (pc := 58) C hM ca10 rx5 bw_5_114 ⟨Nat.le_of_ble_eq_true rfl, Nat.le_of_ble_eq_true rfl⟩ hl.1 (rcR rc0) ⟨Nat.le_refl _, Nat.le_refl _⟩ dX8_passes_58 (fun ra10 H locs hM => ?_)
        refine m_iconst (pc := 61) C dX8_passes_61 ?_
        obtain ⟨a12, ea12, h⟩ := nm_some h
        have ra12 : R32 a12 := by rw [ea12]; exact w32_R _
        refine m_iadd (pc := 62) C dX8_passes_62 ea12 ?_
        obtain ⟨q13, h⟩ := ck_some h
        have gq13 := Ar_lald hM q13.1 q13.2.1 q13.2.2
        refine m_lald (pc := 63) C hM q13.1 q13.2.1 q13.2.2 dX8_passes_63 ?_
        refine m_aload_n (pc := 64) C dX8_passes_64 rfl (lv_at hl 0 rfl) ?_
        obtain ⟨q14, h⟩ := ck_some h
        refine G_X8_now (pc := 65) C hM bw_4_227 q14 dX8_passes_65 ?_
        refine m_iconst (pc := 68) C dX8_passes_68 ?_
        obtain ⟨q15, h⟩ := ck_some h
        have gq15 := Ar_lald hM q15.1 q15.2.1 q15.2.2
        refine m_lald (pc := 69) C hM q15.1 q15.2.1 q15.2.2 dX8_passes_69 ?_
        refine m_lcmp_ge (tgt := 116) (pc := 70) C gq13 gq15 dX8_passes_70 dX8_passes_71 (by decide) (fun c16 => ?_) (fun c16 => ?_)
        · have h := if_t h c16
          obtain ⟨a17, ea17, h⟩ := nm_some h
          have ra17 : R32 a17 := by rw [ea17]; exact w32_R _
          refine m_iinc (k := 4) (pc := 116) C dX8_passes_116 hl rfl (by decide) ea17 (lvK1 0 rfl (Nat.ne_of_beq_eq_false rfl) (Nat.ne_of_beq_eq_false rfl) (lvK1 1 rfl (Nat.ne_of_beq_eq_false rfl) (Nat.ne_of_beq_eq_false rfl) (lvK1 2 rfl (Nat.ne_of_beq_eq_false rfl) (Nat.ne_of_beq_eq_false rfl) (lvK2 3 rfl (Nat.ne_of_beq_eq_false rfl) rfl lvK0)))) (fun ls hl => ?_)
          refine m_goto (tgt := 30) (pc := 119) C dX8_passes_119 (by decide) ?_
          exact ih _ _ _ _ _ _ h rx1 rx2 rx4 ra17 _ _ _ hM (lv_sub hl [1, 2, 3, 4, 0] rfl)
        · have h := if_f h c16
          refine m_aload_n (pc := 74) C dX8_passes_74 rfl (lv_at hl 0 rfl) ?_
          obtain ⟨q18, h⟩ := ck_some h
          refine G_X8_now (pc := 75) C hM bw_4_227 q18 dX8_passes_75 ?_
          refine m_iload (pc := 78) C dX8_passes_78 (lv_at hl 4 rfl) ?_
          obtain ⟨a19, μ20, ca19, h⟩ := bd_some h
          refine V_X8_exportAt (pc := 80) C hM ca19 rx5 bw_5_114 ⟨Nat.le_of_ble_eq_true rfl, Nat.le_of_ble_eq_true rfl⟩ hl.1 (rcR rc0) ⟨Nat.le_refl _, Nat.le_refl _⟩ dX8_passes_80 (fun ra19 H locs hM => ?_)
          refine m_iconst (pc := 83) C dX8_passes_83 ?_
          obtain ⟨a21, ea21, h⟩ := nm_some h
          have ra21 : R32 a21 := by rw [ea21]; exact w32_R _
          refine m_iadd (pc := 84) C dX8_passes_84 ea21 ?_
          refine m_ldc2 (n := 2) (pc := 85) C bw_6_31 rfl dX8_passes_85 ?_
          obtain ⟨q22, h⟩ := ck_some h
          obtain ⟨μ23, eμ23, h⟩ := nm_some h
          refine m_last (pc := 88) C hM q22.1 q22.2.1  q22.2.2 rl_2 eμ23 dX8_passes_88 (fun H locs hM => ?_)
          refine m_aload_n (pc := 89) C dX8_passes_89 rfl (lv_at hl 0 rfl) ?_
          refine m_aload_n (pc := 90) C dX8_passes_90 rfl (lv_at hl 0 rfl) ?_
          obtain ⟨q24, h⟩ := ck_some h
          refine G_X8_now (pc := 91) C hM bw_4_227 q24 dX8_passes_91 ?_
          refine m_iload (pc := 94) C dX8_passes_94 (lv_at hl 4 rfl) ?_
          obtain ⟨a25, μ26, ca25, h⟩ := bd_some h
          refine V_X8_exportAt (pc := 96) C hM ca25 rx5 bw_5_114 ⟨Nat.le_of_ble_eq_true rfl, Nat.le_of_ble_eq_true rfl⟩ hl.1 (rcR (rcR rc0)) ⟨Nat.le_refl _, Nat.le_refl _⟩ dX8_passes_96 (fun ra25 H locs hM => ?_)
          obtain ⟨q27, h⟩ := ck_some h
          have gq27 := Ar_lald hM q27.1 q27.2.1 q27.2.2
          refine m_lald (pc := 99) C hM q27.1 q27.2.1 q27.2.2 dX8_passes_99 ?_
          obtain ⟨a28, ea28, h⟩ := nm_some h
          have ra28 : R32 a28 := by rw [ea28]; exact w32_R _
          refine m_l2i (pc := 100) C dX8_passes_100 ea28 ?_
          refine m_aload_n (pc := 101) C dX8_passes_101 rfl (lv_at hl 0 rfl) ?_
          obtain ⟨q29, h⟩ := ck_some h
          refine G_X8_now (pc := 102) C hM bw_4_227 q29 dX8_passes_102 ?_
          refine m_iload (pc := 105) C dX8_passes_105 (lv_at hl 4 rfl) ?_
          obtain ⟨a30, μ31, ca30, h⟩ := bd_some h
          refine V_X8_exportAt (pc := 107) C hM ca30 rx5 bw_5_114 ⟨Nat.le_of_ble_eq_true rfl, Nat.le_of_ble_eq_true rfl⟩ hl.1 (rcR (rcI (rcR rc0))) ⟨Nat.le_refl _, Nat.le_refl _⟩ dX8_passes_107 (fun ra30 H locs hM => ?_)
          refine m_iconst (pc := 110) C dX8_passes_110 ?_
          obtain ⟨a32, ea32, h⟩ := nm_some h
          have ra32 : R32 a32 := by rw [ea32]; exact w32_R _
          refine m_iadd (pc := 111) C dX8_passes_111 ea32 ?_
          obtain ⟨q33, h⟩ := ck_some h
          have gq33 := Ar_lald hM q33.1 q33.2.1 q33.2.2
          refine m_lald (pc := 112) C hM q33.1 q33.2.1 q33.2.2 dX8_passes_112 ?_
          obtain ⟨q34, h⟩ := ck_some h
          obtain ⟨a35, μ36, ca35, h⟩ := bd_some h
          refine V_X8_call (pc := 113) C hM ca35 ra28 gq33 q34 bw_6_32 ⟨Nat.le_of_ble_eq_true rfl, Nat.le_of_ble_eq_true rfl⟩ hl.1 rc0 ⟨Nat.le_refl _, Nat.le_refl _⟩ dX8_passes_113 (fun _ H locs hM => ?_)
          obtain ⟨a37, ea37, h⟩ := nm_some h
          have ra37 : R32 a37 := by rw [ea37]; exact w32_R _
          refine m_iinc (k := 4) (pc := 116) C dX8_passes_116 hl rfl (by decide) ea37 (lvK1 0 rfl (Nat.ne_of_beq_eq_false rfl) (Nat.ne_of_beq_eq_false rfl) (lvK1 1 rfl (Nat.ne_of_beq_eq_false rfl) (Nat.ne_of_beq_eq_false rfl) (lvK1 2 rfl (Nat.ne_of_beq_eq_false rfl) (Nat.ne_of_beq_eq_false rfl) (lvK2 3 rfl (Nat.ne_of_beq_eq_false rfl) rfl lvK0)))) (fun ls hl => ?_)
          refine m_goto (tgt := 30) (pc := 119) C dX8_passes_119 (by decide) ?_
          exact ih _ _ _ _ _ _ h rx1 rx2 rx4 ra37 _ _ _ hM (lv_sub hl [1, 2, 3, 4, 0] rfl)
set_option maxHeartbeats 4000000 in
set_option maxRecDepth 100000 in
theorem k_X8_passes_b11 (C : gCx p s m args meth c cX8_passes 8 (some .int) "passes" RX8) (N : Nat) {r : Int} {μ' : Mm} : ∀ (n : Nat), ∀ (x0 x1 x2 x4 : Int) (μ : Mm), f_X8_passes_b11 N n x0 x1 x2 x4 μ = some (r, μ') → R32 x1 → R64 x2 → R32 x4 → ∀ (H : Heap) (locs : List Loc) (ls : Array Slot), MS E μ s H locs → lv_has ls 8 [(0, vr E x0), (1, vi x1), (2, vl x2), (4, vi x4)] → W p l e ({ frames := 3, cells := 0, slots := 0, locals := 72 } : Room) s m args below meth c H locs 0 0 (MQ below (gQ E (some (vi r)) (R32 r) μ') args s 0 0 (gA E)) (F0 m 11 ls []) := by
  intro n
  induction n with
  | zero => intro x0 x1 x2 x4 μ h; simp [f_X8_passes_b11] at h
  | succ n ih =>
    intro x0 x1 x2 x4 μ h rx1 rx2 rx4 H locs ls hM hl
    rw [f_X8_passes_b11] at h
    refine m_iload (pc := 11) C dX8_passes_11 (lv_at hl 3 rfl) ?_
    refine m_iload_n (pc := 13) C dX8_passes_13 rfl (lv_at hl 1 rfl) ?_
    refine m_icmp_ge (tgt := 227) (pc := 14) C rx4 rx1 dX8_passes_14 (by decide) (fun c1 => ?_) (fun c1 => ?_)
    · have h := if_t h c1
      refine m_aload_n (pc := 227) C dX8_passes_227 rfl (lv_at hl 0 rfl) ?_
      obtain ⟨q2, h⟩ := ck_some h
      refine G_X8_now (pc := 228) C hM bw_4_227 q2 dX8_passes_228 ?_
      refine m_bipush (pc := 231) C dX8_passes_231 rfl ?_
      obtain ⟨q3, h⟩ := ck_some h
      have gq3 := Ar_lald hM q3.1 q3.2.1 q3.2.2
      refine m_lald (pc := 233) C hM q3.1 q3.2.1 q3.2.2 dX8_passes_233 ?_
      refine m_lload_n (pc := 234) C dX8_passes_234 rfl (lv_at hl 2 rfl) ?_
      obtain ⟨a4, ea4, h⟩ := nm_some h
      have ra4 : R64 a4 := by rw [ea4]; exact w64_R _
      refine m_lsub (pc := 235) C dX8_passes_235 ea4 ?_
      obtain ⟨a5, ea5, h⟩ := nm_some h
      have ra5 : R32 a5 := by rw [ea5]; exact w32_R _
      refine m_l2i (pc := 236) C dX8_passes_236 ea5 ?_
      cases h
      exact m_iret (pc := 237) C hM ra5 dX8_passes_237
    · have h := if_f h c1
      refine m_aload_n (pc := 17) C dX8_passes_17 rfl (lv_at hl 0 rfl) ?_
      obtain ⟨q6, h⟩ := ck_some h
      refine G_X8_now (pc := 18) C hM bw_4_227 q6 dX8_passes_18 ?_
      refine m_iconst (pc := 21) C dX8_passes_21 ?_
      refine m_dup2 (pc := 22) C rfl (vr_cat _ _) dX8_passes_22 ?_
      obtain ⟨q7, h⟩ := ck_some h
      have gq7 := Ar_lald hM q7.1 q7.2.1 q7.2.2
      refine m_lald (pc := 23) C hM q7.1 q7.2.1 q7.2.2 dX8_passes_23 ?_
      refine m_lconst (v := 1) (pc := 24) C dX8_passes_24 rfl ?_
      obtain ⟨a8, ea8, h⟩ := nm_some h
      have ra8 : R64 a8 := by rw [ea8]; exact w64_R _
      refine m_ladd (pc := 25) C dX8_passes_25 ea8 ?_
      obtain ⟨q9, h⟩ := ck_some h
      obtain ⟨μ10, eμ10, h⟩ := nm_some h
      refine m_last (pc := 26) C hM q9.1 q9.2.1  q9.2.2 ra8 eμ10 dX8_passes_26 (fun H locs hM => ?_)
      refine m_iconst (pc := 27) C dX8_passes_27 ?_
      refine m_istore (pc := 28) C dX8_passes_28 hl (by decide) (lvK1 0 rfl (Nat.ne_of_beq_eq_false rfl) (Nat.ne_of_beq_eq_false rfl) (lvK1 1 rfl (Nat.ne_of_beq_eq_false rfl) (Nat.ne_of_beq_eq_false rfl) (lvK1 2 rfl (Nat.ne_of_beq_eq_false rfl) (Nat.ne_of_beq_eq_false rfl) (lvK2 3 rfl (Nat.ne_of_beq_eq_false rfl) rfl lvK0)))) (fun ls hl => ?_)
      exact k_X8_passes_b30 C N _ ih N _ _ _ _ _ _ h rx1 rx2 rx4 rk_0 _ _ _ hM (lv_sub hl [1, 2, 3, 4, 0] rfl)
set_option maxHeartbeats 4000000 in
set_option maxRecDepth 100000 in
theorem c_X8_passes (l : Launch) (E : gE) (N : Nat) (x0 x1 : Int) (μ μ' : Mm) (r : Int) (h : f_X8_passes N x0 x1 μ = some (r, μ')) (rx1 : R32 x1) : gMet l E yX8_passes cX8_passes 8 (some .int) 3 72 [vr E x0, vi x1] (some (vi r)) (R32 r) μ μ' 0 0 := by
  refine g_ofW [1, 1] (by first | (simp only [List.map_cons, List.map_nil, vr_cat]; done) | (simp only [List.map_cons, List.map_nil, vr_cat]; rfl)) (by decide) (by decide) (fun p e s m below meth c ls C hM hl => ?_)
  replace C : gCx p s m _ meth c cX8_passes 8 (some .int) "passes" RX8 := C
  replace hl : lv_has ls 8 [(0, vr E x0), (1, vi x1)] := hl
  unfold f_X8_passes at h
  refine m_aload_n (pc := 0) C dX8_passes_0 rfl (lv_at hl 0 rfl) ?_
  obtain ⟨q1, h⟩ := ck_some h
  refine G_X8_now (pc := 1) C hM bw_4_227 q1 dX8_passes_1 ?_
  refine m_bipush (pc := 4) C dX8_passes_4 rfl ?_
  obtain ⟨q2, h⟩ := ck_some h
  have gq2 := Ar_lald hM q2.1 q2.2.1 q2.2.2
  refine m_lald (pc := 6) C hM q2.1 q2.2.1 q2.2.2 dX8_passes_6 ?_
  refine m_lstore_n (pc := 7) C dX8_passes_7 rfl hl (by decide) (lvK1 0 rfl (Nat.ne_of_beq_eq_false rfl) (Nat.ne_of_beq_eq_false rfl) (lvK2 1 rfl (Nat.ne_of_beq_eq_false rfl) rfl lvK0)) (lvN1 (Nat.ne_of_beq_eq_false rfl) (lvN1 (Nat.ne_of_beq_eq_false rfl) lvN0)) (fun ls hl => ?_)
  refine m_iconst (pc := 8) C dX8_passes_8 ?_
  refine m_istore (pc := 9) C dX8_passes_9 hl (by decide) (lvK1 0 rfl (Nat.ne_of_beq_eq_false rfl) (Nat.ne_of_beq_eq_false rfl) (lvK1 1 rfl (Nat.ne_of_beq_eq_false rfl) (Nat.ne_of_beq_eq_false rfl) (lvK1 2 rfl (Nat.ne_of_beq_eq_false rfl) (Nat.ne_of_beq_eq_false rfl) lvK0))) (fun ls hl => ?_)
  exact k_X8_passes_b11 C N N _ _ _ _ _ h rx1 gq2 rk_0 _ _ _ hM (lv_sub hl [2, 3, 1, 0] rfl)
theorem hd_X8_passes : yX8_passes.cls ≠ "java/lang/invoke/MethodHandle" ∧ yX8_passes.cls ≠ "java/lang/invoke/VarHandle" ∧ (parseMethodDescriptor yX8_passes.desc).map (fun d => d.parameters.length) = some 1 := by decide +kernel

theorem V_X8_passes {p : Program} {l : Launch} {e : Env} {R : Room} {s : State} {m : MethodId} {args : Array Value} {below : List Frame} {meth : Method} {c : Code} {H : Heap} {locs : List Loc} {cells slots : Nat} {Q : State → Prop} {cc : ByteArray} {pc nL : Nat} {ls : Array Slot} {rest : List Value} {ret : Option FieldType} {nmm own : String} {E : gE} {μ μ1 : Mm} {index : Nat} (C : gCx p s m args meth c cc nL ret nmm own) (hM : MS E μ s H locs) {N : Nat} {x0 x1 v : Int} (hc : f_X8_passes N x0 x1 μ = some (v, μ1)) (rx1 : R32 x1) (hck : μ x0 (-2) = 10) (h1 : Cond.methodLink own index yX8_passes ∈ bigL) (hR : 4 ≤ R.frames ∧ 99 ≤ R.locals) (hl : ls.size = nL) (hcat : RC rest 8) (hf : cells + 0 ≤ R.cells ∧ slots + 0 ≤ R.slots) (hdg : decode cc pc = .ok (.invokevirtual index, 3)) (kk : (R32 v) → ∀ (H1 : Heap) (locs1 : List Loc), MS E μ1 s H1 locs1 → W p l e R s m args below meth c H1 locs1 (cells + 0) (slots + 0) Q (F0 m (pc + 3) ls (vi v :: rest))) : W p l e R s m args below meth c H locs cells slots Q (F0 m pc ls (vi x1 :: vr E x0 :: rest)) := g_callV C KF_X8 hM (c_X8_passes l E N x0 x1 μ μ1 v hc rx1) hck (gV h1 bw_6_29 bs_54 bw_1_13 bw_6_30) ⟨rfl, hd_X8_passes⟩ hR rfl hl rfl hcat hf hdg kk
end G13
