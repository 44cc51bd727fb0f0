section G06
variable {p : Program} {l : Launch} {e : Env} {R : Room} {s : State} {m : MethodId} {args : Array Value} {below : List Frame} {meth : Method} {c : Code} {E : gE}
/-! X7_export -/
def f_X7_export (N : Nat) (x0 x1 x2 : Int) (μ : Mm) : Rs :=
  ck (μ x0 (-2) = 9) <|
  ck (μ x0 (-2) = 9) <|
  ck (μ (μ x0 1) (-2) = 3) <|
  bd (f_X1_prepare N (μ x0 1) (μ x0 0) μ) fun a4 μ5 =>
  ck (μ5 x0 (-2) = 9) <|
  bd (f_X7_exportUnits N x0 x1 x2 μ5) fun a7 μ8 =>
  ck (μ8 x0 (-2) = 9) <|
  bd (f_X7_finishAct N x0 a7 μ8) fun a10 μ11 =>
  some (a10, μ11)
set_option maxHeartbeats 4000000 in
set_option maxRecDepth 100000 in
theorem c_X7_export (l : Launch) (E : gE) (N : Nat) (x0 x1 x2 : Int) (μ μ' : Mm) (r : Int) (h : f_X7_export N x0 x1 x2 μ = some (r, μ')) (rx1 : R32 x1) (rx2 : R32 x2) : gMet l E yX7_export cX7_export 3 (some .int) 4 104 [vr E x0, vi x1, vi x2] (some (vi r)) (R32 r) μ μ' 0 0 := by
  refine g_ofW [1, 1, 1] (by first | (simp only [List.map_cons, List.map_nil, vr_cat]; done) | (simp only [List.map_cons, List.map_nil, vr_cat]; rfl)) (by decide) (by decide) (fun p e s m below meth c ls C hM hl => ?_)
  replace C : gCx p s m _ meth c cX7_export 3 (some .int) "export" RX7 := C
  replace hl : lv_has ls 3 [(0, vr E x0), (1, vi x1), (2, vi x2)] := hl
  unfold f_X7_export at h
  refine m_aload_n (pc := 0) C dX7_export_0 rfl (lv_at hl 0 rfl) ?_
  obtain ⟨q1, h⟩ := ck_some h
  refine G_X7_history (pc := 1) C hM bw_2_64 q1 dX7_export_1 ?_
  refine m_aload_n (pc := 4) C dX7_export_4 rfl (lv_at hl 0 rfl) ?_
  obtain ⟨q2, h⟩ := ck_some h
  refine G_X7_now (pc := 5) C hM bw_2_63 q2 dX7_export_5 ?_
  obtain ⟨q3, h⟩ := ck_some h
  obtain ⟨a4, μ5, ca4, h⟩ := bd_some h
  refine V_X1_prepare (pc := 8) C hM ca4 q3 bw_2_94 ⟨Nat.le_of_ble_eq_true rfl, Nat.le_of_ble_eq_true rfl⟩ hl.1 rc0 ⟨Nat.le_refl _, Nat.le_refl _⟩ dX7_export_8 (fun _ H locs hM => ?_)
  refine m_aload_n (pc := 11) C dX7_export_11 rfl (lv_at hl 0 rfl) ?_
  refine m_aload_n (pc := 12) C dX7_export_12 rfl (lv_at hl 0 rfl) ?_
  refine m_iload_n (pc := 13) C dX7_export_13 rfl (lv_at hl 1 rfl) ?_
  refine m_iload_n (pc := 14) C dX7_export_14 rfl (lv_at hl 2 rfl) ?_
  obtain ⟨q6, h⟩ := ck_some h
  obtain ⟨a7, μ8, ca7, h⟩ := bd_some h
  refine V_X7_exportUnits (pc := 15) C hM ca7 rx1 rx2 q6 bw_4_89 ⟨Nat.le_of_ble_eq_true rfl, Nat.le_of_ble_eq_true rfl⟩ hl.1 (rcR rc0) ⟨Nat.le_refl _, Nat.le_refl _⟩ dX7_export_15 (fun ra7 H locs hM => ?_)
  obtain ⟨q9, h⟩ := ck_some h
  obtain ⟨a10, μ11, ca10, h⟩ := bd_some h
  refine V_X7_finishAct (pc := 18) C hM ca10 ra7 q9 bw_2_121 ⟨Nat.le_of_ble_eq_true rfl, Nat.le_of_ble_eq_true rfl⟩ hl.1 rc0 ⟨Nat.le_refl _, Nat.le_refl _⟩ dX7_export_18 (fun ra10 H locs hM => ?_)
  cases h
  exact m_iret (pc := 21) C hM ra10 dX7_export_21
theorem hd_X7_export : yX7_export.cls ≠ "java/lang/invoke/MethodHandle" ∧ yX7_export.cls ≠ "java/lang/invoke/VarHandle" ∧ (parseMethodDescriptor yX7_export.desc).map (fun d => d.parameters.length) = some 2 := by decide +kernel

theorem V_X7_export {p : Program} {l : Launch} {e : Env} {R : Room} {s : State} {m : MethodId} {args : Array Value} {below : List Frame} {meth : Method} {c : Code} {H : Heap} {locs : List Loc} {cells slots : Nat} {Q : State → Prop} {cc : ByteArray} {pc nL : Nat} {ls : Array Slot} {rest : List Value} {ret : Option FieldType} {nmm own : String} {E : gE} {μ μ1 : Mm} {index : Nat} (C : gCx p s m args meth c cc nL ret nmm own) (hM : MS E μ s H locs) {N : Nat} {x0 x1 x2 v : Int} (hc : f_X7_export N x0 x1 x2 μ = some (v, μ1)) (rx1 : R32 x1) (rx2 : R32 x2) (hck : μ x0 (-2) = 9) (h1 : Cond.methodLink own index yX7_export ∈ bigL) (hR : 5 ≤ R.frames ∧ 126 ≤ R.locals) (hl : ls.size = nL) (hcat : RC rest 8) (hf : cells + 0 ≤ R.cells ∧ slots + 0 ≤ R.slots) (hdg : decode cc pc = .ok (.invokevirtual index, 3)) (kk : (R32 v) → ∀ (H1 : Heap) (locs1 : List Loc), MS E μ1 s H1 locs1 → W p l e R s m args below meth c H1 locs1 (cells + 0) (slots + 0) Q (F0 m (pc + 3) ls (vi v :: rest))) : W p l e R s m args below meth c H locs cells slots Q (F0 m pc ls (vi x2 :: vi x1 :: vr E x0 :: rest)) := g_callV C KF_X7 hM (c_X7_export l E N x0 x1 x2 μ μ1 v hc rx1 rx2) hck (gV h1 bw_4_86 bw_4_87 bw_1_1 bw_4_88) ⟨rfl, hd_X7_export⟩ hR rfl hl rfl hcat hf hdg kk
/-! X7_proveExport -/
def f_X7_proveExport (N : Nat) (x0 x1 : Int) (μ : Mm) : Rs :=
  ck (μ x0 (-2) = 9) <|
  ck (μ (μ x0 0) (-2) = 8) <|
  bd (f_X6_findExport N (μ x0 0) x1 μ) fun a3 μ4 =>
  ck ((0 : Int) ≤ a3) <|
  if ¬ a3 = 0 then
    (ck (μ4 x0 (-2) = 9) <|
     ck (μ4 a3 (-2) = 2) <|
     ck (μ4 (μ4 x0 0) (-2) = 8) <|
     bd (f_X6_findLot N (μ4 x0 0) (μ4 a3 0) μ4) fun a10 μ11 =>
     ck ((0 : Int) ≤ a10) <|
     if a10 = 0 then
       (ck (μ11 x0 (-2) = 9) <|
        bd (f_X7_refuse N x0 6 μ11) fun a15 μ16 =>
        some (a15, μ16))
     else
     ck (μ11 a3 (-2) = 2) <|
     bd (f_X0_waits N a3 μ11) fun a18 μ19 =>
     if ¬ a18 = 0 then
       (ck (μ19 a3 (-2) = 2) <|
        nm (mset μ19 a3 4 1) fun μ22 =>
        ck (μ22 a10 (-2) = 4) <|
        ck (μ22 a3 (-2) = 2) <|
        nm (w32 ((μ22 a10 9) + (μ22 a3 2))) fun a25 =>
        ck (μ22 a10 (-2) = 4) <|
        nm (mset μ22 a10 9 a25) fun μ27 =>
        ck (μ27 a3 (-2) = 2) <|
        some (μ27 a3 2, μ27))
     else
     ck (μ19 x0 (-2) = 9) <|
     bd (f_X7_refuse N x0 6 μ19) fun a30 μ31 =>
     some (a30, μ31))
  else
  some ((-100000001), μ4)
set_option maxHeartbeats 4000000 in
set_option maxRecDepth 100000 in
theorem c_X7_proveExport (l : Launch) (E : gE) (N : Nat) (x0 x1 : Int) (μ μ' : Mm) (r : Int) (h : f_X7_proveExport N x0 x1 μ = some (r, μ')) (rx1 : R32 x1) : gMet l E yX7_proveExport cX7_proveExport 4 (some .int) 1 21 [vr E x0, vi x1] (some (vi r)) (R32 r) μ μ' 0 0 := by
  refine g_ofW [1, 1] (by first | (simp only [List.map_cons, List.map_nil, vr_cat]; done) | (simp only [List.map_cons, List.map_nil, vr_cat]; rfl)) (by decide) (by decide) (fun p e s m below meth c ls C hM hl => ?_)
  replace C : gCx p s m _ meth c cX7_proveExport 4 (some .int) "proveExport" RX7 := C
  replace hl : lv_has ls 4 [(0, vr E x0), (1, vi x1)] := hl
  unfold f_X7_proveExport at h
  refine m_aload_n (pc := 0) C dX7_proveExport_0 rfl (lv_at hl 0 rfl) ?_
  obtain ⟨q1, h⟩ := ck_some h
  refine G_X7_now (pc := 1) C hM bw_2_63 q1 dX7_proveExport_1 ?_
  refine m_iload_n (pc := 4) C dX7_proveExport_4 rfl (lv_at hl 1 rfl) ?_
  obtain ⟨q2, h⟩ := ck_some h
  obtain ⟨a3, μ4, ca3, h⟩ := bd_some h
  refine V_X6_findExport (pc := 5) C hM ca3 rx1 q2 bw_2_145 ⟨Nat.le_of_ble_eq_true rfl, Nat.le_of_ble_eq_true rfl⟩ hl.1 rc0 ⟨Nat.le_refl _, Nat.le_refl _⟩ dX7_proveExport_5 (fun _ H locs hM => ?_)
  refine m_astore_n (pc := 8) C dX7_proveExport_8 rfl hl (by decide) (lvK1 0 rfl (Nat.ne_of_beq_eq_false rfl) (Nat.ne_of_beq_eq_false rfl) lvK0) (fun ls hl => ?_)
  refine m_aload_n (pc := 9) C dX7_proveExport_9 rfl (lv_at hl 0 rfl) ?_
  obtain ⟨q6, h⟩ := ck_some h
  refine m_ifnonnull (tgt := 16) (pc := 10) C q6 dX7_proveExport_10 (by decide) (fun c5 => ?_) (fun c5 => ?_)
  · have h := if_t h c5
    refine m_aload_n (pc := 16) C dX7_proveExport_16 rfl (lv_at hl 1 rfl) ?_
    obtain ⟨q7, h⟩ := ck_some h
    refine G_X7_now (pc := 17) C hM bw_2_63 q7 dX7_proveExport_17 ?_
    refine m_aload_n (pc := 20) C dX7_proveExport_20 rfl (lv_at hl 0 rfl) ?_
    obtain ⟨q8, h⟩ := ck_some h
    have gq8 := Gr_X0_lot hM q8
    refine G_X0_lot (pc := 21) C hM bw_1_157 q8 dX7_proveExport_21 ?_
    obtain ⟨q9, h⟩ := ck_some h
    obtain ⟨a10, μ11, ca10, h⟩ := bd_some h
    refine V_X6_findLot (pc := 24) C hM ca10 gq8 q9 bw_2_149 ⟨Nat.le_of_ble_eq_true rfl, Nat.le_of_ble_eq_true rfl⟩ hl.1 rc0 ⟨Nat.le_refl _, Nat.le_refl _⟩ dX7_proveExport_24 (fun _ H locs hM => ?_)
    refine m_astore_n (pc := 27) C dX7_proveExport_27 rfl hl (by decide) (lvK2 0 rfl (Nat.ne_of_beq_eq_false rfl) (vr_cat _ _) (lvK1 1 rfl (Nat.ne_of_beq_eq_false rfl) (Nat.ne_of_beq_eq_false rfl) lvK0)) (fun ls hl => ?_)
    refine m_aload_n (pc := 28) C dX7_proveExport_28 rfl (lv_at hl 0 rfl) ?_
    obtain ⟨q13, h⟩ := ck_some h
    refine m_ifnull (tgt := 39) (pc := 29) C q13 dX7_proveExport_29 (by decide) (fun c12 => ?_) (fun c12 => ?_)
    · have h := if_t h c12
      refine m_aload_n (pc := 39) C dX7_proveExport_39 rfl (lv_at hl 2 rfl) ?_
      refine m_bipush (pc := 40) C dX7_proveExport_40 rfl ?_
      obtain ⟨q14, h⟩ := ck_some h
      obtain ⟨a15, μ16, ca15, h⟩ := bd_some h
      refine V_X7_refuse (pc := 42) C hM ca15 rk_6 q14 bw_2_157 ⟨Nat.le_of_ble_eq_true rfl, Nat.le_of_ble_eq_true rfl⟩ hl.1 rc0 ⟨Nat.le_refl _, Nat.le_refl _⟩ dX7_proveExport_42 (fun ra15 H locs hM => ?_)
      cases h
      exact m_iret (pc := 45) C hM ra15 dX7_proveExport_45
    · have h := if_f h c12
      refine m_aload_n (pc := 32) C dX7_proveExport_32 rfl (lv_at hl 1 rfl) ?_
      obtain ⟨q17, h⟩ := ck_some h
      obtain ⟨a18, μ19, ca18, h⟩ := bd_some h
      refine V_X0_waits (pc := 33) C hM ca18 q17 bw_2_153 ⟨Nat.le_of_ble_eq_true rfl, Nat.le_of_ble_eq_true rfl⟩ hl.1 rc0 ⟨Nat.le_refl _, Nat.le_refl _⟩ dX7_proveExport_33 (fun ra18 H locs hM => ?_)
      refine m_if_ne (tgt := 46) (pc := 36) C ra18 dX7_proveExport_36 (by decide) (fun c20 => ?_) (fun c20 => ?_)
      · have h := if_t h c20
        refine m_aload_n (pc := 46) C dX7_proveExport_46 rfl (lv_at hl 1 rfl) ?_
        refine m_iconst (pc := 47) C dX7_proveExport_47 ?_
        obtain ⟨q21, h⟩ := ck_some h
        obtain ⟨μ22, eμ22, h⟩ := nm_some h
        refine P_X0_state (pc := 48) C hM bw_1_168 q21 rk_1 eμ22 dX7_proveExport_48 (fun H locs hM => ?_)
        refine m_aload_n (pc := 51) C dX7_proveExport_51 rfl (lv_at hl 0 rfl) ?_
        refine m_dup (pc := 52) C (vr_cat _ _) dX7_proveExport_52 ?_
        obtain ⟨q23, h⟩ := ck_some h
        have gq23 := Gr_X2_discharged hM q23
        refine G_X2_discharged (pc := 53) C hM bw_1_121 q23 dX7_proveExport_53 ?_
        refine m_aload_n (pc := 56) C dX7_proveExport_56 rfl (lv_at hl 1 rfl) ?_
        obtain ⟨q24, h⟩ := ck_some h
        have gq24 := Gr_X0_duty hM q24
        refine G_X0_duty (pc := 57) C hM bw_1_163 q24 dX7_proveExport_57 ?_
        obtain ⟨a25, ea25, h⟩ := nm_some h
        have ra25 : R32 a25 := by rw [ea25]; exact w32_R _
        refine m_iadd (pc := 60) C dX7_proveExport_60 ea25 ?_
        obtain ⟨q26, h⟩ := ck_some h
        obtain ⟨μ27, eμ27, h⟩ := nm_some h
        refine P_X2_discharged (pc := 61) C hM bw_1_121 q26 ra25 eμ27 dX7_proveExport_61 (fun H locs hM => ?_)
        refine m_aload_n (pc := 64) C dX7_proveExport_64 rfl (lv_at hl 1 rfl) ?_
        obtain ⟨q28, h⟩ := ck_some h
        have gq28 := Gr_X0_duty hM q28
        refine G_X0_duty (pc := 65) C hM bw_1_163 q28 dX7_proveExport_65 ?_
        cases h
        exact m_iret (pc := 68) C hM gq28 dX7_proveExport_68
      · have h := if_f h c20
        refine m_aload_n (pc := 39) C dX7_proveExport_39 rfl (lv_at hl 2 rfl) ?_
        refine m_bipush (pc := 40) C dX7_proveExport_40 rfl ?_
        obtain ⟨q29, h⟩ := ck_some h
        obtain ⟨a30, μ31, ca30, h⟩ := bd_some h
        refine V_X7_refuse (pc := 42) C hM ca30 rk_6 q29 bw_2_157 ⟨Nat.le_of_ble_eq_true rfl, Nat.le_of_ble_eq_true rfl⟩ hl.1 rc0 ⟨Nat.le_refl _, Nat.le_refl _⟩ dX7_proveExport_42 (fun ra30 H locs hM => ?_)
        cases h
        exact m_iret (pc := 45) C hM ra30 dX7_proveExport_45
  · have h := if_f h c5
    refine m_ldc (n := -100000001) (pc := 13) C bw_2_92 rfl dX7_proveExport_13 ?_
    cases h
    exact m_iret (pc := 15) C hM rk_m100000001 dX7_proveExport_15
theorem hd_X7_proveExport : yX7_proveExport.cls ≠ "java/lang/invoke/MethodHandle" ∧ yX7_proveExport.cls ≠ "java/lang/invoke/VarHandle" ∧ (parseMethodDescriptor yX7_proveExport.desc).map (fun d => d.parameters.length) = some 1 := by decide +kernel

theorem V_X7_proveExport {p : Program} {l : Launch} {e : Env} {R : Room} {s : State} {m : MethodId} {args : Array Value} {below : List Frame} {meth : Method} {c : Code} {H : Heap} {locs : List Loc} {cells slots : Nat} {Q : State → Prop} {cc : ByteArray} {pc nL : Nat} {ls : Array Slot} {rest : List Value} {ret : Option FieldType} {nmm own : String} {E : gE} {μ μ1 : Mm} {index : Nat} (C : gCx p s m args meth c cc nL ret nmm own) (hM : MS E μ s H locs) {N : Nat} {x0 x1 v : Int} (hc : f_X7_proveExport N x0 x1 μ = some (v, μ1)) (rx1 : R32 x1) (hck : μ x0 (-2) = 9) (h1 : Cond.methodLink own index yX7_proveExport ∈ bigL) (hR : 2 ≤ R.frames ∧ 44 ≤ R.locals) (hl : ls.size = nL) (hcat : RC rest 8) (hf : cells + 0 ≤ R.cells ∧ slots + 0 ≤ R.slots) (hdg : decode cc pc = .ok (.invokevirtual index, 3)) (kk : (R32 v) → ∀ (H1 : Heap) (locs1 : List Loc), MS E μ1 s H1 locs1 → W p l e R s m args below meth c H1 locs1 (cells + 0) (slots + 0) Q (F0 m (pc + 3) ls (vi v :: rest))) : W p l e R s m args below meth c H locs cells slots Q (F0 m pc ls (vi x1 :: vr E x0 :: rest)) := g_callV C KF_X7 hM (c_X7_proveExport l E N x0 x1 μ μ1 v hc rx1) hck (gV h1 bw_2_143 bs_1 bw_1_1 bw_2_144) ⟨rfl, hd_X7_proveExport⟩ hR rfl hl rfl hcat hf hdg kk
/-! X7_prove -/
def f_X7_prove (N : Nat) (x0 x1 : Int) (μ : Mm) : Rs :=
  ck (μ x0 (-2) = 9) <|
  ck (μ x0 (-2) = 9) <|
  ck (μ (μ x0 1) (-2) = 3) <|
  bd (f_X1_prepare N (μ x0 1) (μ x0 0) μ) fun a4 μ5 =>
  ck (μ5 x0 (-2) = 9) <|
  bd (f_X7_proveExport N x0 x1 μ5) fun a7 μ8 =>
  ck (μ8 x0 (-2) = 9) <|
  bd (f_X7_finishAct N x0 a7 μ8) fun a10 μ11 =>
  some (a10, μ11)
set_option maxHeartbeats 4000000 in
set_option maxRecDepth 100000 in
theorem c_X7_prove (l : Launch) (E : gE) (N : Nat) (x0 x1 : Int) (μ μ' : Mm) (r : Int) (h : f_X7_prove N x0 x1 μ = some (r, μ')) (rx1 : R32 x1) : gMet l E yX7_prove cX7_prove 2 (some .int) 4 104 [vr E x0, vi x1] (some (vi r)) (R32 r) μ μ' 0 0 := by
  refine g_ofW [1, 1] (by first | (simp only [List.map_cons, List.map_nil, vr_cat]; done) | (simp only [List.map_cons, List.map_nil, vr_cat]; rfl)) (by decide) (by decide) (fun p e s m below meth c ls C hM hl => ?_)
  replace C : gCx p s m _ meth c cX7_prove 2 (some .int) "prove" RX7 := C
  replace hl : lv_has ls 2 [(0, vr E x0), (1, vi x1)] := hl
  unfold f_X7_prove at h
  refine m_aload_n (pc := 0) C dX7_prove_0 rfl (lv_at hl 0 rfl) ?_
  obtain ⟨q1, h⟩ := ck_some h
  refine G_X7_history (pc := 1) C hM bw_2_64 q1 dX7_prove_1 ?_
  refine m_aload_n (pc := 4) C dX7_prove_4 rfl (lv_at hl 0 rfl) ?_
  obtain ⟨q2, h⟩ := ck_some h
  refine G_X7_now (pc := 5) C hM bw_2_63 q2 dX7_prove_5 ?_
  obtain ⟨q3, h⟩ := ck_some h
  obtain ⟨a4, μ5, ca4, h⟩ := bd_some h
  refine V_X1_prepare (pc := 8) C hM ca4 q3 bw_2_94 ⟨Nat.le_of_ble_eq_true rfl, Nat.le_of_ble_eq_true rfl⟩ hl.1 rc0 ⟨Nat.le_refl _, Nat.le_refl _⟩ dX7_prove_8 (fun _ H locs hM => ?_)
  refine m_aload_n (pc := 11) C dX7_prove_11 rfl (lv_at hl 0 rfl) ?_
  refine m_aload_n (pc := 12) C dX7_prove_12 rfl (lv_at hl 0 rfl) ?_
  refine m_iload_n (pc := 13) C dX7_prove_13 rfl (lv_at hl 1 rfl) ?_
  obtain ⟨q6, h⟩ := ck_some h
  obtain ⟨a7, μ8, ca7, h⟩ := bd_some h
  refine V_X7_proveExport (pc := 14) C hM ca7 rx1 q6 bw_2_141 ⟨Nat.le_of_ble_eq_true rfl, Nat.le_of_ble_eq_true rfl⟩ hl.1 (rcR rc0) ⟨Nat.le_refl _, Nat.le_refl _⟩ dX7_prove_14 (fun ra7 H locs hM => ?_)
  obtain ⟨q9, h⟩ := ck_some h
  obtain ⟨a10, μ11, ca10, h⟩ := bd_some h
  refine V_X7_finishAct (pc := 17) C hM ca10 ra7 q9 bw_2_121 ⟨Nat.le_of_ble_eq_true rfl, Nat.le_of_ble_eq_true rfl⟩ hl.1 rc0 ⟨Nat.le_refl _, Nat.le_refl _⟩ dX7_prove_17 (fun ra10 H locs hM => ?_)
  cases h
  exact m_iret (pc := 20) C hM ra10 dX7_prove_20
theorem hd_X7_prove : yX7_prove.cls ≠ "java/lang/invoke/MethodHandle" ∧ yX7_prove.cls ≠ "java/lang/invoke/VarHandle" ∧ (parseMethodDescriptor yX7_prove.desc).map (fun d => d.parameters.length) = some 1 := by decide +kernel

theorem V_X7_prove {p : Program} {l : Launch} {e : Env} {R : Room} {s : State} {m : MethodId} {args : Array Value} {below : List Frame} {meth : Method} {c : Code} {H : Heap} {locs : List Loc} {cells slots : Nat} {Q : State → Prop} {cc : ByteArray} {pc nL : Nat} {ls : Array Slot} {rest : List Value} {ret : Option FieldType} {nmm own : String} {E : gE} {μ μ1 : Mm} {index : Nat} (C : gCx p s m args meth c cc nL ret nmm own) (hM : MS E μ s H locs) {N : Nat} {x0 x1 v : Int} (hc : f_X7_prove N x0 x1 μ = some (v, μ1)) (rx1 : R32 x1) (hck : μ x0 (-2) = 9) (h1 : Cond.methodLink own index yX7_prove ∈ bigL) (hR : 5 ≤ R.frames ∧ 125 ≤ R.locals) (hl : ls.size = nL) (hcat : RC rest 8) (hf : cells + 0 ≤ R.cells ∧ slots + 0 ≤ R.slots) (hdg : decode cc pc = .ok (.invokevirtual index, 3)) (kk : (R32 v) → ∀ (H1 : Heap) (locs1 : List Loc), MS E μ1 s H1 locs1 → W p l e R s m args below meth c H1 locs1 (cells + 0) (slots + 0) Q (F0 m (pc + 3) ls (vi v :: rest))) : W p l e R s m args below meth c H locs cells slots Q (F0 m pc ls (vi x1 :: vr E x0 :: rest)) := g_callV C KF_X7 hM (c_X7_prove l E N x0 x1 μ μ1 v hc rx1) hck (gV h1 bw_2_138 bw_2_139 bw_1_1 bw_2_140) ⟨rfl, hd_X7_prove⟩ hR rfl hl rfl hcat hf hdg kk
/-! X7_destroyUnits -/
def f_X7_destroyUnits (N : Nat) (x0 x1 x2 : Int) (μ : Mm) : Rs :=
  ck (μ x0 (-2) = 9) <|
  ck (μ (μ x0 0) (-2) = 8) <|
  bd (f_X6_findLot N (μ x0 0) x1 μ) fun a3 μ4 =>
  ck ((0 : Int) ≤ a3) <|
  if ¬ a3 = 0 then
    (ck (μ4 x0 (-2) = 9) <|
     bd (f_X7_errorOfTaking N x0 a3 x2 μ4) fun a8 μ9 =>
     if a8 = 0 then
       (ck (μ9 x0 (-2) = 9) <|
        ck (μ9 (μ9 x0 0) (-2) = 8) <|
        ck (μ9 (μ9 (μ9 x0 0) 0) (-2) = 7) <|
        nm (w64 (x2 * (μ9 (μ9 (μ9 x0 0) 0) 5))) fun a14 =>
        ck (μ9 x0 (-2) = 9) <|
        ck (μ9 a3 (-2) = 4) <|
        ck (μ9 (μ9 x0 0) (-2) = 8) <|
        bd (f_X6_findOwner N (μ9 x0 0) (μ9 a3 0) μ9) fun a18 μ19 =>
        ck ((0 : Int) ≤ a18) <|
        if a18 = 0 then
          (ck (μ19 x0 (-2) = 9) <|
           bd (f_X7_refuse N x0 3 μ19) fun a23 μ24 =>
           some (a23, μ24))
        else
        ck (μ19 a18 (-2) = 6) <|
        if a14 ≤ (μ19 a18 0) then
          (ck (μ19 a3 (-2) = 4) <|
           bd (f_X2_dutyOfNext N a3 0 x2 μ19) fun a28 μ29 =>
           ck (μ29 a18 (-2) = 6) <|
           nm (w64 ((μ29 a18 0) - a14)) fun a31 =>
           ck (μ29 a18 (-2) = 6) <|
           nm (mset μ29 a18 0 a31) fun μ33 =>
           ck (μ33 x0 (-2) = 9) <|
           ck (μ33 (μ33 x0 0) (-2) = 8) <|
           nm (w64 ((μ33 (μ33 x0 0) 9) + a14)) fun a36 =>
           ck (μ33 (μ33 x0 0) (-2) = 8) <|
           nm (mset μ33 (μ33 x0 0) 9 a36) fun μ38 =>
           ck (μ38 a3 (-2) = 4) <|
           nm (w32 ((μ38 a3 9) + a28)) fun a40 =>
           ck (μ38 a3 (-2) = 4) <|
           nm (mset μ38 a3 9 a40) fun μ42 =>
           ck (μ42 a3 (-2) = 4) <|
           nm (w32 ((μ42 a3 7) - x2)) fun a44 =>
           ck (μ42 a3 (-2) = 4) <|
           nm (mset μ42 a3 7 a44) fun μ46 =>
           some (a28, μ46))
        else
        ck (μ19 x0 (-2) = 9) <|
        bd (f_X7_refuse N x0 3 μ19) fun a48 μ49 =>
        some (a48, μ49))
     else
     some (a8, μ9))
  else
  some ((-100000001), μ4)
set_option maxHeartbeats 4000000 in
set_option maxRecDepth 100000 in
theorem c_X7_destroyUnits (l : Launch) (E : gE) (N : Nat) (x0 x1 x2 : Int) (μ μ' : Mm) (r : Int) (h : f_X7_destroyUnits N x0 x1 x2 μ = some (r, μ')) (rx1 : R32 x1) (rx2 : R32 x2) : gMet l E yX7_destroyUnits cX7_destroyUnits 9 (some .int) 2 44 [vr E x0, vi x1, vi x2] (some (vi r)) (R32 r) μ μ' 0 0 := by
  refine g_ofW [1, 1, 1] (by first | (simp only [List.map_cons, List.map_nil, vr_cat]; done) | (simp only [List.map_cons, List.map_nil, vr_cat]; rfl)) (by decide) (by decide) (fun p e s m below meth c ls C hM hl => ?_)
  replace C : gCx p s m _ meth c cX7_destroyUnits 9 (some .int) "destroyUnits" RX7 := C
  replace hl : lv_has ls 9 [(0, vr E x0), (1, vi x1), (2, vi x2)] := hl
  unfold f_X7_destroyUnits at h
  refine m_aload_n (pc := 0) C dX7_destroyUnits_0 rfl (lv_at hl 0 rfl) ?_
  obtain ⟨q1, h⟩ := ck_some h
  refine G_X7_now (pc := 1) C hM bw_2_63 q1 dX7_destroyUnits_1 ?_
  refine m_iload_n (pc := 4) C dX7_destroyUnits_4 rfl (lv_at hl 1 rfl) ?_
  obtain ⟨q2, h⟩ := ck_some h
  obtain ⟨a3, μ4, ca3, h⟩ := bd_some h
  refine V_X6_findLot (pc := 5) C hM ca3 rx1 q2 bw_2_149 ⟨Nat.le_of_ble_eq_true rfl, Nat.le_of_ble_eq_true rfl⟩ hl.1 rc0 ⟨Nat.le_refl _, Nat.le_refl _⟩ dX7_destroyUnits_5 (fun _ H locs hM => ?_)
  refine m_astore_n (pc := 8) C dX7_destroyUnits_8 rfl hl (by decide) (lvK1 0 rfl (Nat.ne_of_beq_eq_false rfl) (Nat.ne_of_beq_eq_false rfl) (lvK2 2 rfl (Nat.ne_of_beq_eq_false rfl) rfl lvK0)) (fun ls hl => ?_)
  refine m_aload_n (pc := 9) C dX7_destroyUnits_9 rfl (lv_at hl 0 rfl) ?_
  obtain ⟨q6, h⟩ := ck_some h
  refine m_ifnonnull (tgt := 16) (pc := 10) C q6 dX7_destroyUnits_10 (by decide) (fun c5 => ?_) (fun c5 => ?_)
  · have h := if_t h c5
    refine m_aload_n (pc := 16) C dX7_destroyUnits_16 rfl (lv_at hl 1 rfl) ?_
    refine m_aload_n (pc := 17) C dX7_destroyUnits_17 rfl (lv_at hl 0 rfl) ?_
    refine m_iload_n (pc := 18) C dX7_destroyUnits_18 rfl (lv_at hl 2 rfl) ?_
    obtain ⟨q7, h⟩ := ck_some h
    obtain ⟨a8, μ9, ca8, h⟩ := bd_some h
    refine V_X7_errorOfTaking (pc := 19) C hM ca8 rx2 q7 bw_4_65 ⟨Nat.le_of_ble_eq_true rfl, Nat.le_of_ble_eq_true rfl⟩ hl.1 rc0 ⟨Nat.le_refl _, Nat.le_refl _⟩ dX7_destroyUnits_19 (fun ra8 H locs hM => ?_)
    refine m_istore (pc := 22) C dX7_destroyUnits_22 hl (by decide) (lvK2 0 rfl (Nat.ne_of_beq_eq_false rfl) (vr_cat _ _) (lvK1 1 rfl (Nat.ne_of_beq_eq_false rfl) (Nat.ne_of_beq_eq_false rfl) (lvK1 2 rfl (Nat.ne_of_beq_eq_false rfl) (Nat.ne_of_beq_eq_false rfl) lvK0))) (fun ls hl => ?_)
    refine m_iload (pc := 24) C dX7_destroyUnits_24 (lv_at hl 0 rfl) ?_
    refine m_if_eq (tgt := 32) (pc := 26) C ra8 dX7_destroyUnits_26 (by decide) (fun c10 => ?_) (fun c10 => ?_)
    · have h := if_t h c10
      refine m_iload_n (pc := 32) C dX7_destroyUnits_32 rfl (lv_at hl 3 rfl) ?_
      refine m_i2l (pc := 33) C rx2 dX7_destroyUnits_33 ?_
      refine m_aload_n (pc := 34) C dX7_destroyUnits_34 rfl (lv_at hl 2 rfl) ?_
      obtain ⟨q11, h⟩ := ck_some h
      refine G_X7_now (pc := 35) C hM bw_2_63 q11 dX7_destroyUnits_35 ?_
      obtain ⟨q12, h⟩ := ck_some h
      refine G_X6_settings (pc := 38) C hM bw_1_181 q12 dX7_destroyUnits_38 ?_
      obtain ⟨q13, h⟩ := ck_some h
      have gq13 := Gr_X5_fee hM q13
      refine G_X5_fee (pc := 41) C hM bw_1_51 q13 dX7_destroyUnits_41 ?_
      refine m_i2l (pc := 44) C gq13 dX7_destroyUnits_44 ?_
      obtain ⟨a14, ea14, h⟩ := nm_some h
      have ra14 : R64 a14 := by rw [ea14]; exact w64_R _
      refine m_lmul (pc := 45) C dX7_destroyUnits_45 ea14 ?_
      refine m_lstore (pc := 46) C dX7_destroyUnits_46 hl (by decide) (lvK1 1 rfl (Nat.ne_of_beq_eq_false rfl) (Nat.ne_of_beq_eq_false rfl) (lvK1 2 rfl (Nat.ne_of_beq_eq_false rfl) (Nat.ne_of_beq_eq_false rfl) (lvK1 3 rfl (Nat.ne_of_beq_eq_false rfl) (Nat.ne_of_beq_eq_false rfl) lvK0))) (lvN1 (Nat.ne_of_beq_eq_false rfl) (lvN1 (Nat.ne_of_beq_eq_false rfl) (lvN1 (Nat.ne_of_beq_eq_false rfl) lvN0))) (fun ls hl => ?_)
      refine m_aload_n (pc := 48) C dX7_destroyUnits_48 rfl (lv_at hl 2 rfl) ?_
      obtain ⟨q15, h⟩ := ck_some h
      refine G_X7_now (pc := 49) C hM bw_2_63 q15 dX7_destroyUnits_49 ?_
      refine m_aload_n (pc := 52) C dX7_destroyUnits_52 rfl (lv_at hl 1 rfl) ?_
      obtain ⟨q16, h⟩ := ck_some h
      have gq16 := Gr_X2_owner hM q16
      refine G_X2_owner (pc := 53) C hM bw_1_100 q16 dX7_destroyUnits_53 ?_
      obtain ⟨q17, h⟩ := ck_some h
      obtain ⟨a18, μ19, ca18, h⟩ := bd_some h
      refine V_X6_findOwner (pc := 56) C hM ca18 gq16 q17 bw_3_34 ⟨Nat.le_of_ble_eq_true rfl, Nat.le_of_ble_eq_true rfl⟩ hl.1 rc0 ⟨Nat.le_refl _, Nat.le_refl _⟩ dX7_destroyUnits_56 (fun _ H locs hM => ?_)
      refine m_astore (pc := 59) C dX7_destroyUnits_59 hl (by decide) (lvK1 0 rfl (Nat.ne_of_beq_eq_false rfl) (Nat.ne_of_beq_eq_false rfl) (lvK1 1 rfl (Nat.ne_of_beq_eq_false rfl) (Nat.ne_of_beq_eq_false rfl) (lvK1 2 rfl (Nat.ne_of_beq_eq_false rfl) (Nat.ne_of_beq_eq_false rfl) (lvK1 3 rfl (Nat.ne_of_beq_eq_false rfl) (Nat.ne_of_beq_eq_false rfl) lvK0)))) (fun ls hl => ?_)
      refine m_aload (pc := 61) C dX7_destroyUnits_61 (lv_at hl 0 rfl) ?_
      obtain ⟨q21, h⟩ := ck_some h
      refine m_ifnull (tgt := 77) (pc := 63) C q21 dX7_destroyUnits_63 (by decide) (fun c20 => ?_) (fun c20 => ?_)
      · have h := if_t h c20
        refine m_aload_n (pc := 77) C dX7_destroyUnits_77 rfl (lv_at hl 3 rfl) ?_
        refine m_iconst (pc := 78) C dX7_destroyUnits_78 ?_
        obtain ⟨q22, h⟩ := ck_some h
        obtain ⟨a23, μ24, ca23, h⟩ := bd_some h
        refine V_X7_refuse (pc := 79) C hM ca23 rk_3 q22 bw_2_157 ⟨Nat.le_of_ble_eq_true rfl, Nat.le_of_ble_eq_true rfl⟩ hl.1 rc0 ⟨Nat.le_refl _, Nat.le_refl _⟩ dX7_destroyUnits_79 (fun ra23 H locs hM => ?_)
        cases h
        exact m_iret (pc := 82) C hM ra23 dX7_destroyUnits_82
      · have h := if_f h c20
        refine m_aload (pc := 66) C dX7_destroyUnits_66 (lv_at hl 0 rfl) ?_
        obtain ⟨q25, h⟩ := ck_some h
        have gq25 := Gr_X4_cash hM q25
        refine G_X4_cash (pc := 68) C hM bw_1_74 q25 dX7_destroyUnits_68 ?_
        refine m_lload (pc := 71) C dX7_destroyUnits_71 (lv_at hl 1 rfl) ?_
        refine m_lcmp_ge (tgt := 83) (pc := 73) C gq25 ra14 dX7_destroyUnits_73 dX7_destroyUnits_74 (by decide) (fun c26 => ?_) (fun c26 => ?_)
        · have h := if_t h c26
          refine m_aload_n (pc := 83) C dX7_destroyUnits_83 rfl (lv_at hl 2 rfl) ?_
          refine m_iconst (pc := 84) C dX7_destroyUnits_84 ?_
          refine m_iload_n (pc := 85) C dX7_destroyUnits_85 rfl (lv_at hl 4 rfl) ?_
          obtain ⟨q27, h⟩ := ck_some h
          obtain ⟨a28, μ29, ca28, h⟩ := bd_some h
          refine V_X2_dutyOfNext (pc := 86) C hM ca28 rk_0 rx2 q27 bw_4_70 ⟨Nat.le_of_ble_eq_true rfl, Nat.le_of_ble_eq_true rfl⟩ hl.1 rc0 ⟨Nat.le_refl _, Nat.le_refl _⟩ dX7_destroyUnits_86 (fun ra28 H locs hM => ?_)
          refine m_istore (pc := 89) C dX7_destroyUnits_89 hl (by decide) (lvK2 0 rfl (Nat.ne_of_beq_eq_false rfl) (vr_cat _ _) (lvK1 1 rfl (Nat.ne_of_beq_eq_false rfl) (Nat.ne_of_beq_eq_false rfl) (lvK1 2 rfl (Nat.ne_of_beq_eq_false rfl) (Nat.ne_of_beq_eq_false rfl) (lvK1 3 rfl (Nat.ne_of_beq_eq_false rfl) (Nat.ne_of_beq_eq_false rfl) (lvK1 4 rfl (Nat.ne_of_beq_eq_false rfl) (Nat.ne_of_beq_eq_false rfl) lvK0))))) (fun ls hl => ?_)
          refine m_aload (pc := 91) C dX7_destroyUnits_91 (lv_at hl 1 rfl) ?_
          refine m_dup (pc := 93) C (vr_cat _ _) dX7_destroyUnits_93 ?_
          obtain ⟨q30, h⟩ := ck_some h
          have gq30 := Gr_X4_cash hM q30
          refine G_X4_cash (pc := 94) C hM bw_1_74 q30 dX7_destroyUnits_94 ?_
          refine m_lload (pc := 97) C dX7_destroyUnits_97 (lv_at hl 2 rfl) ?_
          obtain ⟨a31, ea31, h⟩ := nm_some h
          have ra31 : R64 a31 := by rw [ea31]; exact w64_R _
          refine m_lsub (pc := 99) C dX7_destroyUnits_99 ea31 ?_
          obtain ⟨q32, h⟩ := ck_some h
          obtain ⟨μ33, eμ33, h⟩ := nm_some h
          refine P_X4_cash (pc := 100) C hM bw_1_74 q32 ra31 eμ33 dX7_destroyUnits_100 (fun H locs hM => ?_)
          refine m_aload_n (pc := 103) C dX7_destroyUnits_103 rfl (lv_at hl 4 rfl) ?_
          obtain ⟨q34, h⟩ := ck_some h
          refine G_X7_now (pc := 104) C hM bw_2_63 q34 dX7_destroyUnits_104 ?_
          refine m_dup (pc := 107) C (vr_cat _ _) dX7_destroyUnits_107 ?_
          obtain ⟨q35, h⟩ := ck_some h
          have gq35 := Gr_X6_fees hM q35
          refine G_X6_fees (pc := 108) C hM bw_1_198 q35 dX7_destroyUnits_108 ?_
          refine m_lload (pc := 111) C dX7_destroyUnits_111 (lv_at hl 2 rfl) ?_
          obtain ⟨a36, ea36, h⟩ := nm_some h
          have ra36 : R64 a36 := by rw [ea36]; exact w64_R _
          refine m_ladd (pc := 113) C dX7_destroyUnits_113 ea36 ?_
          obtain ⟨q37, h⟩ := ck_some h
          obtain ⟨μ38, eμ38, h⟩ := nm_some h
          refine P_X6_fees (pc := 114) C hM bw_1_198 q37 ra36 eμ38 dX7_destroyUnits_114 (fun H locs hM => ?_)
          refine m_aload_n (pc := 117) C dX7_destroyUnits_117 rfl (lv_at hl 3 rfl) ?_
          refine m_dup (pc := 118) C (vr_cat _ _) dX7_destroyUnits_118 ?_
          obtain ⟨q39, h⟩ := ck_some h
          have gq39 := Gr_X2_discharged hM q39
          refine G_X2_discharged (pc := 119) C hM bw_1_121 q39 dX7_destroyUnits_119 ?_
          refine m_iload (pc := 122) C dX7_destroyUnits_122 (lv_at hl 0 rfl) ?_
          obtain ⟨a40, ea40, h⟩ := nm_some h
          have ra40 : R32 a40 := by rw [ea40]; exact w32_R _
          refine m_iadd (pc := 124) C dX7_destroyUnits_124 ea40 ?_
          obtain ⟨q41, h⟩ := ck_some h
          obtain ⟨μ42, eμ42, h⟩ := nm_some h
          refine P_X2_discharged (pc := 125) C hM bw_1_121 q41 ra40 eμ42 dX7_destroyUnits_125 (fun H locs hM => ?_)
          refine m_aload_n (pc := 128) C dX7_destroyUnits_128 rfl (lv_at hl 3 rfl) ?_
          refine m_dup (pc := 129) C (vr_cat _ _) dX7_destroyUnits_129 ?_
          obtain ⟨q43, h⟩ := ck_some h
          have gq43 := Gr_X2_stored hM q43
          refine G_X2_stored (pc := 130) C hM bw_1_116 q43 dX7_destroyUnits_130 ?_
          refine m_iload_n (pc := 133) C dX7_destroyUnits_133 rfl (lv_at hl 5 rfl) ?_
          obtain ⟨a44, ea44, h⟩ := nm_some h
          have ra44 : R32 a44 := by rw [ea44]; exact w32_R _
          refine m_isub (pc := 134) C dX7_destroyUnits_134 ea44 ?_
          obtain ⟨q45, h⟩ := ck_some h
          obtain ⟨μ46, eμ46, h⟩ := nm_some h
          refine P_X2_stored (pc := 135) C hM bw_1_116 q45 ra44 eμ46 dX7_destroyUnits_135 (fun H locs hM => ?_)
          refine m_iload (pc := 138) C dX7_destroyUnits_138 (lv_at hl 0 rfl) ?_
          cases h
          exact m_iret (pc := 140) C hM ra28 dX7_destroyUnits_140
        · have h := if_f h c26
          refine m_aload_n (pc := 77) C dX7_destroyUnits_77 rfl (lv_at hl 3 rfl) ?_
          refine m_iconst (pc := 78) C dX7_destroyUnits_78 ?_
          obtain ⟨q47, h⟩ := ck_some h
          obtain ⟨a48, μ49, ca48, h⟩ := bd_some h
          refine V_X7_refuse (pc := 79) C hM ca48 rk_3 q47 bw_2_157 ⟨Nat.le_of_ble_eq_true rfl, Nat.le_of_ble_eq_true rfl⟩ hl.1 rc0 ⟨Nat.le_refl _, Nat.le_refl _⟩ dX7_destroyUnits_79 (fun ra48 H locs hM => ?_)
          cases h
          exact m_iret (pc := 82) C hM ra48 dX7_destroyUnits_82
    · have h := if_f h c10
      refine m_iload (pc := 29) C dX7_destroyUnits_29 (lv_at hl 0 rfl) ?_
      cases h
      exact m_iret (pc := 31) C hM ra8 dX7_destroyUnits_31
  · have h := if_f h c5
    refine m_ldc (n := -100000001) (pc := 13) C bw_2_92 rfl dX7_destroyUnits_13 ?_
    cases h
    exact m_iret (pc := 15) C hM rk_m100000001 dX7_destroyUnits_15
theorem hd_X7_destroyUnits : yX7_destroyUnits.cls ≠ "java/lang/invoke/MethodHandle" ∧ yX7_destroyUnits.cls ≠ "java/lang/invoke/VarHandle" ∧ (parseMethodDescriptor yX7_destroyUnits.desc).map (fun d => d.parameters.length) = some 2 := by decide +kernel

theorem V_X7_destroyUnits {p : Program} {l : Launch} {e : Env} {R : Room} {s : State} {m : MethodId} {args : Array Value} {below : List Frame} {meth : Method} {c : Code} {H : Heap} {locs : List Loc} {cells slots : Nat} {Q : State → Prop} {cc : ByteArray} {pc nL : Nat} {ls : Array Slot} {rest : List Value} {ret : Option FieldType} {nmm own : String} {E : gE} {μ μ1 : Mm} {index : Nat} (C : gCx p s m args meth c cc nL ret nmm own) (hM : MS E μ s H locs) {N : Nat} {x0 x1 x2 v : Int} (hc : f_X7_destroyUnits N x0 x1 x2 μ = some (v, μ1)) (rx1 : R32 x1) (rx2 : R32 x2) (hck : μ x0 (-2) = 9) (h1 : Cond.methodLink own index yX7_destroyUnits ∈ bigL) (hR : 3 ≤ R.frames ∧ 72 ≤ R.locals) (hl : ls.size = nL) (hcat : RC rest 8) (hf : cells + 0 ≤ R.cells ∧ slots + 0 ≤ R.slots) (hdg : decode cc pc = .ok (.invokevirtual index, 3)) (kk : (R32 v) → ∀ (H1 : Heap) (locs1 : List Loc), MS E μ1 s H1 locs1 → W p l e R s m args below meth c H1 locs1 (cells + 0) (slots + 0) Q (F0 m (pc + 3) ls (vi v :: rest))) : W p l e R s m args below meth c H locs cells slots Q (F0 m pc ls (vi x2 :: vi x1 :: vr E x0 :: rest)) := g_callV C KF_X7 hM (c_X7_destroyUnits l E N x0 x1 x2 μ μ1 v hc rx1 rx2) hck (gV h1 bw_4_99 bs_11 bw_1_1 bw_4_100) ⟨rfl, hd_X7_destroyUnits⟩ hR rfl hl rfl hcat hf hdg kk
/-! X7_destroy -/
def f_X7_destroy (N : Nat) (x0 x1 x2 : Int) (μ : Mm) : Rs :=
  ck (μ x0 (-2) = 9) <|
  ck (μ x0 (-2) = 9) <|
  ck (μ (μ x0 1) (-2) = 3) <|
  bd (f_X1_prepare N (μ x0 1) (μ x0 0) μ) fun a4 μ5 =>
  ck (μ5 x0 (-2) = 9) <|
  bd (f_X7_destroyUnits N x0 x1 x2 μ5) fun a7 μ8 =>
  ck (μ8 x0 (-2) = 9) <|
  bd (f_X7_finishAct N x0 a7 μ8) fun a10 μ11 =>
  some (a10, μ11)
set_option maxHeartbeats 4000000 in
set_option maxRecDepth 100000 in
theorem c_X7_destroy (l : Launch) (E : gE) (N : Nat) (x0 x1 x2 : Int) (μ μ' : Mm) (r : Int) (h : f_X7_destroy N x0 x1 x2 μ = some (r, μ')) (rx1 : R32 x1) (rx2 : R32 x2) : gMet l E yX7_destroy cX7_destroy 3 (some .int) 4 104 [vr E x0, vi x1, vi x2] (some (vi r)) (R32 r) μ μ' 0 0 := by
  refine g_ofW [1, 1, 1] (by first | (simp only [List.map_cons, List.map_nil, vr_cat]; done) | (simp only [List.map_cons, List.map_nil, vr_cat]; rfl)) (by decide) (by decide) (fun p e s m below meth c ls C hM hl => ?_)
  replace C : gCx p s m _ meth c cX7_destroy 3 (some .int) "destroy" RX7 := C
  replace hl : lv_has ls 3 [(0, vr E x0), (1, vi x1), (2, vi x2)] := hl
  unfold f_X7_destroy at h
  refine m_aload_n (pc := 0) C dX7_destroy_0 rfl (lv_at hl 0 rfl) ?_
  obtain ⟨q1, h⟩ := ck_some h
  refine G_X7_history (pc := 1) C hM bw_2_64 q1 dX7_destroy_1 ?_
  refine m_aload_n (pc := 4) C dX7_destroy_4 rfl (lv_at hl 0 rfl) ?_
  obtain ⟨q2, h⟩ := ck_some h
  refine G_X7_now (pc := 5) C hM bw_2_63 q2 dX7_destroy_5 ?_
  obtain ⟨q3, h⟩ := ck_some h
  obtain ⟨a4, μ5, ca4, h⟩ := bd_some h
  refine V_X1_prepare (pc := 8) C hM ca4 q3 bw_2_94 ⟨Nat.le_of_ble_eq_true rfl, Nat.le_of_ble_eq_true rfl⟩ hl.1 rc0 ⟨Nat.le_refl _, Nat.le_refl _⟩ dX7_destroy_8 (fun _ H locs hM => ?_)
  refine m_aload_n (pc := 11) C dX7_destroy_11 rfl (lv_at hl 0 rfl) ?_
  refine m_aload_n (pc := 12) C dX7_destroy_12 rfl (lv_at hl 0 rfl) ?_
  refine m_iload_n (pc := 13) C dX7_destroy_13 rfl (lv_at hl 1 rfl) ?_
  refine m_iload_n (pc := 14) C dX7_destroy_14 rfl (lv_at hl 2 rfl) ?_
  obtain ⟨q6, h⟩ := ck_some h
  obtain ⟨a7, μ8, ca7, h⟩ := bd_some h
  refine V_X7_destroyUnits (pc := 15) C hM ca7 rx1 rx2 q6 bw_4_97 ⟨Nat.le_of_ble_eq_true rfl, Nat.le_of_ble_eq_true rfl⟩ hl.1 (rcR rc0) ⟨Nat.le_refl _, Nat.le_refl _⟩ dX7_destroy_15 (fun ra7 H locs hM => ?_)
  obtain ⟨q9, h⟩ := ck_some h
  obtain ⟨a10, μ11, ca10, h⟩ := bd_some h
  refine V_X7_finishAct (pc := 18) C hM ca10 ra7 q9 bw_2_121 ⟨Nat.le_of_ble_eq_true rfl, Nat.le_of_ble_eq_true rfl⟩ hl.1 rc0 ⟨Nat.le_refl _, Nat.le_refl _⟩ dX7_destroy_18 (fun ra10 H locs hM => ?_)
  cases h
  exact m_iret (pc := 21) C hM ra10 dX7_destroy_21
theorem hd_X7_destroy : yX7_destroy.cls ≠ "java/lang/invoke/MethodHandle" ∧ yX7_destroy.cls ≠ "java/lang/invoke/VarHandle" ∧ (parseMethodDescriptor yX7_destroy.desc).map (fun d => d.parameters.length) = some 2 := by decide +kernel

theorem V_X7_destroy {p : Program} {l : Launch} {e : Env} {R : Room} {s : State} {m : MethodId} {args : Array Value} {below : List Frame} {meth : Method} {c : Code} {H : Heap} {locs : List Loc} {cells slots : Nat} {Q : State → Prop} {cc : ByteArray} {pc nL : Nat} {ls : Array Slot} {rest : List Value} {ret : Option FieldType} {nmm own : String} {E : gE} {μ μ1 : Mm} {index : Nat} (C : gCx p s m args meth c cc nL ret nmm own) (hM : MS E μ s H locs) {N : Nat} {x0 x1 x2 v : Int} (hc : f_X7_destroy N x0 x1 x2 μ = some (v, μ1)) (rx1 : R32 x1) (rx2 : R32 x2) (hck : μ x0 (-2) = 9) (h1 : Cond.methodLink own index yX7_destroy ∈ bigL) (hR : 5 ≤ R.frames ∧ 126 ≤ R.locals) (hl : ls.size = nL) (hcat : RC rest 8) (hf : cells + 0 ≤ R.cells ∧ slots + 0 ≤ R.slots) (hdg : decode cc pc = .ok (.invokevirtual index, 3)) (kk : (R32 v) → ∀ (H1 : Heap) (locs1 : List Loc), MS E μ1 s H1 locs1 → W p l e R s m args below meth c H1 locs1 (cells + 0) (slots + 0) Q (F0 m (pc + 3) ls (vi v :: rest))) : W p l e R s m args below meth c H locs cells slots Q (F0 m pc ls (vi x2 :: vi x1 :: vr E x0 :: rest)) := g_callV C KF_X7 hM (c_X7_destroy l E N x0 x1 x2 μ μ1 v hc rx1 rx2) hck (gV h1 bw_4_94 bw_4_95 bw_1_1 bw_4_96) ⟨rfl, hd_X7_destroy⟩ hR rfl hl rfl hcat hf hdg kk
/-! X7_giveLot -/
def f_X7_giveLot (N : Nat) (x0 x1 x2 : Int) (μ : Mm) : Rs :=
  ck (μ x0 (-2) = 9) <|
  ck (μ (μ x0 0) (-2) = 8) <|
  bd (f_X6_findLot N (μ x0 0) x1 μ) fun a3 μ4 =>
  ck (μ4 x0 (-2) = 9) <|
  ck (μ4 (μ4 x0 0) (-2) = 8) <|
  bd (f_X6_findOwner N (μ4 x0 0) x2 μ4) fun a7 μ8 =>
  ck ((0 : Int) ≤ a3) <|
  if a3 = 0 then
    (some ((-100000001), μ8))
  else
  ck ((0 : Int) ≤ a7) <|
  if ¬ a7 = 0 then
    (ck (μ8 a3 (-2) = 4) <|
     if ¬ (μ8 a3 0) = x2 then
       (ck (μ8 a7 (-2) = 6) <|
        if (μ8 a7 2) ≤ 0 then
          (ck (μ8 x0 (-2) = 9) <|
           ck (μ8 (μ8 x0 0) (-2) = 8) <|
           ck (μ8 a7 (-2) = 6) <|
           ck (μ8 x0 (-2) = 9) <|
           ck (μ8 (μ8 x0 0) (-2) = 8) <|
           bd (f_X6_useOf N (μ8 x0 0) x2 μ8) fun a22 μ23 =>
           ck (μ23 a3 (-2) = 4) <|
           bd (f_X2_suspended N a3 μ23) fun a25 μ26 =>
           nm (w32 (a22 + a25)) fun a27 =>
           ck (μ26 (μ8 (μ8 x0 0) 0) (-2) = 7) <|
           bd (f_X5_covers N (μ8 (μ8 x0 0) 0) (μ8 a7 1) a27 μ26) fun a29 μ30 =>
           if ¬ a29 = 0 then
             (ck (μ30 a3 (-2) = 4) <|
              nm (mset μ30 a3 0 x2) fun μ33 =>
              some (μ8 a3 0, μ33))
           else
           ck (μ30 x0 (-2) = 9) <|
           bd (f_X7_refuse N x0 2 μ30) fun a35 μ36 =>
           some (a35, μ36))
        else
        ck (μ8 x0 (-2) = 9) <|
        bd (f_X7_refuse N x0 1 μ8) fun a38 μ39 =>
        some (a38, μ39))
     else
     some ((-100000002), μ8))
  else
  some ((-100000001), μ8)
set_option maxHeartbeats 4000000 in
set_option maxRecDepth 100000 in
theorem c_X7_giveLot (l : Launch) (E : gE) (N : Nat) (x0 x1 x2 : Int) (μ μ' : Mm) (r : Int) (h : f_X7_giveLot N x0 x1 x2 μ = some (r, μ')) (rx1 : R32 x1) (rx2 : R32 x2) : gMet l E yX7_giveLot cX7_giveLot 6 (some .int) 2 43 [vr E x0, vi x1, vi x2] (some (vi r)) (R32 r) μ μ' 0 0 := by
  refine g_ofW [1, 1, 1] (by first | (simp only [List.map_cons, List.map_nil, vr_cat]; done) | (simp only [List.map_cons, List.map_nil, vr_cat]; rfl)) (by decide) (by decide) (fun p e s m below meth c ls C hM hl => ?_)
  replace C : gCx p s m _ meth c cX7_giveLot 6 (some .int) "giveLot" RX7 := C
  replace hl : lv_has ls 6 [(0, vr E x0), (1, vi x1), (2, vi x2)] := hl
  unfold f_X7_giveLot at h
  refine m_aload_n (pc := 0) C dX7_giveLot_0 rfl (lv_at hl 0 rfl) ?_
  obtain ⟨q1, h⟩ := ck_some h
  refine G_X7_now (pc := 1) C hM bw_2_63 q1 dX7_giveLot_1 ?_
  refine m_iload_n (pc := 4) C dX7_giveLot_4 rfl (lv_at hl 1 rfl) ?_
  obtain ⟨q2, h⟩ := ck_some h
  obtain ⟨a3, μ4, ca3, h⟩ := bd_some h
  refine V_X6_findLot (pc := 5) C hM ca3 rx1 q2 bw_2_149 ⟨Nat.le_of_ble_eq_true rfl, Nat.le_of_ble_eq_true rfl⟩ hl.1 rc0 ⟨Nat.le_refl _, Nat.le_refl _⟩ dX7_giveLot_5 (fun _ H locs hM => ?_)
  refine m_astore_n (pc := 8) C dX7_giveLot_8 rfl hl (by decide) (lvK1 0 rfl (Nat.ne_of_beq_eq_false rfl) (Nat.ne_of_beq_eq_false rfl) (lvK2 2 rfl (Nat.ne_of_beq_eq_false rfl) rfl lvK0)) (fun ls hl => ?_)
  refine m_aload_n (pc := 9) C dX7_giveLot_9 rfl (lv_at hl 1 rfl) ?_
  obtain ⟨q5, h⟩ := ck_some h
  refine G_X7_now (pc := 10) C hM bw_2_63 q5 dX7_giveLot_10 ?_
  refine m_iload_n (pc := 13) C dX7_giveLot_13 rfl (lv_at hl 2 rfl) ?_
  obtain ⟨q6, h⟩ := ck_some h
  obtain ⟨a7, μ8, ca7, h⟩ := bd_some h
  refine V_X6_findOwner (pc := 14) C hM ca7 rx2 q6 bw_3_34 ⟨Nat.le_of_ble_eq_true rfl, Nat.le_of_ble_eq_true rfl⟩ hl.1 rc0 ⟨Nat.le_refl _, Nat.le_refl _⟩ dX7_giveLot_14 (fun _ H locs hM => ?_)
  refine m_astore (pc := 17) C dX7_giveLot_17 hl (by decide) (lvK2 0 rfl (Nat.ne_of_beq_eq_false rfl) (vr_cat _ _) (lvK1 1 rfl (Nat.ne_of_beq_eq_false rfl) (Nat.ne_of_beq_eq_false rfl) (lvK1 2 rfl (Nat.ne_of_beq_eq_false rfl) (Nat.ne_of_beq_eq_false rfl) lvK0))) (fun ls hl => ?_)
  refine m_aload_n (pc := 19) C dX7_giveLot_19 rfl (lv_at hl 1 rfl) ?_
  obtain ⟨q10, h⟩ := ck_some h
  refine m_ifnull (tgt := 28) (pc := 20) C q10 dX7_giveLot_20 (by decide) (fun c9 => ?_) (fun c9 => ?_)
  · have h := if_t h c9
    refine m_ldc (n := -100000001) (pc := 28) C bw_2_92 rfl dX7_giveLot_28 ?_
    cases h
    exact m_iret (pc := 30) C hM rk_m100000001 dX7_giveLot_30
  · have h := if_f h c9
    refine m_aload (pc := 23) C dX7_giveLot_23 (lv_at hl 0 rfl) ?_
    obtain ⟨q12, h⟩ := ck_some h
    refine m_ifnonnull (tgt := 31) (pc := 25) C q12 dX7_giveLot_25 (by decide) (fun c11 => ?_) (fun c11 => ?_)
    · have h := if_t h c11
      refine m_aload_n (pc := 31) C dX7_giveLot_31 rfl (lv_at hl 1 rfl) ?_
      obtain ⟨q13, h⟩ := ck_some h
      have gq13 := Gr_X2_owner hM q13
      refine G_X2_owner (pc := 32) C hM bw_1_100 q13 dX7_giveLot_32 ?_
      refine m_istore (pc := 35) C dX7_giveLot_35 hl (by decide) (lvK2 0 rfl (Nat.ne_of_beq_eq_false rfl) (vr_cat _ _) (lvK1 1 rfl (Nat.ne_of_beq_eq_false rfl) (Nat.ne_of_beq_eq_false rfl) (lvK1 2 rfl (Nat.ne_of_beq_eq_false rfl) (Nat.ne_of_beq_eq_false rfl) (lvK1 3 rfl (Nat.ne_of_beq_eq_false rfl) (Nat.ne_of_beq_eq_false rfl) lvK0)))) (fun ls hl => ?_)
      refine m_iload (pc := 37) C dX7_giveLot_37 (lv_at hl 0 rfl) ?_
      refine m_iload_n (pc := 39) C dX7_giveLot_39 rfl (lv_at hl 4 rfl) ?_
      refine m_icmp_ne (tgt := 46) (pc := 40) C gq13 rx2 dX7_giveLot_40 (by decide) (fun c14 => ?_) (fun c14 => ?_)
      · have h := if_t h c14
        refine m_aload (pc := 46) C dX7_giveLot_46 (lv_at hl 1 rfl) ?_
        obtain ⟨q15, h⟩ := ck_some h
        have gq15 := Gr_X4_debt hM q15
        refine G_X4_debt (pc := 48) C hM bw_1_78 q15 dX7_giveLot_48 ?_
        refine m_if_le (tgt := 60) (pc := 51) C gq15 dX7_giveLot_51 (by decide) (fun c16 => ?_) (fun c16 => ?_)
        · have h := if_t h c16
          refine m_aload_n (pc := 60) C dX7_giveLot_60 rfl (lv_at hl 3 rfl) ?_
          obtain ⟨q17, h⟩ := ck_some h
          refine G_X7_now (pc := 61) C hM bw_2_63 q17 dX7_giveLot_61 ?_
          obtain ⟨q18, h⟩ := ck_some h
          refine G_X6_settings (pc := 64) C hM bw_1_181 q18 dX7_giveLot_64 ?_
          refine m_aload (pc := 67) C dX7_giveLot_67 (lv_at hl 1 rfl) ?_
          obtain ⟨q19, h⟩ := ck_some h
          have gq19 := Gr_X4_guarantee hM q19
          refine G_X4_guarantee (pc := 69) C hM bw_1_76 q19 dX7_giveLot_69 ?_
          refine m_aload_n (pc := 72) C dX7_giveLot_72 rfl (lv_at hl 3 rfl) ?_
          obtain ⟨q20, h⟩ := ck_some h
          refine G_X7_now (pc := 73) C hM bw_2_63 q20 dX7_giveLot_73 ?_
          refine m_iload_n (pc := 76) C dX7_giveLot_76 rfl (lv_at hl 4 rfl) ?_
          obtain ⟨q21, h⟩ := ck_some h
          obtain ⟨a22, μ23, ca22, h⟩ := bd_some h
          refine V_X6_useOf (pc := 77) C hM ca22 rx2 q21 bw_3_36 ⟨Nat.le_of_ble_eq_true rfl, Nat.le_of_ble_eq_true rfl⟩ hl.1 (rcI (rcR rc0)) ⟨Nat.le_refl _, Nat.le_refl _⟩ dX7_giveLot_77 (fun ra22 H locs hM => ?_)
          refine m_aload_n (pc := 80) C dX7_giveLot_80 rfl (lv_at hl 2 rfl) ?_
          obtain ⟨q24, h⟩ := ck_some h
          obtain ⟨a25, μ26, ca25, h⟩ := bd_some h
          refine V_X2_suspended (pc := 81) C hM ca25 q24 bw_3_58 ⟨Nat.le_of_ble_eq_true rfl, Nat.le_of_ble_eq_true rfl⟩ hl.1 (rcI (rcI (rcR rc0))) ⟨Nat.le_refl _, Nat.le_refl _⟩ dX7_giveLot_81 (fun ra25 H locs hM => ?_)
          obtain ⟨a27, ea27, h⟩ := nm_some h
          have ra27 : R32 a27 := by rw [ea27]; exact w32_R _
          refine m_iadd (pc := 84) C dX7_giveLot_84 ea27 ?_
          obtain ⟨q28, h⟩ := ck_some h
          obtain ⟨a29, μ30, ca29, h⟩ := bd_some h
          refine V_X5_covers (pc := 85) C hM ca29 gq19 ra27 q28 bw_3_44 ⟨Nat.le_of_ble_eq_true rfl, Nat.le_of_ble_eq_true rfl⟩ hl.1 rc0 ⟨Nat.le_refl _, Nat.le_refl _⟩ dX7_giveLot_85 (fun ra29 H locs hM => ?_)
          refine m_if_ne (tgt := 97) (pc := 88) C ra29 dX7_giveLot_88 (by decide) (fun c31 => ?_) (fun c31 => ?_)
          · have h := if_t h c31
            refine m_aload_n (pc := 97) C dX7_giveLot_97 rfl (lv_at hl 2 rfl) ?_
            refine m_iload_n (pc := 98) C dX7_giveLot_98 rfl (lv_at hl 4 rfl) ?_
            obtain ⟨q32, h⟩ := ck_some h
            obtain ⟨μ33, eμ33, h⟩ := nm_some h
            refine P_X2_owner (pc := 99) C hM bw_1_100 q32 rx2 eμ33 dX7_giveLot_99 (fun H locs hM => ?_)
            refine m_iload (pc := 102) C dX7_giveLot_102 (lv_at hl 0 rfl) ?_
            cases h
            exact m_iret (pc := 104) C hM gq13 dX7_giveLot_104
          · have h := if_f h c31
            refine m_aload_n (pc := 91) C dX7_giveLot_91 rfl (lv_at hl 3 rfl) ?_
            refine m_iconst (pc := 92) C dX7_giveLot_92 ?_
            obtain ⟨q34, h⟩ := ck_some h
            obtain ⟨a35, μ36, ca35, h⟩ := bd_some h
            refine V_X7_refuse (pc := 93) C hM ca35 rk_2 q34 bw_2_157 ⟨Nat.le_of_ble_eq_true rfl, Nat.le_of_ble_eq_true rfl⟩ hl.1 rc0 ⟨Nat.le_refl _, Nat.le_refl _⟩ dX7_giveLot_93 (fun ra35 H locs hM => ?_)
            cases h
            exact m_iret (pc := 96) C hM ra35 dX7_giveLot_96
        · have h := if_f h c16
          refine m_aload_n (pc := 54) C dX7_giveLot_54 rfl (lv_at hl 3 rfl) ?_
          refine m_iconst (pc := 55) C dX7_giveLot_55 ?_
          obtain ⟨q37, h⟩ := ck_some h
          obtain ⟨a38, μ39, ca38, h⟩ := bd_some h
          refine V_X7_refuse (pc := 56) C hM ca38 rk_1 q37 bw_2_157 ⟨Nat.le_of_ble_eq_true rfl, Nat.le_of_ble_eq_true rfl⟩ hl.1 rc0 ⟨Nat.le_refl _, Nat.le_refl _⟩ dX7_giveLot_56 (fun ra38 H locs hM => ?_)
          cases h
          exact m_iret (pc := 59) C hM ra38 dX7_giveLot_59
      · have h := if_f h c14
        refine m_ldc (n := -100000002) (pc := 43) C bw_2_93 rfl dX7_giveLot_43 ?_
        cases h
        exact m_iret (pc := 45) C hM rk_m100000002 dX7_giveLot_45
    · have h := if_f h c11
      refine m_ldc (n := -100000001) (pc := 28) C bw_2_92 rfl dX7_giveLot_28 ?_
      cases h
      exact m_iret (pc := 30) C hM rk_m100000001 dX7_giveLot_30
theorem hd_X7_giveLot : yX7_giveLot.cls ≠ "java/lang/invoke/MethodHandle" ∧ yX7_giveLot.cls ≠ "java/lang/invoke/VarHandle" ∧ (parseMethodDescriptor yX7_giveLot.desc).map (fun d => d.parameters.length) = some 2 := by decide +kernel

theorem V_X7_giveLot {p : Program} {l : Launch} {e : Env} {R : Room} {s : State} {m : MethodId} {args : Array Value} {below : List Frame} {meth : Method} {c : Code} {H : Heap} {locs : List Loc} {cells slots : Nat} {Q : State → Prop} {cc : ByteArray} {pc nL : Nat} {ls : Array Slot} {rest : List Value} {ret : Option FieldType} {nmm own : String} {E : gE} {μ μ1 : Mm} {index : Nat} (C : gCx p s m args meth c cc nL ret nmm own) (hM : MS E μ s H locs) {N : Nat} {x0 x1 x2 v : Int} (hc : f_X7_giveLot N x0 x1 x2 μ = some (v, μ1)) (rx1 : R32 x1) (rx2 : R32 x2) (hck : μ x0 (-2) = 9) (h1 : Cond.methodLink own index yX7_giveLot ∈ bigL) (hR : 3 ≤ R.frames ∧ 68 ≤ R.locals) (hl : ls.size = nL) (hcat : RC rest 8) (hf : cells + 0 ≤ R.cells ∧ slots + 0 ≤ R.slots) (hdg : decode cc pc = .ok (.invokevirtual index, 3)) (kk : (R32 v) → ∀ (H1 : Heap) (locs1 : List Loc), MS E μ1 s H1 locs1 → W p l e R s m args below meth c H1 locs1 (cells + 0) (slots + 0) Q (F0 m (pc + 3) ls (vi v :: rest))) : W p l e R s m args below meth c H locs cells slots Q (F0 m pc ls (vi x2 :: vi x1 :: vr E x0 :: rest)) := g_callV C KF_X7 hM (c_X7_giveLot l E N x0 x1 x2 μ μ1 v hc rx1 rx2) hck (gV h1 bw_4_107 bs_12 bw_1_1 bw_4_108) ⟨rfl, hd_X7_giveLot⟩ hR rfl hl rfl hcat hf hdg kk
/-! X7_give -/
def f_X7_give (N : Nat) (x0 x1 x2 : Int) (μ : Mm) : Rs :=
  ck (μ x0 (-2) = 9) <|
  ck (μ x0 (-2) = 9) <|
  ck (μ (μ x0 1) (-2) = 3) <|
  bd (f_X1_prepare N (μ x0 1) (μ x0 0) μ) fun a4 μ5 =>
  ck (μ5 x0 (-2) = 9) <|
  bd (f_X7_giveLot N x0 x1 x2 μ5) fun a7 μ8 =>
  ck (μ8 x0 (-2) = 9) <|
  bd (f_X7_finishAct N x0 a7 μ8) fun a10 μ11 =>
  some (a10, μ11)
set_option maxHeartbeats 4000000 in
set_option maxRecDepth 100000 in
theorem c_X7_give (l : Launch) (E : gE) (N : Nat) (x0 x1 x2 : Int) (μ μ' : Mm) (r : Int) (h : f_X7_give N x0 x1 x2 μ = some (r, μ')) (rx1 : R32 x1) (rx2 : R32 x2) : gMet l E yX7_give cX7_give 3 (some .int) 4 104 [vr E x0, vi x1, vi x2] (some (vi r)) (R32 r) μ μ' 0 0 := by
  refine g_ofW [1, 1, 1] (by first | (simp only [List.map_cons, List.map_nil, vr_cat]; done) | (simp only [List.map_cons, List.map_nil, vr_cat]; rfl)) (by decide) (by decide) (fun p e s m below meth c ls C hM hl => ?_)
  replace C : gCx p s m _ meth c cX7_give 3 (some .int) "give" RX7 := C
  replace hl : lv_has ls 3 [(0, vr E x0), (1, vi x1), (2, vi x2)] := hl
  unfold f_X7_give at h
  refine m_aload_n (pc := 0) C dX7_give_0 rfl (lv_at hl 0 rfl) ?_
  obtain ⟨q1, h⟩ := ck_some h
  refine G_X7_history (pc := 1) C hM bw_2_64 q1 dX7_give_1 ?_
  refine m_aload_n (pc := 4) C dX7_give_4 rfl (lv_at hl 0 rfl) ?_
  obtain ⟨q2, h⟩ := ck_some h
  refine G_X7_now (pc := 5) C hM bw_2_63 q2 dX7_give_5 ?_
  obtain ⟨q3, h⟩ := ck_some h
  obtain ⟨a4, μ5, ca4, h⟩ := bd_some h
  refine V_X1_prepare (pc := 8) C hM ca4 q3 bw_2_94 ⟨Nat.le_of_ble_eq_true rfl, Nat.le_of_ble_eq_true rfl⟩ hl.1 rc0 ⟨Nat.le_refl _, Nat.le_refl _⟩ dX7_give_8 (fun _ H locs hM => ?_)
  refine m_aload_n (pc := 11) C dX7_give_11 rfl (lv_at hl 0 rfl) ?_
  refine m_aload_n (pc := 12) C dX7_give_12 rfl (lv_at hl 0 rfl) ?_
  refine m_iload_n (pc := 13) C dX7_give_13 rfl (lv_at hl 1 rfl) ?_
  refine m_iload_n (pc := 14) C dX7_give_14 rfl (lv_at hl 2 rfl) ?_
  obtain ⟨q6, h⟩ := ck_some h
  obtain ⟨a7, μ8, ca7, h⟩ := bd_some h
  refine V_X7_giveLot (pc := 15) C hM ca7 rx1 rx2 q6 bw_4_105 ⟨Nat.le_of_ble_eq_true rfl, Nat.le_of_ble_eq_true rfl⟩ hl.1 (rcR rc0) ⟨Nat.le_refl _, Nat.le_refl _⟩ dX7_give_15 (fun ra7 H locs hM => ?_)
  obtain ⟨q9, h⟩ := ck_some h
  obtain ⟨a10, μ11, ca10, h⟩ := bd_some h
  refine V_X7_finishAct (pc := 18) C hM ca10 ra7 q9 bw_2_121 ⟨Nat.le_of_ble_eq_true rfl, Nat.le_of_ble_eq_true rfl⟩ hl.1 rc0 ⟨Nat.le_refl _, Nat.le_refl _⟩ dX7_give_18 (fun ra10 H locs hM => ?_)
  cases h
  exact m_iret (pc := 21) C hM ra10 dX7_give_21
theorem hd_X7_give : yX7_give.cls ≠ "java/lang/invoke/MethodHandle" ∧ yX7_give.cls ≠ "java/lang/invoke/VarHandle" ∧ (parseMethodDescriptor yX7_give.desc).map (fun d => d.parameters.length) = some 2 := by decide +kernel

theorem V_X7_give {p : Program} {l : Launch} {e : Env} {R : Room} {s : State} {m : MethodId} {args : Array Value} {below : List Frame} {meth : Method} {c : Code} {H : Heap} {locs : List Loc} {cells slots : Nat} {Q : State → Prop} {cc : ByteArray} {pc nL : Nat} {ls : Array Slot} {rest : List Value} {ret : Option FieldType} {nmm own : String} {E : gE} {μ μ1 : Mm} {index : Nat} (C : gCx p s m args meth c cc nL ret nmm own) (hM : MS E μ s H locs) {N : Nat} {x0 x1 x2 v : Int} (hc : f_X7_give N x0 x1 x2 μ = some (v, μ1)) (rx1 : R32 x1) (rx2 : R32 x2) (hck : μ x0 (-2) = 9) (h1 : Cond.methodLink own index yX7_give ∈ bigL) (hR : 5 ≤ R.frames ∧ 126 ≤ R.locals) (hl : ls.size = nL) (hcat : RC rest 8) (hf : cells + 0 ≤ R.cells ∧ slots + 0 ≤ R.slots) (hdg : decode cc pc = .ok (.invokevirtual index, 3)) (kk : (R32 v) → ∀ (H1 : Heap) (locs1 : List Loc), MS E μ1 s H1 locs1 → W p l e R s m args below meth c H1 locs1 (cells + 0) (slots + 0) Q (F0 m (pc + 3) ls (vi v :: rest))) : W p l e R s m args below meth c H locs cells slots Q (F0 m pc ls (vi x2 :: vi x1 :: vr E x0 :: rest)) := g_callV C KF_X7 hM (c_X7_give l E N x0 x1 x2 μ μ1 v hc rx1 rx2) hck (gV h1 bw_4_102 bw_4_103 bw_1_1 bw_4_104) ⟨rfl, hd_X7_give⟩ hR rfl hl rfl hcat hf hdg kk
/-! X7_passDays -/
def f_X7_passDays (N : Nat) (x0 x1 : Int) (μ : Mm) : Rs :=
  bd (f_X7_outside N x1 1 100 μ) fun a1 μ2 =>
  if a1 = 0 then
    (ck (μ2 x0 (-2) = 9) <|
     ck (μ2 (μ2 x0 0) (-2) = 8) <|
     nm (w32 ((μ2 (μ2 x0 0) 8) + x1)) fun a6 =>
     ck (μ2 (μ2 x0 0) (-2) = 8) <|
     nm (mset μ2 (μ2 x0 0) 8 a6) fun μ8 =>
     ck (μ8 x0 (-2) = 9) <|
     ck (μ8 (μ8 x0 0) (-2) = 8) <|
     bd (f_X6_loseExports N (μ8 x0 0) μ8) fun a11 μ12 =>
     ck (μ12 x0 (-2) = 9) <|
     ck (μ12 (μ12 x0 0) (-2) = 8) <|
     bd (f_X6_seizeLots N (μ12 x0 0) μ12) fun a15 μ16 =>
     nm (w32 (a11 + a15)) fun a17 =>
     some (a17, μ16))
  else
  some ((-100000002), μ2)
set_option maxHeartbeats 4000000 in
set_option maxRecDepth 100000 in
theorem c_X7_passDays (l : Launch) (E : gE) (N : Nat) (x0 x1 : Int) (μ μ' : Mm) (r : Int) (h : f_X7_passDays N x0 x1 μ = some (r, μ')) (rx1 : R32 x1) : gMet l E yX7_passDays cX7_passDays 2 (some .int) 3 69 [vr E x0, vi x1] (some (vi r)) (R32 r) μ μ' 0 0 := by
  refine g_ofW [1, 1] (by first | (simp only [List.map_cons, List.map_nil, vr_cat]; done) | (simp only [List.map_cons, List.map_nil, vr_cat]; rfl)) (by decide) (by decide) (fun p e s m below meth c ls C hM hl => ?_)
  replace C : gCx p s m _ meth c cX7_passDays 2 (some .int) "passDays" RX7 := C
  replace hl : lv_has ls 2 [(0, vr E x0), (1, vi x1)] := hl
  unfold f_X7_passDays at h
  refine m_iload_n (pc := 0) C dX7_passDays_0 rfl (lv_at hl 1 rfl) ?_
  refine m_iconst (pc := 1) C dX7_passDays_1 ?_
  refine m_bipush (pc := 2) C dX7_passDays_2 rfl ?_
  obtain ⟨a1, μ2, ca1, h⟩ := bd_some h
  refine V_X7_outside (pc := 4) C hM ca1 rx1 rk_1 rk_100 bw_2_89 ⟨Nat.le_of_ble_eq_true rfl, Nat.le_of_ble_eq_true rfl⟩ hl.1 rc0 ⟨Nat.le_refl _, Nat.le_refl _⟩ dX7_passDays_4 (fun ra1 H locs hM => ?_)
  refine m_if_eq (tgt := 13) (pc := 7) C ra1 dX7_passDays_7 (by decide) (fun c3 => ?_) (fun c3 => ?_)
  · have h := if_t h c3
    refine m_aload_n (pc := 13) C dX7_passDays_13 rfl (lv_at hl 0 rfl) ?_
    obtain ⟨q4, h⟩ := ck_some h
    refine G_X7_now (pc := 14) C hM bw_2_63 q4 dX7_passDays_14 ?_
    refine m_dup (pc := 17) C (vr_cat _ _) dX7_passDays_17 ?_
    obtain ⟨q5, h⟩ := ck_some h
    have gq5 := Gr_X6_day hM q5
    refine G_X6_day (pc := 18) C hM bw_1_196 q5 dX7_passDays_18 ?_
    refine m_iload_n (pc := 21) C dX7_passDays_21 rfl (lv_at hl 1 rfl) ?_
    obtain ⟨a6, ea6, h⟩ := nm_some h
    have ra6 : R32 a6 := by rw [ea6]; exact w32_R _
    refine m_iadd (pc := 22) C dX7_passDays_22 ea6 ?_
    obtain ⟨q7, h⟩ := ck_some h
    obtain ⟨μ8, eμ8, h⟩ := nm_some h
    refine P_X6_day (pc := 23) C hM bw_1_196 q7 ra6 eμ8 dX7_passDays_23 (fun H locs hM => ?_)
    refine m_aload_n (pc := 26) C dX7_passDays_26 rfl (lv_at hl 0 rfl) ?_
    obtain ⟨q9, h⟩ := ck_some h
    refine G_X7_now (pc := 27) C hM bw_2_63 q9 dX7_passDays_27 ?_
    obtain ⟨q10, h⟩ := ck_some h
    obtain ⟨a11, μ12, ca11, h⟩ := bd_some h
    refine V_X6_loseExports (pc := 30) C hM ca11 q10 bw_2_170 ⟨Nat.le_of_ble_eq_true rfl, Nat.le_of_ble_eq_true rfl⟩ hl.1 rc0 ⟨Nat.le_refl _, Nat.le_refl _⟩ dX7_passDays_30 (fun ra11 H locs hM => ?_)
    refine m_aload_n (pc := 33) C dX7_passDays_33 rfl (lv_at hl 0 rfl) ?_
    obtain ⟨q13, h⟩ := ck_some h
    refine G_X7_now (pc := 34) C hM bw_2_63 q13 dX7_passDays_34 ?_
    obtain ⟨q14, h⟩ := ck_some h
    obtain ⟨a15, μ16, ca15, h⟩ := bd_some h
    refine V_X6_seizeLots (pc := 37) C hM ca15 q14 bw_2_192 ⟨Nat.le_of_ble_eq_true rfl, Nat.le_of_ble_eq_true rfl⟩ hl.1 (rcI rc0) ⟨Nat.le_refl _, Nat.le_refl _⟩ dX7_passDays_37 (fun ra15 H locs hM => ?_)
    obtain ⟨a17, ea17, h⟩ := nm_some h
    have ra17 : R32 a17 := by rw [ea17]; exact w32_R _
    refine m_iadd (pc := 40) C dX7_passDays_40 ea17 ?_
    cases h
    exact m_iret (pc := 41) C hM ra17 dX7_passDays_41
  · have h := if_f h c3
    refine m_ldc (n := -100000002) (pc := 10) C bw_2_93 rfl dX7_passDays_10 ?_
    cases h
    exact m_iret (pc := 12) C hM rk_m100000002 dX7_passDays_12
theorem hd_X7_passDays : yX7_passDays.cls ≠ "java/lang/invoke/MethodHandle" ∧ yX7_passDays.cls ≠ "java/lang/invoke/VarHandle" ∧ (parseMethodDescriptor yX7_passDays.desc).map (fun d => d.parameters.length) = some 1 := by decide +kernel

theorem V_X7_passDays {p : Program} {l : Launch} {e : Env} {R : Room} {s : State} {m : MethodId} {args : Array Value} {below : List Frame} {meth : Method} {c : Code} {H : Heap} {locs : List Loc} {cells slots : Nat} {Q : State → Prop} {cc : ByteArray} {pc nL : Nat} {ls : Array Slot} {rest : List Value} {ret : Option FieldType} {nmm own : String} {E : gE} {μ μ1 : Mm} {index : Nat} (C : gCx p s m args meth c cc nL ret nmm own) (hM : MS E μ s H locs) {N : Nat} {x0 x1 v : Int} (hc : f_X7_passDays N x0 x1 μ = some (v, μ1)) (rx1 : R32 x1) (hck : μ x0 (-2) = 9) (h1 : Cond.methodLink own index yX7_passDays ∈ bigL) (hR : 4 ≤ R.frames ∧ 90 ≤ R.locals) (hl : ls.size = nL) (hcat : RC rest 8) (hf : cells + 0 ≤ R.cells ∧ slots + 0 ≤ R.slots) (hdg : decode cc pc = .ok (.invokevirtual index, 3)) (kk : (R32 v) → ∀ (H1 : Heap) (locs1 : List Loc), MS E μ1 s H1 locs1 → W p l e R s m args below meth c H1 locs1 (cells + 0) (slots + 0) Q (F0 m (pc + 3) ls (vi v :: rest))) : W p l e R s m args below meth c H locs cells slots Q (F0 m pc ls (vi x1 :: vr E x0 :: rest)) := g_callV C KF_X7 hM (c_X7_passDays l E N x0 x1 μ μ1 v hc rx1) hck (gV h1 bw_2_168 bs_3 bw_1_1 bw_2_169) ⟨rfl, hd_X7_passDays⟩ hR rfl hl rfl hcat hf hdg kk
/-! X7_pass -/
def f_X7_pass (N : Nat) (x0 x1 : Int) (μ : Mm) : Rs :=
  ck (μ x0 (-2) = 9) <|
  ck (μ x0 (-2) = 9) <|
  ck (μ (μ x0 1) (-2) = 3) <|
  bd (f_X1_prepare N (μ x0 1) (μ x0 0) μ) fun a4 μ5 =>
  ck (μ5 x0 (-2) = 9) <|
  bd (f_X7_passDays N x0 x1 μ5) fun a7 μ8 =>
  ck (μ8 x0 (-2) = 9) <|
  bd (f_X7_finishAct N x0 a7 μ8) fun a10 μ11 =>
  some (a10, μ11)
set_option maxHeartbeats 4000000 in
set_option maxRecDepth 100000 in
theorem c_X7_pass (l : Launch) (E : gE) (N : Nat) (x0 x1 : Int) (μ μ' : Mm) (r : Int) (h : f_X7_pass N x0 x1 μ = some (r, μ')) (rx1 : R32 x1) : gMet l E yX7_pass cX7_pass 2 (some .int) 4 104 [vr E x0, vi x1] (some (vi r)) (R32 r) μ μ' 0 0 := by
  refine g_ofW [1, 1] (by first | (simp only [List.map_cons, List.map_nil, vr_cat]; done) | (simp only [List.map_cons, List.map_nil, vr_cat]; rfl)) (by decide) (by decide) (fun p e s m below meth c ls C hM hl => ?_)
  replace C : gCx p s m _ meth c cX7_pass 2 (some .int) "pass" RX7 := C
  replace hl : lv_has ls 2 [(0, vr E x0), (1, vi x1)] := hl
  unfold f_X7_pass at h
  refine m_aload_n (pc := 0) C dX7_pass_0 rfl (lv_at hl 0 rfl) ?_
  obtain ⟨q1, h⟩ := ck_some h
  refine G_X7_history (pc := 1) C hM bw_2_64 q1 dX7_pass_1 ?_
  refine m_aload_n (pc := 4) C dX7_pass_4 rfl (lv_at hl 0 rfl) ?_
  obtain ⟨q2, h⟩ := ck_some h
  refine G_X7_now (pc := 5) C hM bw_2_63 q2 dX7_pass_5 ?_
  obtain ⟨q3, h⟩ := ck_some h
  obtain ⟨a4, μ5, ca4, h⟩ := bd_some h
  refine V_X1_prepare (pc := 8) C hM ca4 q3 bw_2_94 ⟨Nat.le_of_ble_eq_true rfl, Nat.le_of_ble_eq_true rfl⟩ hl.1 rc0 ⟨Nat.le_refl _, Nat.le_refl _⟩ dX7_pass_8 (fun _ H locs hM => ?_)
  refine m_aload_n (pc := 11) C dX7_pass_11 rfl (lv_at hl 0 rfl) ?_
  refine m_aload_n (pc := 12) C dX7_pass_12 rfl (lv_at hl 0 rfl) ?_
  refine m_iload_n (pc := 13) C dX7_pass_13 rfl (lv_at hl 1 rfl) ?_
  obtain ⟨q6, h⟩ := ck_some h
  obtain ⟨a7, μ8, ca7, h⟩ := bd_some h
  refine V_X7_passDays (pc := 14) C hM ca7 rx1 q6 bw_2_166 ⟨Nat.le_of_ble_eq_true rfl, Nat.le_of_ble_eq_true rfl⟩ hl.1 (rcR rc0) ⟨Nat.le_refl _, Nat.le_refl _⟩ dX7_pass_14 (fun ra7 H locs hM => ?_)
  obtain ⟨q9, h⟩ := ck_some h
  obtain ⟨a10, μ11, ca10, h⟩ := bd_some h
  refine V_X7_finishAct (pc := 17) C hM ca10 ra7 q9 bw_2_121 ⟨Nat.le_of_ble_eq_true rfl, Nat.le_of_ble_eq_true rfl⟩ hl.1 rc0 ⟨Nat.le_refl _, Nat.le_refl _⟩ dX7_pass_17 (fun ra10 H locs hM => ?_)
  cases h
  exact m_iret (pc := 20) C hM ra10 dX7_pass_20
theorem hd_X7_pass : yX7_pass.cls ≠ "java/lang/invoke/MethodHandle" ∧ yX7_pass.cls ≠ "java/lang/invoke/VarHandle" ∧ (parseMethodDescriptor yX7_pass.desc).map (fun d => d.parameters.length) = some 1 := by decide +kernel

theorem V_X7_pass {p : Program} {l : Launch} {e : Env} {R : Room} {s : State} {m : MethodId} {args : Array Value} {below : List Frame} {meth : Method} {c : Code} {H : Heap} {locs : List Loc} {cells slots : Nat} {Q : State → Prop} {cc : ByteArray} {pc nL : Nat} {ls : Array Slot} {rest : List Value} {ret : Option FieldType} {nmm own : String} {E : gE} {μ μ1 : Mm} {index : Nat} (C : gCx p s m args meth c cc nL ret nmm own) (hM : MS E μ s H locs) {N : Nat} {x0 x1 v : Int} (hc : f_X7_pass N x0 x1 μ = some (v, μ1)) (rx1 : R32 x1) (hck : μ x0 (-2) = 9) (h1 : Cond.methodLink own index yX7_pass ∈ bigL) (hR : 5 ≤ R.frames ∧ 125 ≤ R.locals) (hl : ls.size = nL) (hcat : RC rest 8) (hf : cells + 0 ≤ R.cells ∧ slots + 0 ≤ R.slots) (hdg : decode cc pc = .ok (.invokevirtual index, 3)) (kk : (R32 v) → ∀ (H1 : Heap) (locs1 : List Loc), MS E μ1 s H1 locs1 → W p l e R s m args below meth c H1 locs1 (cells + 0) (slots + 0) Q (F0 m (pc + 3) ls (vi v :: rest))) : W p l e R s m args below meth c H locs cells slots Q (F0 m pc ls (vi x1 :: vr E x0 :: rest)) := g_callV C KF_X7 hM (c_X7_pass l E N x0 x1 μ μ1 v hc rx1) hck (gV h1 bw_2_163 bw_2_164 bw_1_1 bw_2_165) ⟨rfl, hd_X7_pass⟩ hR rfl hl rfl hcat hf hdg kk
/-! X7_type -/
def f_X7_type (N : Nat) (x0 x1 : Int) (μ : Mm) : Rs :=
  ck (μ x0 (-2) = 9) <|
  ck (μ (μ x0 4) (-2) = 5) <|
  bd (f_X3_append N (μ x0 4) x1 μ) fun a3 μ4 =>
  if a3 = 0 then
    (some ((-100000004), μ4))
  else
  ck (μ4 x0 (-2) = 9) <|
  ck (μ4 (μ4 x0 4) (-2) = 5) <|
  some (μ4 (μ4 x0 4) 1, μ4)
set_option maxHeartbeats 4000000 in
set_option maxRecDepth 100000 in
theorem c_X7_type (l : Launch) (E : gE) (N : Nat) (x0 x1 : Int) (μ μ' : Mm) (r : Int) (h : f_X7_type N x0 x1 μ = some (r, μ')) (rx1 : R32 x1) : gMet l E yX7_type cX7_type 2 (some .int) 1 21 [vr E x0, vi x1] (some (vi r)) (R32 r) μ μ' 0 0 := by
  refine g_ofW [1, 1] (by first | (simp only [List.map_cons, List.map_nil, vr_cat]; done) | (simp only [List.map_cons, List.map_nil, vr_cat]; rfl)) (by decide) (by decide) (fun p e s m below meth c ls C hM hl => ?_)
  replace C : gCx p s m _ meth c cX7_type 2 (some .int) "type" RX7 := C
  replace hl : lv_has ls 2 [(0, vr E x0), (1, vi x1)] := hl
  unfold f_X7_type at h
  refine m_aload_n (pc := 0) C dX7_type_0 rfl (lv_at hl 0 rfl) ?_
  obtain ⟨q1, h⟩ := ck_some h
  refine G_X7_orders (pc := 1) C hM bw_2_67 q1 dX7_type_1 ?_
  refine m_iload_n (pc := 4) C dX7_type_4 rfl (lv_at hl 1 rfl) ?_
  obtain ⟨q2, h⟩ := ck_some h
  obtain ⟨a3, μ4, ca3, h⟩ := bd_some h
  refine V_X3_append (pc := 5) C hM ca3 rx1 q2 bw_5_23 ⟨Nat.le_of_ble_eq_true rfl, Nat.le_of_ble_eq_true rfl⟩ hl.1 rc0 ⟨Nat.le_refl _, Nat.le_refl _⟩ dX7_type_5 (fun ra3 H locs hM => ?_)
  refine m_if_eq (tgt := 21) (pc := 8) C ra3 dX7_type_8 (by decide) (fun c5 => ?_) (fun c5 => ?_)
  · have h := if_t h c5
    refine m_ldc (n := -100000004) (pc := 21) C bw_4_139 rfl dX7_type_21 ?_
    cases h
    exact m_iret (pc := 23) C hM rk_m100000004 dX7_type_23
  · have h := if_f h c5
    refine m_aload_n (pc := 11) C dX7_type_11 rfl (lv_at hl 0 rfl) ?_
    obtain ⟨q6, h⟩ := ck_some h
    refine G_X7_orders (pc := 12) C hM bw_2_67 q6 dX7_type_12 ?_
    obtain ⟨q7, h⟩ := ck_some h
    have gq7 := Gr_X3_length hM q7
    refine G_X3_length (pc := 15) C hM bw_2_12 q7 dX7_type_15 ?_
    refine m_goto (tgt := 23) (pc := 18) C dX7_type_18 (by decide) ?_
    cases h
    exact m_iret (pc := 23) C hM gq7 dX7_type_23
theorem hd_X7_type : yX7_type.cls ≠ "java/lang/invoke/MethodHandle" ∧ yX7_type.cls ≠ "java/lang/invoke/VarHandle" ∧ (parseMethodDescriptor yX7_type.desc).map (fun d => d.parameters.length) = some 1 := by decide +kernel

theorem V_X7_type {p : Program} {l : Launch} {e : Env} {R : Room} {s : State} {m : MethodId} {args : Array Value} {below : List Frame} {meth : Method} {c : Code} {H : Heap} {locs : List Loc} {cells slots : Nat} {Q : State → Prop} {cc : ByteArray} {pc nL : Nat} {ls : Array Slot} {rest : List Value} {ret : Option FieldType} {nmm own : String} {E : gE} {μ μ1 : Mm} {index : Nat} (C : gCx p s m args meth c cc nL ret nmm own) (hM : MS E μ s H locs) {N : Nat} {x0 x1 v : Int} (hc : f_X7_type N x0 x1 μ = some (v, μ1)) (rx1 : R32 x1) (hck : μ x0 (-2) = 9) (h1 : Cond.methodLink own index yX7_type ∈ bigL) (hR : 2 ≤ R.frames ∧ 42 ≤ R.locals) (hl : ls.size = nL) (hcat : RC rest 8) (hf : cells + 0 ≤ R.cells ∧ slots + 0 ≤ R.slots) (hdg : decode cc pc = .ok (.invokevirtual index, 3)) (kk : (R32 v) → ∀ (H1 : Heap) (locs1 : List Loc), MS E μ1 s H1 locs1 → W p l e R s m args below meth c H1 locs1 (cells + 0) (slots + 0) Q (F0 m (pc + 3) ls (vi v :: rest))) : W p l e R s m args below meth c H locs cells slots Q (F0 m pc ls (vi x1 :: vr E x0 :: rest)) := g_callV C KF_X7 hM (c_X7_type l E N x0 x1 μ μ1 v hc rx1) hck (gV h1 bw_5_20 bw_5_21 bw_1_1 bw_5_22) ⟨rfl, hd_X7_type⟩ hR rfl hl rfl hcat hf hdg kk
/-! X7_clearText -/
def f_X7_clearText (N : Nat) (x0 : Int) (μ : Mm) : Rs :=
  ck (μ x0 (-2) = 9) <|
  ck (μ (μ x0 4) (-2) = 5) <|
  ck (μ x0 (-2) = 9) <|
  ck (μ (μ x0 4) (-2) = 5) <|
  nm (mset μ (μ x0 4) 1 0) fun μ5 =>
  some (μ (μ x0 4) 1, μ5)
set_option maxHeartbeats 4000000 in
set_option maxRecDepth 100000 in
theorem c_X7_clearText (l : Launch) (E : gE) (N : Nat) (x0 : Int) (μ μ' : Mm) (r : Int) (h : f_X7_clearText N x0 μ = some (r, μ')) : gMet l E yX7_clearText cX7_clearText 2 (some .int) 0 0 [vr E x0] (some (vi r)) (R32 r) μ μ' 0 0 := by
  refine g_ofW [1] (by first | (simp only [List.map_cons, List.map_nil, vr_cat]; done) | (simp only [List.map_cons, List.map_nil, vr_cat]; rfl)) (by decide) (by decide) (fun p e s m below meth c ls C hM hl => ?_)
  replace C : gCx p s m _ meth c cX7_clearText 2 (some .int) "clearText" RX7 := C
  replace hl : lv_has ls 2 [(0, vr E x0)] := hl
  unfold f_X7_clearText at h
  refine m_aload_n (pc := 0) C dX7_clearText_0 rfl (lv_at hl 0 rfl) ?_
  obtain ⟨q1, h⟩ := ck_some h
  refine G_X7_orders (pc := 1) C hM bw_2_67 q1 dX7_clearText_1 ?_
  obtain ⟨q2, h⟩ := ck_some h
  have gq2 := Gr_X3_length hM q2
  refine G_X3_length (pc := 4) C hM bw_2_12 q2 dX7_clearText_4 ?_
  refine m_istore_n (pc := 7) C dX7_clearText_7 rfl hl (by decide) (lvK2 0 rfl (Nat.ne_of_beq_eq_false rfl) (vr_cat _ _) lvK0) (fun ls hl => ?_)
  refine m_aload_n (pc := 8) C dX7_clearText_8 rfl (lv_at hl 1 rfl) ?_
  obtain ⟨q3, h⟩ := ck_some h
  refine G_X7_orders (pc := 9) C hM bw_2_67 q3 dX7_clearText_9 ?_
  refine m_iconst (pc := 12) C dX7_clearText_12 ?_
  obtain ⟨q4, h⟩ := ck_some h
  obtain ⟨μ5, eμ5, h⟩ := nm_some h
  refine P_X3_length (pc := 13) C hM bw_2_12 q4 rk_0 eμ5 dX7_clearText_13 (fun H locs hM => ?_)
  refine m_iload_n (pc := 16) C dX7_clearText_16 rfl (lv_at hl 0 rfl) ?_
  cases h
  exact m_iret (pc := 17) C hM gq2 dX7_clearText_17
theorem hd_X7_clearText : yX7_clearText.cls ≠ "java/lang/invoke/MethodHandle" ∧ yX7_clearText.cls ≠ "java/lang/invoke/VarHandle" ∧ (parseMethodDescriptor yX7_clearText.desc).map (fun d => d.parameters.length) = some 0 := by decide +kernel

theorem V_X7_clearText {p : Program} {l : Launch} {e : Env} {R : Room} {s : State} {m : MethodId} {args : Array Value} {below : List Frame} {meth : Method} {c : Code} {H : Heap} {locs : List Loc} {cells slots : Nat} {Q : State → Prop} {cc : ByteArray} {pc nL : Nat} {ls : Array Slot} {rest : List Value} {ret : Option FieldType} {nmm own : String} {E : gE} {μ μ1 : Mm} {index : Nat} (C : gCx p s m args meth c cc nL ret nmm own) (hM : MS E μ s H locs) {N : Nat} {x0 v : Int} (hc : f_X7_clearText N x0 μ = some (v, μ1)) (hck : μ x0 (-2) = 9) (h1 : Cond.methodLink own index yX7_clearText ∈ bigL) (hR : 1 ≤ R.frames ∧ 21 ≤ R.locals) (hl : ls.size = nL) (hcat : RC rest 8) (hf : cells + 0 ≤ R.cells ∧ slots + 0 ≤ R.slots) (hdg : decode cc pc = .ok (.invokevirtual index, 3)) (kk : (R32 v) → ∀ (H1 : Heap) (locs1 : List Loc), MS E μ1 s H1 locs1 → W p l e R s m args below meth c H1 locs1 (cells + 0) (slots + 0) Q (F0 m (pc + 3) ls (vi v :: rest))) : W p l e R s m args below meth c H locs cells slots Q (F0 m pc ls (vr E x0 :: rest)) := g_callV C KF_X7 hM (c_X7_clearText l E N x0 μ μ1 v hc) hck (gV h1 bw_4_151 bw_4_152 bw_1_1 bw_4_153) ⟨rfl, hd_X7_clearText⟩ hR rfl hl rfl hcat hf hdg kk
/-! X7_carryOutOrder -/
def f_X7_carryOutOrder_b56 (N : Nat) (x0 x1 : Int) (μ : Mm) : Rs :=
  ck (μ x1 (-2) = 23 ∧ (0 : Int) ≤ 0 ∧ 0 < μ x1 (-1)) <|
  ck (μ x1 (-2) = 23 ∧ (0 : Int) ≤ 1 ∧ 1 < μ x1 (-1)) <|
  ck (μ x1 (-2) = 23 ∧ (0 : Int) ≤ 2 ∧ 2 < μ x1 (-1)) <|
  ck (μ x1 (-2) = 23 ∧ (0 : Int) ≤ 3 ∧ 3 < μ x1 (-1)) <|
  ck (μ x0 (-2) = 9) <|
  bd (f_X7_enterLot N x0 (μ x1 0) (μ x1 1) (μ x1 2) (μ x1 3) μ) fun a6 μ7 =>
  some (a6, μ7)
def f_X7_carryOutOrder_b73 (N : Nat) (x0 x1 : Int) (μ : Mm) : Rs :=
  ck (μ x1 (-2) = 23 ∧ (0 : Int) ≤ 0 ∧ 0 < μ x1 (-1)) <|
  ck (μ x1 (-2) = 23 ∧ (0 : Int) ≤ 1 ∧ 1 < μ x1 (-1)) <|
  ck (μ x0 (-2) = 9) <|
  bd (f_X7_releaseUnits N x0 (μ x1 0) (μ x1 1) μ) fun a4 μ5 =>
  some (a4, μ5)
def f_X7_carryOutOrder_b84 (N : Nat) (x0 x1 : Int) (μ : Mm) : Rs :=
  ck (μ x1 (-2) = 23 ∧ (0 : Int) ≤ 0 ∧ 0 < μ x1 (-1)) <|
  ck (μ x1 (-2) = 23 ∧ (0 : Int) ≤ 1 ∧ 1 < μ x1 (-1)) <|
  ck (μ x0 (-2) = 9) <|
  bd (f_X7_sampleUnits N x0 (μ x1 0) (μ x1 1) μ) fun a4 μ5 =>
  some (a4, μ5)
def f_X7_carryOutOrder_b95 (N : Nat) (x0 x1 : Int) (μ : Mm) : Rs :=
  ck (μ x1 (-2) = 23 ∧ (0 : Int) ≤ 0 ∧ 0 < μ x1 (-1)) <|
  ck (μ x1 (-2) = 23 ∧ (0 : Int) ≤ 1 ∧ 1 < μ x1 (-1)) <|
  ck (μ x0 (-2) = 9) <|
  bd (f_X7_exportUnits N x0 (μ x1 0) (μ x1 1) μ) fun a4 μ5 =>
  some (a4, μ5)
def f_X7_carryOutOrder_b106 (N : Nat) (x0 x1 : Int) (μ : Mm) : Rs :=
  ck (μ x1 (-2) = 23 ∧ (0 : Int) ≤ 0 ∧ 0 < μ x1 (-1)) <|
  ck (μ x0 (-2) = 9) <|
  bd (f_X7_proveExport N x0 (μ x1 0) μ) fun a3 μ4 =>
  some (a3, μ4)
def f_X7_carryOutOrder_b114 (N : Nat) (x0 x1 : Int) (μ : Mm) : Rs :=
  ck (μ x1 (-2) = 23 ∧ (0 : Int) ≤ 0 ∧ 0 < μ x1 (-1)) <|
  ck (μ x1 (-2) = 23 ∧ (0 : Int) ≤ 1 ∧ 1 < μ x1 (-1)) <|
  ck (μ x0 (-2) = 9) <|
  bd (f_X7_destroyUnits N x0 (μ x1 0) (μ x1 1) μ) fun a4 μ5 =>
  some (a4, μ5)
def f_X7_carryOutOrder_b125 (N : Nat) (x0 x1 : Int) (μ : Mm) : Rs :=
  ck (μ x1 (-2) = 23 ∧ (0 : Int) ≤ 0 ∧ 0 < μ x1 (-1)) <|
  ck (μ x1 (-2) = 23 ∧ (0 : Int) ≤ 1 ∧ 1 < μ x1 (-1)) <|
  ck (μ x0 (-2) = 9) <|
  bd (f_X7_giveLot N x0 (μ x1 0) (μ x1 1) μ) fun a4 μ5 =>
  some (a4, μ5)
def f_X7_carryOutOrder_b136 (N : Nat) (x0 x1 : Int) (μ : Mm) : Rs :=
  ck (μ x1 (-2) = 23 ∧ (0 : Int) ≤ 0 ∧ 0 < μ x1 (-1)) <|
  ck (μ x0 (-2) = 9) <|
  bd (f_X7_passDays N x0 (μ x1 0) μ) fun a3 μ4 =>
  some (a3, μ4)
def f_X7_carryOutOrder (N : Nat) (x0 : Int) (μ : Mm) : Rs :=
  ck (μ x0 (-2) = 9) <|
  ck (μ (μ x0 4) (-2) = 5) <|
  ck (μ x0 (-2) = 9) <|
  ck (μ (μ x0 4) (-2) = 5) <|
  if (μ (μ x0 4) 3) = 0 then
    (f_X7_carryOutOrder_b56 N x0 (μ (μ x0 4) 4) μ)
  else
  if (μ (μ x0 4) 3) = 1 then
    (f_X7_carryOutOrder_b73 N x0 (μ (μ x0 4) 4) μ)
  else
  if (μ (μ x0 4) 3) = 2 then
    (f_X7_carryOutOrder_b84 N x0 (μ (μ x0 4) 4) μ)
  else
  if (μ (μ x0 4) 3) = 3 then
    (f_X7_carryOutOrder_b95 N x0 (μ (μ x0 4) 4) μ)
  else
  if (μ (μ x0 4) 3) = 4 then
    (f_X7_carryOutOrder_b106 N x0 (μ (μ x0 4) 4) μ)
  else
  if (μ (μ x0 4) 3) = 5 then
    (f_X7_carryOutOrder_b114 N x0 (μ (μ x0 4) 4) μ)
  else
  if (μ (μ x0 4) 3) = 6 then
    (f_X7_carryOutOrder_b125 N x0 (μ (μ x0 4) 4) μ)
  else
  f_X7_carryOutOrder_b136 N x0 (μ (μ x0 4) 4) μ
set_option maxHeartbeats 4000000 in
set_option maxRecDepth 100000 in
theorem k_X7_carryOutOrder_b56 (C : gCx p s m args meth c cX7_carryOutOrder 2 (some .int) "carryOutOrder" RX7) (N : Nat) {r : Int} {μ' : Mm} : ∀ (x0 x1 : Int) (μ : Mm), f_X7_carryOutOrder_b56 N x0 x1 μ = some (r, μ') → ∀ (H : Heap) (locs : List Loc) (ls : Array Slot), MS E μ s H locs → lv_has ls 2 [(0, vr E x0), (1, vr E x1)] → W p l e ({ frames := 4, cells := 0, slots := 0, locals := 90 } : Room) s m args below meth c H locs 0 0 (MQ below (gQ E (some (vi r)) (R32 r) μ') args s 0 0 (gA E)) (F0 m 56 ls []) := by
  intro x0 x1 μ h H locs ls hM hl
  unfold f_X7_carryOutOrder_b56 at h
  refine m_aload_n (pc := 56) C dX7_carryOutOrder_56 rfl (lv_at hl 0 rfl) ?_
  refine m_aload_n (pc := 57) C dX7_carryOutOrder_57 rfl (lv_at hl 1 rfl) ?_
  refine m_iconst (pc := 58) C dX7_carryOutOrder_58 ?_
  obtain ⟨q1, h⟩ := ck_some h
  have gq1 := Ar_iald hM q1.1 q1.2.1 q1.2.2
  refine m_iald (pc := 59) C hM q1.1 q1.2.1 q1.2.2 dX7_carryOutOrder_59 ?_
  refine m_aload_n (pc := 60) C dX7_carryOutOrder_60 rfl (lv_at hl 1 rfl) ?_
  refine m_iconst (pc := 61) C dX7_carryOutOrder_61 ?_
  obtain ⟨q2, h⟩ := ck_some h
  have gq2 := Ar_iald hM q2.1 q2.2.1 q2.2.2
  refine m_iald (pc := 62) C hM q2.1 q2.2.1 q2.2.2 dX7_carryOutOrder_62 ?_
  refine m_aload_n (pc := 63) C dX7_carryOutOrder_63 rfl (lv_at hl 1 rfl) ?_
  refine m_iconst (pc := 64) C dX7_carryOutOrder_64 ?_
  obtain ⟨q3, h⟩ := ck_some h
  have gq3 := Ar_iald hM q3.1 q3.2.1 q3.2.2
  refine m_iald (pc := 65) C hM q3.1 q3.2.1 q3.2.2 dX7_carryOutOrder_65 ?_
  refine m_aload_n (pc := 66) C dX7_carryOutOrder_66 rfl (lv_at hl 1 rfl) ?_
  refine m_iconst (pc := 67) C dX7_carryOutOrder_67 ?_
  obtain ⟨q4, h⟩ := ck_some h
  have gq4 := Ar_iald hM q4.1 q4.2.1 q4.2.2
  refine m_iald (pc := 68) C hM q4.1 q4.2.1 q4.2.2 dX7_carryOutOrder_68 ?_
  obtain ⟨q5, h⟩ := ck_some h
  obtain ⟨a6, μ7, ca6, h⟩ := bd_some h
  refine V_X7_enterLot (pc := 69) C hM ca6 gq1 gq2 gq3 gq4 q5 bw_4_117 ⟨Nat.le_of_ble_eq_true rfl, Nat.le_of_ble_eq_true rfl⟩ hl.1 rc0 ⟨Nat.le_refl _, Nat.le_refl _⟩ dX7_carryOutOrder_69 (fun ra6 H locs hM => ?_)
  cases h
  exact m_iret (pc := 72) C hM ra6 dX7_carryOutOrder_72
set_option maxHeartbeats 4000000 in
set_option maxRecDepth 100000 in
theorem k_X7_carryOutOrder_b73 (C : gCx p s m args meth c cX7_carryOutOrder 2 (some .int) "carryOutOrder" RX7) (N : Nat) {r : Int} {μ' : Mm} : ∀ (x0 x1 : Int) (μ : Mm), f_X7_carryOutOrder_b73 N x0 x1 μ = some (r, μ') → ∀ (H : Heap) (locs : List Loc) (ls : Array Slot), MS E μ s H locs → lv_has ls 2 [(0, vr E x0), (1, vr E x1)] → W p l e ({ frames := 4, cells := 0, slots := 0, locals := 90 } : Room) s m args below meth c H locs 0 0 (MQ below (gQ E (some (vi r)) (R32 r) μ') args s 0 0 (gA E)) (F0 m 73 ls []) := by
  intro x0 x1 μ h H locs ls hM hl
  unfold f_X7_carryOutOrder_b73 at h
  refine m_aload_n (pc := 73) C dX7_carryOutOrder_73 rfl (lv_at hl 0 rfl) ?_
  refine m_aload_n (pc := 74) C dX7_carryOutOrder_74 rfl (lv_at hl 1 rfl) ?_
  refine m_iconst (pc := 75) C dX7_carryOutOrder_75 ?_
  obtain ⟨q1, h⟩ := ck_some h
  have gq1 := Ar_iald hM q1.1 q1.2.1 q1.2.2
  refine m_iald (pc := 76) C hM q1.1 q1.2.1 q1.2.2 dX7_carryOutOrder_76 ?_
  refine m_aload_n (pc := 77) C dX7_carryOutOrder_77 rfl (lv_at hl 1 rfl) ?_
  refine m_iconst (pc := 78) C dX7_carryOutOrder_78 ?_
  obtain ⟨q2, h⟩ := ck_some h
  have gq2 := Ar_iald hM q2.1 q2.2.1 q2.2.2
  refine m_iald (pc := 79) C hM q2.1 q2.2.1 q2.2.2 dX7_carryOutOrder_79 ?_
  obtain ⟨q3, h⟩ := ck_some h
  obtain ⟨a4, μ5, ca4, h⟩ := bd_some h
  refine V_X7_releaseUnits (pc := 80) C hM ca4 gq1 gq2 q3 bw_4_61 ⟨Nat.le_of_ble_eq_true rfl, Nat.le_of_ble_eq_true rfl⟩ hl.1 rc0 ⟨Nat.le_refl _, Nat.le_refl _⟩ dX7_carryOutOrder_80 (fun ra4 H locs hM => ?_)
  cases h
  exact m_iret (pc := 83) C hM ra4 dX7_carryOutOrder_83
set_option maxHeartbeats 4000000 in
set_option maxRecDepth 100000 in
theorem k_X7_carryOutOrder_b84 (C : gCx p s m args meth c cX7_carryOutOrder 2 (some .int) "carryOutOrder" RX7) (N : Nat) {r : Int} {μ' : Mm} : ∀ (x0 x1 : Int) (μ : Mm), f_X7_carryOutOrder_b84 N x0 x1 μ = some (r, μ') → ∀ (H : Heap) (locs : List Loc) (ls : Array Slot), MS E μ s H locs → lv_has ls 2 [(0, vr E x0), (1, vr E x1)] → W p l e ({ frames := 4, cells := 0, slots := 0, locals := 90 } : Room) s m args below meth c H locs 0 0 (MQ below (gQ E (some (vi r)) (R32 r) μ') args s 0 0 (gA E)) (F0 m 84 ls []) := by
  intro x0 x1 μ h H locs ls hM hl
  unfold f_X7_carryOutOrder_b84 at h
  refine m_aload_n (pc := 84) C dX7_carryOutOrder_84 rfl (lv_at hl 0 rfl) ?_
  refine m_aload_n (pc := 85) C dX7_carryOutOrder_85 rfl (lv_at hl 1 rfl) ?_
  refine m_iconst (pc := 86) C dX7_carryOutOrder_86 ?_
  obtain ⟨q1, h⟩ := ck_some h
  have gq1 := Ar_iald hM q1.1 q1.2.1 q1.2.2
  refine m_iald (pc := 87) C hM q1.1 q1.2.1 q1.2.2 dX7_carryOutOrder_87 ?_
  refine m_aload_n (pc := 88) C dX7_carryOutOrder_88 rfl (lv_at hl 1 rfl) ?_
  refine m_iconst (pc := 89) C dX7_carryOutOrder_89 ?_
  obtain ⟨q2, h⟩ := ck_some h
  have gq2 := Ar_iald hM q2.1 q2.2.1 q2.2.2
  refine m_iald (pc := 90) C hM q2.1 q2.2.1 q2.2.2 dX7_carryOutOrder_90 ?_
  obtain ⟨q3, h⟩ := ck_some h
  obtain ⟨a4, μ5, ca4, h⟩ := bd_some h
  refine V_X7_sampleUnits (pc := 91) C hM ca4 gq1 gq2 q3 bw_4_75 ⟨Nat.le_of_ble_eq_true rfl, Nat.le_of_ble_eq_true rfl⟩ hl.1 rc0 ⟨Nat.le_refl _, Nat.le_refl _⟩ dX7_carryOutOrder_91 (fun ra4 H locs hM => ?_)
  cases h
  exact m_iret (pc := 94) C hM ra4 dX7_carryOutOrder_94
set_option maxHeartbeats 4000000 in
set_option maxRecDepth 100000 in
theorem k_X7_carryOutOrder_b95 (C : gCx p s m args meth c cX7_carryOutOrder 2 (some .int) "carryOutOrder" RX7) (N : Nat) {r : Int} {μ' : Mm} : ∀ (x0 x1 : Int) (μ : Mm), f_X7_carryOutOrder_b95 N x0 x1 μ = some (r, μ') → ∀ (H : Heap) (locs : List Loc) (ls : Array Slot), MS E μ s H locs → lv_has ls 2 [(0, vr E x0), (1, vr E x1)] → W p l e ({ frames := 4, cells := 0, slots := 0, locals := 90 } : Room) s m args below meth c H locs 0 0 (MQ below (gQ E (some (vi r)) (R32 r) μ') args s 0 0 (gA E)) (F0 m 95 ls []) := by
  intro x0 x1 μ h H locs ls hM hl
  unfold f_X7_carryOutOrder_b95 at h
  refine m_aload_n (pc := 95) C dX7_carryOutOrder_95 rfl (lv_at hl 0 rfl) ?_
  refine m_aload_n (pc := 96) C dX7_carryOutOrder_96 rfl (lv_at hl 1 rfl) ?_
  refine m_iconst (pc := 97) C dX7_carryOutOrder_97 ?_
  obtain ⟨q1, h⟩ := ck_some h
  have gq1 := Ar_iald hM q1.1 q1.2.1 q1.2.2
  refine m_iald (pc := 98) C hM q1.1 q1.2.1 q1.2.2 dX7_carryOutOrder_98 ?_
  refine m_aload_n (pc := 99) C dX7_carryOutOrder_99 rfl (lv_at hl 1 rfl) ?_
  refine m_iconst (pc := 100) C dX7_carryOutOrder_100 ?_
  obtain ⟨q2, h⟩ := ck_some h
  have gq2 := Ar_iald hM q2.1 q2.2.1 q2.2.2
  refine m_iald (pc := 101) C hM q2.1 q2.2.1 q2.2.2 dX7_carryOutOrder_101 ?_
  obtain ⟨q3, h⟩ := ck_some h
  obtain ⟨a4, μ5, ca4, h⟩ := bd_some h
  refine V_X7_exportUnits (pc := 102) C hM ca4 gq1 gq2 q3 bw_4_89 ⟨Nat.le_of_ble_eq_true rfl, Nat.le_of_ble_eq_true rfl⟩ hl.1 rc0 ⟨Nat.le_refl _, Nat.le_refl _⟩ dX7_carryOutOrder_102 (fun ra4 H locs hM => ?_)
  cases h
  exact m_iret (pc := 105) C hM ra4 dX7_carryOutOrder_105
set_option maxHeartbeats 4000000 in
set_option maxRecDepth 100000 in
theorem k_X7_carryOutOrder_b106 (C : gCx p s m args meth c cX7_carryOutOrder 2 (some .int) "carryOutOrder" RX7) (N : Nat) {r : Int} {μ' : Mm} : ∀ (x0 x1 : Int) (μ : Mm), f_X7_carryOutOrder_b106 N x0 x1 μ = some (r, μ') → ∀ (H : Heap) (locs : List Loc) (ls : Array Slot), MS E μ s H locs → lv_has ls 2 [(0, vr E x0), (1, vr E x1)] → W p l e ({ frames := 4, cells := 0, slots := 0, locals := 90 } : Room) s m args below meth c H locs 0 0 (MQ below (gQ E (some (vi r)) (R32 r) μ') args s 0 0 (gA E)) (F0 m 106 ls []) := by
  intro x0 x1 μ h H locs ls hM hl
  unfold f_X7_carryOutOrder_b106 at h
  refine m_aload_n (pc := 106) C dX7_carryOutOrder_106 rfl (lv_at hl 0 rfl) ?_
  refine m_aload_n (pc := 107) C dX7_carryOutOrder_107 rfl (lv_at hl 1 rfl) ?_
  refine m_iconst (pc := 108) C dX7_carryOutOrder_108 ?_
  obtain ⟨q1, h⟩ := ck_some h
  have gq1 := Ar_iald hM q1.1 q1.2.1 q1.2.2
  refine m_iald (pc := 109) C hM q1.1 q1.2.1 q1.2.2 dX7_carryOutOrder_109 ?_
  obtain ⟨q2, h⟩ := ck_some h
  obtain ⟨a3, μ4, ca3, h⟩ := bd_some h
  refine V_X7_proveExport (pc := 110) C hM ca3 gq1 q2 bw_2_141 ⟨Nat.le_of_ble_eq_true rfl, Nat.le_of_ble_eq_true rfl⟩ hl.1 rc0 ⟨Nat.le_refl _, Nat.le_refl _⟩ dX7_carryOutOrder_110 (fun ra3 H locs hM => ?_)
  cases h
  exact m_iret (pc := 113) C hM ra3 dX7_carryOutOrder_113
set_option maxHeartbeats 4000000 in
set_option maxRecDepth 100000 in
theorem k_X7_carryOutOrder_b114 (C : gCx p s m args meth c cX7_carryOutOrder 2 (some .int) "carryOutOrder" RX7) (N : Nat) {r : Int} {μ' : Mm} : ∀ (x0 x1 : Int) (μ : Mm), f_X7_carryOutOrder_b114 N x0 x1 μ = some (r, μ') → ∀ (H : Heap) (locs : List Loc) (ls : Array Slot), MS E μ s H locs → lv_has ls 2 [(0, vr E x0), (1, vr E x1)] → W p l e ({ frames := 4, cells := 0, slots := 0, locals := 90 } : Room) s m args below meth c H locs 0 0 (MQ below (gQ E (some (vi r)) (R32 r) μ') args s 0 0 (gA E)) (F0 m 114 ls []) := by
  intro x0 x1 μ h H locs ls hM hl
  unfold f_X7_carryOutOrder_b114 at h
  refine m_aload_n (pc := 114) C dX7_carryOutOrder_114 rfl (lv_at hl 0 rfl) ?_
  refine m_aload_n (pc := 115) C dX7_carryOutOrder_115 rfl (lv_at hl 1 rfl) ?_
  refine m_iconst (pc := 116) C dX7_carryOutOrder_116 ?_
  obtain ⟨q1, h⟩ := ck_some h
  have gq1 := Ar_iald hM q1.1 q1.2.1 q1.2.2
  refine m_iald (pc := 117) C hM q1.1 q1.2.1 q1.2.2 dX7_carryOutOrder_117 ?_
  refine m_aload_n (pc := 118) C dX7_carryOutOrder_118 rfl (lv_at hl 1 rfl) ?_
  refine m_iconst (pc := 119) C dX7_carryOutOrder_119 ?_
  obtain ⟨q2, h⟩ := ck_some h
  have gq2 := Ar_iald hM q2.1 q2.2.1 q2.2.2
  refine m_iald (pc := 120) C hM q2.1 q2.2.1 q2.2.2 dX7_carryOutOrder_120 ?_
  obtain ⟨q3, h⟩ := ck_some h
  obtain ⟨a4, μ5, ca4, h⟩ := bd_some h
  refine V_X7_destroyUnits (pc := 121) C hM ca4 gq1 gq2 q3 bw_4_97 ⟨Nat.le_of_ble_eq_true rfl, Nat.le_of_ble_eq_true rfl⟩ hl.1 rc0 ⟨Nat.le_refl _, Nat.le_refl _⟩ dX7_carryOutOrder_121 (fun ra4 H locs hM => ?_)
  cases h
  exact m_iret (pc := 124) C hM ra4 dX7_carryOutOrder_124
set_option maxHeartbeats 4000000 in
set_option maxRecDepth 100000 in
theorem k_X7_carryOutOrder_b125 (C : gCx p s m args meth c cX7_carryOutOrder 2 (some .int) "carryOutOrder" RX7) (N : Nat) {r : Int} {μ' : Mm} : ∀ (x0 x1 : Int) (μ : Mm), f_X7_carryOutOrder_b125 N x0 x1 μ = some (r, μ') → ∀ (H : Heap) (locs : List Loc) (ls : Array Slot), MS E μ s H locs → lv_has ls 2 [(0, vr E x0), (1, vr E x1)] → W p l e ({ frames := 4, cells := 0, slots := 0, locals := 90 } : Room) s m args below meth c H locs 0 0 (MQ below (gQ E (some (vi r)) (R32 r) μ') args s 0 0 (gA E)) (F0 m 125 ls []) := by
  intro x0 x1 μ h H locs ls hM hl
  unfold f_X7_carryOutOrder_b125 at h
  refine m_aload_n (pc := 125) C dX7_carryOutOrder_125 rfl (lv_at hl 0 rfl) ?_
  refine m_aload_n (pc := 126) C dX7_carryOutOrder_126 rfl (lv_at hl 1 rfl) ?_
  refine m_iconst (pc := 127) C dX7_carryOutOrder_127 ?_
  obtain ⟨q1, h⟩ := ck_some h
  have gq1 := Ar_iald hM q1.1 q1.2.1 q1.2.2
  refine m_iald (pc := 128) C hM q1.1 q1.2.1 q1.2.2 dX7_carryOutOrder_128 ?_
  refine m_aload_n (pc := 129) C dX7_carryOutOrder_129 rfl (lv_at hl 1 rfl) ?_
  refine m_iconst (pc := 130) C dX7_carryOutOrder_130 ?_
  obtain ⟨q2, h⟩ := ck_some h
  have gq2 := Ar_iald hM q2.1 q2.2.1 q2.2.2
  refine m_iald (pc := 131) C hM q2.1 q2.2.1 q2.2.2 dX7_carryOutOrder_131 ?_
  obtain ⟨q3, h⟩ := ck_some h
  obtain ⟨a4, μ5, ca4, h⟩ := bd_some h
  refine V_X7_giveLot (pc := 132) C hM ca4 gq1 gq2 q3 bw_4_105 ⟨Nat.le_of_ble_eq_true rfl, Nat.le_of_ble_eq_true rfl⟩ hl.1 rc0 ⟨Nat.le_refl _, Nat.le_refl _⟩ dX7_carryOutOrder_132 (fun ra4 H locs hM => ?_)
  cases h
  exact m_iret (pc := 135) C hM ra4 dX7_carryOutOrder_135
set_option maxHeartbeats 4000000 in
set_option maxRecDepth 100000 in
theorem k_X7_carryOutOrder_b136 (C : gCx p s m args meth c cX7_carryOutOrder 2 (some .int) "carryOutOrder" RX7) (N : Nat) {r : Int} {μ' : Mm} : ∀ (x0 x1 : Int) (μ : Mm), f_X7_carryOutOrder_b136 N x0 x1 μ = some (r, μ') → ∀ (H : Heap) (locs : List Loc) (ls : Array Slot), MS E μ s H locs → lv_has ls 2 [(0, vr E x0), (1, vr E x1)] → W p l e ({ frames := 4, cells := 0, slots := 0, locals := 90 } : Room) s m args below meth c H locs 0 0 (MQ below (gQ E (some (vi r)) (R32 r) μ') args s 0 0 (gA E)) (F0 m 136 ls []) := by
  intro x0 x1 μ h H locs ls hM hl
  unfold f_X7_carryOutOrder_b136 at h
  refine m_aload_n (pc := 136) C dX7_carryOutOrder_136 rfl (lv_at hl 0 rfl) ?_
  refine m_aload_n (pc := 137) C dX7_carryOutOrder_137 rfl (lv_at hl 1 rfl) ?_
  refine m_iconst (pc := 138) C dX7_carryOutOrder_138 ?_
  obtain ⟨q1, h⟩ := ck_some h
  have gq1 := Ar_iald hM q1.1 q1.2.1 q1.2.2
  refine m_iald (pc := 139) C hM q1.1 q1.2.1 q1.2.2 dX7_carryOutOrder_139 ?_
  obtain ⟨q2, h⟩ := ck_some h
  obtain ⟨a3, μ4, ca3, h⟩ := bd_some h
  refine V_X7_passDays (pc := 140) C hM ca3 gq1 q2 bw_2_166 ⟨Nat.le_of_ble_eq_true rfl, Nat.le_of_ble_eq_true rfl⟩ hl.1 rc0 ⟨Nat.le_refl _, Nat.le_refl _⟩ dX7_carryOutOrder_140 (fun ra3 H locs hM => ?_)
  cases h
  exact m_iret (pc := 143) C hM ra3 dX7_carryOutOrder_143
set_option maxHeartbeats 4000000 in
set_option maxRecDepth 100000 in
theorem c_X7_carryOutOrder (l : Launch) (E : gE) (N : Nat) (x0 : Int) (μ μ' : Mm) (r : Int) (h : f_X7_carryOutOrder N x0 μ = some (r, μ')) : gMet l E yX7_carryOutOrder cX7_carryOutOrder 2 (some .int) 4 90 [vr E x0] (some (vi r)) (R32 r) μ μ' 0 0 := by
  refine g_ofW [1] (by first | (simp only [List.map_cons, List.map_nil, vr_cat]; done) | (simp only [List.map_cons, List.map_nil, vr_cat]; rfl)) (by decide) (by decide) (fun p e s m below meth c ls C hM hl => ?_)
  replace C : gCx p s m _ meth c cX7_carryOutOrder 2 (some .int) "carryOutOrder" RX7 := C
  replace hl : lv_has ls 2 [(0, vr E x0)] := hl
  unfold f_X7_carryOutOrder at h
  refine m_aload_n (pc := 0) C dX7_carryOutOrder_0 rfl (lv_at hl 0 rfl) ?_
  obtain ⟨q1, h⟩ := ck_some h
  refine G_X7_orders (pc := 1) C hM bw_2_67 q1 dX7_carryOutOrder_1 ?_
  obtain ⟨q2, h⟩ := ck_some h
  refine G_X3_numbers (pc := 4) C hM bw_2_17 q2 dX7_carryOutOrder_4 ?_
  refine m_astore_n (pc := 7) C dX7_carryOutOrder_7 rfl hl (by decide) (lvK2 0 rfl (Nat.ne_of_beq_eq_false rfl) (vr_cat _ _) lvK0) (fun ls hl => ?_)
  refine m_aload_n (pc := 8) C dX7_carryOutOrder_8 rfl (lv_at hl 1 rfl) ?_
  obtain ⟨q3, h⟩ := ck_some h
  refine G_X7_orders (pc := 9) C hM bw_2_67 q3 dX7_carryOutOrder_9 ?_
  obtain ⟨q4, h⟩ := ck_some h
  have gq4 := Gr_X3_word hM q4
  refine G_X3_word (pc := 12) C hM bw_2_15 q4 dX7_carryOutOrder_12 ?_
  by_cases c5 : μ (μ x0 4) 3 = 0
  · have h := if_t h c5
    refine m_tab (pc := 15) (tgt := 56) C gq4 c5 dX7_carryOutOrder_15 (by decide) (by decide) rfl (by decide) ?_
    exact k_X7_carryOutOrder_b56 C N _ _ _ h _ _ _ hM (lv_sub hl [1, 0] rfl)
  replace h := if_f h c5
  by_cases c6 : μ (μ x0 4) 3 = 1
  · have h := if_t h c6
    refine m_tab (pc := 15) (tgt := 73) C gq4 c6 dX7_carryOutOrder_15 (by decide) (by decide) rfl (by decide) ?_
    exact k_X7_carryOutOrder_b73 C N _ _ _ h _ _ _ hM (lv_sub hl [1, 0] rfl)
  replace h := if_f h c6
  by_cases c7 : μ (μ x0 4) 3 = 2
  · have h := if_t h c7
    refine m_tab (pc := 15) (tgt := 84) C gq4 c7 dX7_carryOutOrder_15 (by decide) (by decide) rfl (by decide) ?_
    exact k_X7_carryOutOrder_b84 C N _ _ _ h _ _ _ hM (lv_sub hl [1, 0] rfl)
  replace h := if_f h c7
  by_cases c8 : μ (μ x0 4) 3 = 3
  · have h := if_t h c8
    refine m_tab (pc := 15) (tgt := 95) C gq4 c8 dX7_carryOutOrder_15 (by decide) (by decide) rfl (by decide) ?_
    exact k_X7_carryOutOrder_b95 C N _ _ _ h _ _ _ hM (lv_sub hl [1, 0] rfl)
  replace h := if_f h c8
  by_cases c9 : μ (μ x0 4) 3 = 4
  · have h := if_t h c9
    refine m_tab (pc := 15) (tgt := 106) C gq4 c9 dX7_carryOutOrder_15 (by decide) (by decide) rfl (by decide) ?_
    exact k_X7_carryOutOrder_b106 C N _ _ _ h _ _ _ hM (lv_sub hl [1, 0] rfl)
  replace h := if_f h c9
  by_cases c10 : μ (μ x0 4) 3 = 5
  · have h := if_t h c10
    refine m_tab (pc := 15) (tgt := 114) C gq4 c10 dX7_carryOutOrder_15 (by decide) (by decide) rfl (by decide) ?_
    exact k_X7_carryOutOrder_b114 C N _ _ _ h _ _ _ hM (lv_sub hl [1, 0] rfl)
  replace h := if_f h c10
  by_cases c11 : μ (μ x0 4) 3 = 6
  · have h := if_t h c11
    refine m_tab (pc := 15) (tgt := 125) C gq4 c11 dX7_carryOutOrder_15 (by decide) (by decide) rfl (by decide) ?_
    exact k_X7_carryOutOrder_b125 C N _ _ _ h _ _ _ hM (lv_sub hl [1, 0] rfl)
  replace h := if_f h c11
  refine m_tabD (pc := 15) (tgt := 136) C gq4 dX7_carryOutOrder_15 (by omega) (by decide) ?_
  exact k_X7_carryOutOrder_b136 C N _ _ _ h _ _ _ hM (lv_sub hl [1, 0] rfl)
theorem hd_X7_carryOutOrder : yX7_carryOutOrder.cls ≠ "java/lang/invoke/MethodHandle" ∧ yX7_carryOutOrder.cls ≠ "java/lang/invoke/VarHandle" ∧ (parseMethodDescriptor yX7_carryOutOrder.desc).map (fun d => d.parameters.length) = some 0 := by decide +kernel

theorem V_X7_carryOutOrder {p : Program} {l : Launch} {e : Env} {R : Room} {s : State} {m : MethodId} {args : Array Value} {below : List Frame} {meth : Method} {c : Code} {H : Heap} {locs : List Loc} {cells slots : Nat} {Q : State → Prop} {cc : ByteArray} {pc nL : Nat} {ls : Array Slot} {rest : List Value} {ret : Option FieldType} {nmm own : String} {E : gE} {μ μ1 : Mm} {index : Nat} (C : gCx p s m args meth c cc nL ret nmm own) (hM : MS E μ s H locs) {N : Nat} {x0 v : Int} (hc : f_X7_carryOutOrder N x0 μ = some (v, μ1)) (hck : μ x0 (-2) = 9) (h1 : Cond.methodLink own index yX7_carryOutOrder ∈ bigL) (hR : 5 ≤ R.frames ∧ 111 ≤ R.locals) (hl : ls.size = nL) (hcat : RC rest 8) (hf : cells + 0 ≤ R.cells ∧ slots + 0 ≤ R.slots) (hdg : decode cc pc = .ok (.invokevirtual index, 3)) (kk : (R32 v) → ∀ (H1 : Heap) (locs1 : List Loc), MS E μ1 s H1 locs1 → W p l e R s m args below meth c H1 locs1 (cells + 0) (slots + 0) Q (F0 m (pc + 3) ls (vi v :: rest))) : W p l e R s m args below meth c H locs cells slots Q (F0 m pc ls (vr E x0 :: rest)) := g_callV C KF_X7 hM (c_X7_carryOutOrder l E N x0 μ μ1 v hc) hck (gV h1 bw_5_16 bs_19 bw_1_1 bw_5_17) ⟨rfl, hd_X7_carryOutOrder⟩ hR rfl hl rfl hcat hf hdg kk
/-! X7_carryOutOrders -/
def f_X7_carryOutOrders_b9 (N : Nat) : Nat → Int → Int → Mm → Rs
  | 0, _, _, _ => none
  | n + 1, x0, x1, μ =>
    if 80 ≤ x1 then
      (some (x1, μ))
    else
    ck (μ x0 (-2) = 9) <|
    ck (μ (μ x0 4) (-2) = 5) <|
    bd (f_X3_atEnd N (μ x0 4) μ) fun a4 μ5 =>
    if ¬ a4 = 0 then
      (some (x1, μ5))
    else
    ck (μ5 x0 (-2) = 9) <|
    ck (μ5 (μ5 x0 4) (-2) = 5) <|
    bd (f_X3_readOrder N (μ5 x0 4) μ5) fun a9 μ10 =>
    if a9 = 0 then
      (some (x1, μ10))
    else
    ck (μ10 x0 (-2) = 9) <|
    bd (f_X7_carryOutOrder N x0 μ10) fun a13 μ14 =>
    if a13 < 0 then
      (some (x1, μ14))
    else
    nm (w32 (x1 + 1)) fun a16 =>
    ck (μ14 x0 (-2) = 9) <|
    ck (μ14 (μ14 x0 4) (-2) = 5) <|
    bd (f_X3_skipSeparator N (μ14 x0 4) μ14) fun a19 μ20 =>
    f_X7_carryOutOrders_b9 N n x0 a16 μ20
def f_X7_carryOutOrders (N : Nat) (x0 : Int) (μ : Mm) : Rs :=
  ck (μ x0 (-2) = 9) <|
  ck (μ (μ x0 4) (-2) = 5) <|
  bd (f_X3_goToStart N (μ x0 4) μ) fun a3 μ4 =>
  f_X7_carryOutOrders_b9 N N x0 0 μ4
set_option maxHeartbeats 4000000 in
set_option maxRecDepth 100000 in
theorem k_X7_carryOutOrders_b9 (C : gCx p s m args meth c cX7_carryOutOrders 2 (some .int) "carryOutOrders" RX7) (N : Nat) {r : Int} {μ' : Mm} : ∀ (n : Nat), ∀ (x0 x1 : Int) (μ : Mm), f_X7_carryOutOrders_b9 N n x0 x1 μ = some (r, μ') → R32 x1 → ∀ (H : Heap) (locs : List Loc) (ls : Array Slot), MS E μ s H locs → lv_has ls 2 [(0, vr E x0), (1, vi x1)] → W p l e ({ frames := 7, cells := 0, slots := 0, locals := 155 } : Room) s m args below meth c H locs 0 0 (MQ below (gQ E (some (vi r)) (R32 r) μ') args s 0 0 (gA E)) (F0 m 9 ls []) := by
  intro n
  induction n with
  | zero => intro x0 x1 μ h; simp [f_X7_carryOutOrders_b9] at h
  | succ n ih =>
    intro x0 x1 μ h rx1 H locs ls hM hl
    rw [f_X7_carryOutOrders_b9] at h
    refine m_iload_n (pc := 9) C dX7_carryOutOrders_9 rfl (lv_at hl 1 rfl) ?_
    refine m_bipush (pc := 10) C dX7_carryOutOrders_10 rfl ?_
    refine m_icmp_ge (tgt := 55) (pc := 12) C rx1 rk_80 dX7_carryOutOrders_12 (by decide) (fun c1 => ?_) (fun c1 => ?_)
    · have h := if_t h c1
      refine m_iload_n (pc := 55) C dX7_carryOutOrders_55 rfl (lv_at hl 1 rfl) ?_
      cases h
      exact m_iret (pc := 56) C hM rx1 dX7_carryOutOrders_56
    · have h := if_f h c1
      refine m_aload_n (pc := 15) C dX7_carryOutOrders_15 rfl (lv_at hl 0 rfl) ?_
      obtain ⟨q2, h⟩ := ck_some h
      refine G_X7_orders (pc := 16) C hM bw_2_67 q2 dX7_carryOutOrders_16 ?_
      obtain ⟨q3, h⟩ := ck_some h
      obtain ⟨a4, μ5, ca4, h⟩ := bd_some h
      refine V_X3_atEnd (pc := 19) C hM ca4 q3 bw_5_12 ⟨Nat.le_of_ble_eq_true rfl, Nat.le_of_ble_eq_true rfl⟩ hl.1 rc0 ⟨Nat.le_refl _, Nat.le_refl _⟩ dX7_carryOutOrders_19 (fun ra4 H locs hM => ?_)
      refine m_if_ne (tgt := 55) (pc := 22) C ra4 dX7_carryOutOrders_22 (by decide) (fun c6 => ?_) (fun c6 => ?_)
      · have h := if_t h c6
        refine m_iload_n (pc := 55) C dX7_carryOutOrders_55 rfl (lv_at hl 1 rfl) ?_
        cases h
        exact m_iret (pc := 56) C hM rx1 dX7_carryOutOrders_56
      · have h := if_f h c6
        refine m_aload_n (pc := 25) C dX7_carryOutOrders_25 rfl (lv_at hl 0 rfl) ?_
        obtain ⟨q7, h⟩ := ck_some h
        refine G_X7_orders (pc := 26) C hM bw_2_67 q7 dX7_carryOutOrders_26 ?_
        obtain ⟨q8, h⟩ := ck_some h
        obtain ⟨a9, μ10, ca9, h⟩ := bd_some h
        refine V_X3_readOrder (pc := 29) C hM ca9 q8 bw_5_13 ⟨Nat.le_of_ble_eq_true rfl, Nat.le_of_ble_eq_true rfl⟩ hl.1 rc0 ⟨Nat.le_refl _, Nat.le_refl _⟩ dX7_carryOutOrders_29 (fun ra9 H locs hM => ?_)
        refine m_if_eq (tgt := 55) (pc := 32) C ra9 dX7_carryOutOrders_32 (by decide) (fun c11 => ?_) (fun c11 => ?_)
        · have h := if_t h c11
          refine m_iload_n (pc := 55) C dX7_carryOutOrders_55 rfl (lv_at hl 1 rfl) ?_
          cases h
          exact m_iret (pc := 56) C hM rx1 dX7_carryOutOrders_56
        · have h := if_f h c11
          refine m_aload_n (pc := 35) C dX7_carryOutOrders_35 rfl (lv_at hl 0 rfl) ?_
          obtain ⟨q12, h⟩ := ck_some h
          obtain ⟨a13, μ14, ca13, h⟩ := bd_some h
          refine V_X7_carryOutOrder (pc := 36) C hM ca13 q12 bw_5_14 ⟨Nat.le_of_ble_eq_true rfl, Nat.le_of_ble_eq_true rfl⟩ hl.1 rc0 ⟨Nat.le_refl _, Nat.le_refl _⟩ dX7_carryOutOrders_36 (fun ra13 H locs hM => ?_)
          refine m_if_lt (tgt := 55) (pc := 39) C ra13 dX7_carryOutOrders_39 (by decide) (fun c15 => ?_) (fun c15 => ?_)
          · have h := if_t h c15
            refine m_iload_n (pc := 55) C dX7_carryOutOrders_55 rfl (lv_at hl 1 rfl) ?_
            cases h
            exact m_iret (pc := 56) C hM rx1 dX7_carryOutOrders_56
          · have h := if_f h c15
            obtain ⟨a16, ea16, h⟩ := nm_some h
            have ra16 : R32 a16 := by rw [ea16]; exact w32_R _
            refine m_iinc (k := 1) (pc := 42) C dX7_carryOutOrders_42 hl rfl (by decide) ea16 (lvK2 0 rfl (Nat.ne_of_beq_eq_false rfl) (vr_cat _ _) lvK0) (fun ls hl => ?_)
            refine m_aload_n (pc := 45) C dX7_carryOutOrders_45 rfl (lv_at hl 1 rfl) ?_
            obtain ⟨q17, h⟩ := ck_some h
            refine G_X7_orders (pc := 46) C hM bw_2_67 q17 dX7_carryOutOrders_46 ?_
            obtain ⟨q18, h⟩ := ck_some h
            obtain ⟨a19, μ20, ca19, h⟩ := bd_some h
            refine V_X3_skipSeparator (pc := 49) C hM ca19 q18 bw_5_18 ⟨Nat.le_of_ble_eq_true rfl, Nat.le_of_ble_eq_true rfl⟩ hl.1 rc0 ⟨Nat.le_refl _, Nat.le_refl _⟩ dX7_carryOutOrders_49 (fun _ H locs hM => ?_)
            refine m_goto (tgt := 9) (pc := 52) C dX7_carryOutOrders_52 (by decide) ?_
            exact ih _ _ _ h ra16 _ _ _ hM (lv_sub hl [1, 0] rfl)
set_option maxHeartbeats 4000000 in
set_option maxRecDepth 100000 in
theorem c_X7_carryOutOrders (l : Launch) (E : gE) (N : Nat) (x0 : Int) (μ μ' : Mm) (r : Int) (h : f_X7_carryOutOrders N x0 μ = some (r, μ')) : gMet l E yX7_carryOutOrders cX7_carryOutOrders 2 (some .int) 7 155 [vr E x0] (some (vi r)) (R32 r) μ μ' 0 0 := by
  refine g_ofW [1] (by first | (simp only [List.map_cons, List.map_nil, vr_cat]; done) | (simp only [List.map_cons, List.map_nil, vr_cat]; rfl)) (by decide) (by decide) (fun p e s m below meth c ls C hM hl => ?_)
  replace C : gCx p s m _ meth c cX7_carryOutOrders 2 (some .int) "carryOutOrders" RX7 := C
  replace hl : lv_has ls 2 [(0, vr E x0)] := hl
  unfold f_X7_carryOutOrders at h
  refine m_iconst (pc := 0) C dX7_carryOutOrders_0 ?_
  refine m_istore_n (pc := 1) C dX7_carryOutOrders_1 rfl hl (by decide) (lvK2 0 rfl (Nat.ne_of_beq_eq_false rfl) (vr_cat _ _) lvK0) (fun ls hl => ?_)
  refine m_aload_n (pc := 2) C dX7_carryOutOrders_2 rfl (lv_at hl 1 rfl) ?_
  obtain ⟨q1, h⟩ := ck_some h
  refine G_X7_orders (pc := 3) C hM bw_2_67 q1 dX7_carryOutOrders_3 ?_
  obtain ⟨q2, h⟩ := ck_some h
  obtain ⟨a3, μ4, ca3, h⟩ := bd_some h
  refine V_X3_goToStart (pc := 6) C hM ca3 q2 bw_5_11 ⟨Nat.le_of_ble_eq_true rfl, Nat.le_of_ble_eq_true rfl⟩ hl.1 rc0 ⟨Nat.le_refl _, Nat.le_refl _⟩ dX7_carryOutOrders_6 (fun _ H locs hM => ?_)
  exact k_X7_carryOutOrders_b9 C N N _ _ _ h rk_0 _ _ _ hM (lv_sub hl [1, 0] rfl)
theorem hd_X7_carryOutOrders : yX7_carryOutOrders.cls ≠ "java/lang/invoke/MethodHandle" ∧ yX7_carryOutOrders.cls ≠ "java/lang/invoke/VarHandle" ∧ (parseMethodDescriptor yX7_carryOutOrders.desc).map (fun d => d.parameters.length) = some 0 := by decide +kernel

theorem V_X7_carryOutOrders {p : Program} {l : Launch} {e : Env} {R : Room} {s : State} {m : MethodId} {args : Array Value} {below : List Frame} {meth : Method} {c : Code} {H : Heap} {locs : List Loc} {cells slots : Nat} {Q : State → Prop} {cc : ByteArray} {pc nL : Nat} {ls : Array Slot} {rest : List Value} {ret : Option FieldType} {nmm own : String} {E : gE} {μ μ1 : Mm} {index : Nat} (C : gCx p s m args meth c cc nL ret nmm own) (hM : MS E μ s H locs) {N : Nat} {x0 v : Int} (hc : f_X7_carryOutOrders N x0 μ = some (v, μ1)) (hck : μ x0 (-2) = 9) (h1 : Cond.methodLink own index yX7_carryOutOrders ∈ bigL) (hR : 8 ≤ R.frames ∧ 176 ≤ R.locals) (hl : ls.size = nL) (hcat : RC rest 8) (hf : cells + 0 ≤ R.cells ∧ slots + 0 ≤ R.slots) (hdg : decode cc pc = .ok (.invokevirtual index, 3)) (kk : (R32 v) → ∀ (H1 : Heap) (locs1 : List Loc), MS E μ1 s H1 locs1 → W p l e R s m args below meth c H1 locs1 (cells + 0) (slots + 0) Q (F0 m (pc + 3) ls (vi v :: rest))) : W p l e R s m args below meth c H locs cells slots Q (F0 m pc ls (vr E x0 :: rest)) := g_callV C KF_X7 hM (c_X7_carryOutOrders l E N x0 μ μ1 v hc) hck (gV h1 bw_5_9 bs_18 bw_1_1 bw_5_10) ⟨rfl, hd_X7_carryOutOrders⟩ hR rfl hl rfl hcat hf hdg kk
end G06
