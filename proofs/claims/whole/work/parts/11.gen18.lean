section G18
variable {p : Program} {l : Launch} {e : Env} {R : Room} {s : State} {m : MethodId} {args : Array Value} {below : List Frame} {meth : Method} {c : Code} {E : gE}
/-! X8_rate -/
def f_X8_rate (N : Nat) (x0 x1 : Int) (μ : Mm) : Rs :=
  bd (f_X8_noKind N x1 μ) fun a1 μ2 =>
  if a1 = 0 then
    (nm (w32 (14 + x1)) fun a4 =>
     ck (μ2 x0 (-2) = 10) <|
     bd (f_X8_number N x0 a4 μ2) fun a6 μ7 =>
     some (a6, μ7))
  else
  some ((-100000001), μ2)
set_option maxHeartbeats 4000000 in
set_option maxRecDepth 100000 in
theorem c_X8_rate (l : Launch) (E : gE) (N : Nat) (x0 x1 : Int) (μ μ' : Mm) (r : Int) (h : f_X8_rate N x0 x1 μ = some (r, μ')) (rx1 : R32 x1) : gMet l E yX8_rate cX8_rate 2 (some .int) 2 45 [vr E x0, vi x1] (some (vi r)) (R32 r) μ μ' 0 0 := by
  refine g_ofW [1, 1] (by first | (simp only [List.map_cons, List.map_nil, vr_cat]; done) | (simp only [List.map_cons, List.map_nil, vr_cat]; rfl)) (by decide) (by decide) (fun p e s m below meth c ls C hM hl => ?_)
  replace C : gCx p s m _ meth c cX8_rate 2 (some .int) "rate" RX8 := C
  replace hl : lv_has ls 2 [(0, vr E x0), (1, vi x1)] := hl
  unfold f_X8_rate at h
  refine m_iload_n (pc := 0) C dX8_rate_0 rfl (lv_at hl 1 rfl) ?_
  obtain ⟨a1, μ2, ca1, h⟩ := bd_some h
  refine V_X8_noKind (pc := 1) C hM ca1 rx1 bw_5_130 ⟨Nat.le_of_ble_eq_true rfl, Nat.le_of_ble_eq_true rfl⟩ hl.1 rc0 ⟨Nat.le_refl _, Nat.le_refl _⟩ dX8_rate_1 (fun ra1 H locs hM => ?_)
  refine m_if_eq (tgt := 12) (pc := 4) C ra1 dX8_rate_4 (by decide) (fun c3 => ?_) (fun c3 => ?_)
  · have h := if_t h c3
    refine m_aload_n (pc := 12) C dX8_rate_12 rfl (lv_at hl 0 rfl) ?_
    refine m_bipush (pc := 13) C dX8_rate_13 rfl ?_
    refine m_iload_n (pc := 15) C dX8_rate_15 rfl (lv_at hl 1 rfl) ?_
    obtain ⟨a4, ea4, h⟩ := nm_some h
    have ra4 : R32 a4 := by rw [ea4]; exact w32_R _
    refine m_iadd (pc := 16) C dX8_rate_16 ea4 ?_
    obtain ⟨q5, h⟩ := ck_some h
    obtain ⟨a6, μ7, ca6, h⟩ := bd_some h
    refine V_X8_number (pc := 17) C hM ca6 ra4 q5 bw_5_47 ⟨Nat.le_of_ble_eq_true rfl, Nat.le_of_ble_eq_true rfl⟩ hl.1 rc0 ⟨Nat.le_refl _, Nat.le_refl _⟩ dX8_rate_17 (fun ra6 H locs hM => ?_)
    cases h
    exact m_iret (pc := 20) C hM ra6 dX8_rate_20
  · have h := if_f h c3
    refine m_ldc (n := -100000001) (pc := 7) C bw_5_46 rfl dX8_rate_7 ?_
    refine m_goto (tgt := 20) (pc := 9) C dX8_rate_9 (by decide) ?_
    cases h
    exact m_iret (pc := 20) C hM rk_m100000001 dX8_rate_20
theorem hd_X8_rate : yX8_rate.cls ≠ "java/lang/invoke/MethodHandle" ∧ yX8_rate.cls ≠ "java/lang/invoke/VarHandle" ∧ (parseMethodDescriptor yX8_rate.desc).map (fun d => d.parameters.length) = some 1 := by decide +kernel

theorem V_X8_rate {p : Program} {l : Launch} {e : Env} {R : Room} {s : State} {m : MethodId} {args : Array Value} {below : List Frame} {meth : Method} {c : Code} {H : Heap} {locs : List Loc} {cells slots : Nat} {Q : State → Prop} {cc : ByteArray} {pc nL : Nat} {ls : Array Slot} {rest : List Value} {ret : Option FieldType} {nmm own : String} {E : gE} {μ μ1 : Mm} {index : Nat} (C : gCx p s m args meth c cc nL ret nmm own) (hM : MS E μ s H locs) {N : Nat} {x0 x1 v : Int} (hc : f_X8_rate N x0 x1 μ = some (v, μ1)) (rx1 : R32 x1) (hck : μ x0 (-2) = 10) (h1 : Cond.methodLink own index yX8_rate ∈ bigL) (hR : 3 ≤ R.frames ∧ 66 ≤ R.locals) (hl : ls.size = nL) (hcat : RC rest 8) (hf : cells + 0 ≤ R.cells ∧ slots + 0 ≤ R.slots) (hdg : decode cc pc = .ok (.invokevirtual index, 3)) (kk : (R32 v) → ∀ (H1 : Heap) (locs1 : List Loc), MS E μ1 s H1 locs1 → W p l e R s m args below meth c H1 locs1 (cells + 0) (slots + 0) Q (F0 m (pc + 3) ls (vi v :: rest))) : W p l e R s m args below meth c H locs cells slots Q (F0 m pc ls (vi x1 :: vr E x0 :: rest)) := g_callV C KF_X8 hM (c_X8_rate l E N x0 x1 μ μ1 v hc rx1) hck (gV h1 bw_6_155 bw_6_156 bw_1_13 bw_6_157) ⟨rfl, hd_X8_rate⟩ hR rfl hl rfl hcat hf hdg kk
end G18
