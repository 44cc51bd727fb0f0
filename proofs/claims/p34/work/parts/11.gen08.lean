section G08
variable {p : Program} {l : Launch} {e : Env} {R : Room} {s : State} {m : MethodId} {args : Array Value} {below : List Frame} {meth : Method} {c : Code} {E : gE}
/-! J7_rangeCheck_23922 -/
def f_J7_rangeCheck_23922 (N : Nat) (x0 x1 x2 : Int) (μ : Mm) : Rs :=
  if x1 ≤ x2 then
    (if 0 ≤ x1 then
       (if x2 ≤ x0 then
          (some (0, μ))
        else
        none)
     else
     none)
  else
  none
set_option maxHeartbeats 4000000 in
set_option maxRecDepth 100000 in
theorem c_J7_rangeCheck_23922 (l : Launch) (E : gE) (N : Nat) (x0 x1 x2 : Int) (μ μ' : Mm) (r : Int) (h : f_J7_rangeCheck_23922 N x0 x1 x2 μ = some (r, μ')) (rx0 : R32 x0) (rx1 : R32 x1) (rx2 : R32 x2) : gMet l E yJ7_rangeCheck_23922 cJ7_rangeCheck_23922 3 none 0 0 [vi x0, vi x1, vi x2] none True μ μ' 0 0 := by
  refine g_ofW [1, 1, 1] rfl (by decide) (by decide) (fun p e s m below meth c ls C hM hl => ?_)
  replace C : gCx p s m _ meth c cJ7_rangeCheck_23922 3 none "rangeCheck" RJ7 := C
  replace hl : lv_has ls 3 [(0, vi x0), (1, vi x1), (2, vi x2)] := hl
  unfold f_J7_rangeCheck_23922 at h
  refine m_iload_n (pc := 0) C dJ7_rangeCheck_23922_0 rfl (lv_at hl 1 rfl) ?_
  refine m_iload_n (pc := 1) C dJ7_rangeCheck_23922_1 rfl (lv_at hl 2 rfl) ?_
  refine m_icmp_le (tgt := 46) (pc := 2) C rx1 rx2 dJ7_rangeCheck_23922_2 (by decide) (fun c1 => ?_) (fun c1 => ?_)
  · have h := if_t h c1
    refine m_iload_n (pc := 46) C dJ7_rangeCheck_23922_46 rfl (lv_at hl 1 rfl) ?_
    refine m_if_ge (tgt := 59) (pc := 47) C rx1 dJ7_rangeCheck_23922_47 (by decide) (fun c2 => ?_) (fun c2 => ?_)
    · have h := if_t h c2
      refine m_iload_n (pc := 59) C dJ7_rangeCheck_23922_59 rfl (lv_at hl 2 rfl) ?_
      refine m_iload_n (pc := 60) C dJ7_rangeCheck_23922_60 rfl (lv_at hl 0 rfl) ?_
      refine m_icmp_le (tgt := 73) (pc := 61) C rx2 rx0 dJ7_rangeCheck_23922_61 (by decide) (fun c3 => ?_) (fun c3 => ?_)
      · have h := if_t h c3
        cases h
        exact m_vret (pc := 73) C hM trivial dJ7_rangeCheck_23922_73
      · have h := if_f h c3
        cases h
    · have h := if_f h c2
      cases h
  · have h := if_f h c1
    cases h
theorem hd_J7_rangeCheck_23922 : yJ7_rangeCheck_23922.cls ≠ "java/lang/invoke/MethodHandle" ∧ yJ7_rangeCheck_23922.cls ≠ "java/lang/invoke/VarHandle" ∧ (parseMethodDescriptor yJ7_rangeCheck_23922.desc).map (fun d => d.parameters.length) = some 3 := by decide +kernel

theorem V_J7_rangeCheck_23922 {p : Program} {l : Launch} {e : Env} {R : Room} {s : State} {m : MethodId} {args : Array Value} {below : List Frame} {meth : Method} {c : Code} {H : Heap} {locs : List Loc} {cells slots : Nat} {Q : State → Prop} {cc : ByteArray} {pc nL : Nat} {ls : Array Slot} {rest : List Value} {ret : Option FieldType} {nmm own : String} {E : gE} {μ μ1 : Mm} {index : Nat} (C : gCx p s m args meth c cc nL ret nmm own) (hM : MS E μ s H locs) {N : Nat} {x0 x1 x2 v : Int} (hc : f_J7_rangeCheck_23922 N x0 x1 x2 μ = some (v, μ1)) (rx0 : R32 x0) (rx1 : R32 x1) (rx2 : R32 x2) (h1 : Cond.methodLink own index yJ7_rangeCheck_23922 ∈ bigL) (hR : 1 ≤ R.frames ∧ 22 ≤ R.locals) (hl : ls.size = nL) (hcat : RC rest 8) (hf : cells + 0 ≤ R.cells ∧ slots + 0 ≤ R.slots) (hdg : decode cc pc = .ok (.invokestatic index, 3)) (kk : True → ∀ (H1 : Heap) (locs1 : List Loc), MS E μ1 s H1 locs1 → W p l e R s m args below meth c H1 locs1 (cells + 0) (slots + 0) Q (F0 m (pc + 3) ls rest)) : W p l e R s m args below meth c H locs cells slots Q (F0 m pc ls (vi x2 :: vi x1 :: vi x0 :: rest)) := g_callS C hM (c_J7_rangeCheck_23922 l E N x0 x1 x2 μ μ1 v hc rx0 rx1 rx2) (gS h1 bw_3_172 bw_1_16 bw_3_173) hd_J7_rangeCheck_23922 hR rfl hl rfl hcat hf hdg kk
/-! J7_fill_eb02e -/
def f_J7_fill_eb02e_b10 (N : Nat) : Nat → Int → Int → Int → Int → Mm → Rs
  | 0, _, _, _, _, _ => none
  | n + 1, x0, x2, x3, x4, μ =>
    if x2 ≤ x4 then
      (some (0, μ))
    else
    ck (μ x0 (-2) = 21 ∧ (0 : Int) ≤ x4 ∧ x4 < μ x0 (-1) ∧ (-128 : Int) ≤ x3 ∧ x3 ≤ (127 : Int) ∧ (0 : Int) ≤ x0) <|
    nm (mset μ x0 x4 x3) fun μ3 =>
    nm (w32 (x4 + 1)) fun a4 =>
    f_J7_fill_eb02e_b10 N n x0 x2 x3 a4 μ3
def f_J7_fill_eb02e (N : Nat) (x0 x1 x2 x3 : Int) (μ : Mm) : Rs :=
  ck (μ x0 (-2) = 21) <|
  bd (f_J7_rangeCheck_23922 N (μ x0 (-1)) x1 x2 μ) fun a2 μ3 =>
  f_J7_fill_eb02e_b10 N N x0 x2 x3 x1 μ3
set_option maxHeartbeats 4000000 in
set_option maxRecDepth 100000 in
theorem k_J7_fill_eb02e_b10 (C : gCx p s m args meth c cJ7_fill_eb02e 5 none "fill" RJ7) (N : Nat) {r : Int} {μ' : Mm} : ∀ (n : Nat), ∀ (x0 x2 x3 x4 : Int) (μ : Mm), f_J7_fill_eb02e_b10 N n x0 x2 x3 x4 μ = some (r, μ') → R32 x2 → R32 x3 → R32 x4 → ∀ (H : Heap) (locs : List Loc) (ls : Array Slot), MS E μ s H locs → lv_has ls 5 [(0, vr E x0), (2, vi x2), (3, vi x3), (4, vi x4)] → W p l e ({ frames := 1, cells := 0, slots := 0, locals := 22 } : Room) s m args below meth c H locs 0 0 (MQ below (gQ E none True μ') args s 0 0 (gA E)) (F0 m 10 ls []) := by
  intro n
  induction n with
  | zero => intro x0 x2 x3 x4 μ h; simp [f_J7_fill_eb02e_b10] at h
  | succ n ih =>
    intro x0 x2 x3 x4 μ h rx2 rx3 rx4 H locs ls hM hl
    rw [f_J7_fill_eb02e_b10] at h
    refine m_iload (pc := 10) C dJ7_fill_eb02e_10 (lv_at hl 3 rfl) ?_
    refine m_iload_n (pc := 12) C dJ7_fill_eb02e_12 rfl (lv_at hl 1 rfl) ?_
    refine m_icmp_ge (tgt := 27) (pc := 13) C rx4 rx2 dJ7_fill_eb02e_13 (by decide) (fun c1 => ?_) (fun c1 => ?_)
    · have h := if_t h c1
      cases h
      exact m_vret (pc := 27) C hM trivial dJ7_fill_eb02e_27
    · have h := if_f h c1
      refine m_aload_n (pc := 16) C dJ7_fill_eb02e_16 rfl (lv_at hl 0 rfl) ?_
      refine m_iload (pc := 17) C dJ7_fill_eb02e_17 (lv_at hl 3 rfl) ?_
      refine m_iload_n (pc := 19) C dJ7_fill_eb02e_19 rfl (lv_at hl 2 rfl) ?_
      obtain ⟨q2, h⟩ := ck_some h
      obtain ⟨μ3, eμ3, h⟩ := nm_some h
      refine m_bast (pc := 20) C hM q2.1 q2.2.2.2.2.2 q2.2.1 q2.2.2.1 q2.2.2.2.1 q2.2.2.2.2.1 eμ3 dJ7_fill_eb02e_20 (fun H locs hM => ?_)
      obtain ⟨a4, ea4, h⟩ := nm_some h
      have ra4 : R32 a4 := by rw [ea4]; exact w32_R _
      refine m_iinc (k := 3) (pc := 21) C dJ7_fill_eb02e_21 hl rfl (by decide) ea4 (lvK1 0 rfl (Nat.ne_of_beq_eq_false rfl) (Nat.ne_of_beq_eq_false rfl) (lvK1 1 rfl (Nat.ne_of_beq_eq_false rfl) (Nat.ne_of_beq_eq_false rfl) (lvK2 2 rfl (Nat.ne_of_beq_eq_false rfl) rfl lvK0))) (fun ls hl => ?_)
      refine m_goto (tgt := 10) (pc := 24) C dJ7_fill_eb02e_24 (by decide) ?_
      exact ih _ _ _ _ _ h rx2 rx3 ra4 _ _ _ hM (lv_sub hl [1, 2, 3, 0] rfl)
set_option maxHeartbeats 4000000 in
set_option maxRecDepth 100000 in
theorem c_J7_fill_eb02e (l : Launch) (E : gE) (N : Nat) (x0 x1 x2 x3 : Int) (μ μ' : Mm) (r : Int) (h : f_J7_fill_eb02e N x0 x1 x2 x3 μ = some (r, μ')) (rx1 : R32 x1) (rx2 : R32 x2) (rx3 : R32 x3) : gMet l E yJ7_fill_eb02e cJ7_fill_eb02e 5 none 1 22 [vr E x0, vi x1, vi x2, vi x3] none True μ μ' 0 0 := by
  refine g_ofW [1, 1, 1, 1] (by first | (simp only [List.map_cons, List.map_nil, vr_cat]; done) | (simp only [List.map_cons, List.map_nil, vr_cat]; rfl)) (by decide) (by decide) (fun p e s m below meth c ls C hM hl => ?_)
  replace C : gCx p s m _ meth c cJ7_fill_eb02e 5 none "fill" RJ7 := C
  replace hl : lv_has ls 5 [(0, vr E x0), (1, vi x1), (2, vi x2), (3, vi x3)] := hl
  unfold f_J7_fill_eb02e at h
  refine m_aload_n (pc := 0) C dJ7_fill_eb02e_0 rfl (lv_at hl 0 rfl) ?_
  obtain ⟨q1, h⟩ := ck_some h
  have gq1 := Al_b hM q1
  refine m_alenB (pc := 1) C hM q1 dJ7_fill_eb02e_1 ?_
  refine m_iload_n (pc := 2) C dJ7_fill_eb02e_2 rfl (lv_at hl 1 rfl) ?_
  refine m_iload_n (pc := 3) C dJ7_fill_eb02e_3 rfl (lv_at hl 2 rfl) ?_
  obtain ⟨a2, μ3, ca2, h⟩ := bd_some h
  refine V_J7_rangeCheck_23922 (pc := 4) C hM ca2 gq1 rx1 rx2 bw_3_171 ⟨Nat.le_of_ble_eq_true rfl, Nat.le_of_ble_eq_true rfl⟩ hl.1 rc0 ⟨Nat.le_refl _, Nat.le_refl _⟩ dJ7_fill_eb02e_4 (fun _ H locs hM => ?_)
  refine m_iload_n (pc := 7) C dJ7_fill_eb02e_7 rfl (lv_at hl 1 rfl) ?_
  refine m_istore (pc := 8) C dJ7_fill_eb02e_8 hl (by decide) (lvK1 0 rfl (Nat.ne_of_beq_eq_false rfl) (Nat.ne_of_beq_eq_false rfl) (lvK1 2 rfl (Nat.ne_of_beq_eq_false rfl) (Nat.ne_of_beq_eq_false rfl) (lvK2 3 rfl (Nat.ne_of_beq_eq_false rfl) rfl lvK0))) (fun ls hl => ?_)
  exact k_J7_fill_eb02e_b10 C N N _ _ _ _ _ h rx2 rx3 rx1 _ _ _ hM (lv_sub hl [1, 2, 3, 0] rfl)
theorem hd_J7_fill_eb02e : yJ7_fill_eb02e.cls ≠ "java/lang/invoke/MethodHandle" ∧ yJ7_fill_eb02e.cls ≠ "java/lang/invoke/VarHandle" ∧ (parseMethodDescriptor yJ7_fill_eb02e.desc).map (fun d => d.parameters.length) = some 4 := by decide +kernel

theorem V_J7_fill_eb02e {p : Program} {l : Launch} {e : Env} {R : Room} {s : State} {m : MethodId} {args : Array Value} {below : List Frame} {meth : Method} {c : Code} {H : Heap} {locs : List Loc} {cells slots : Nat} {Q : State → Prop} {cc : ByteArray} {pc nL : Nat} {ls : Array Slot} {rest : List Value} {ret : Option FieldType} {nmm own : String} {E : gE} {μ μ1 : Mm} {index : Nat} (C : gCx p s m args meth c cc nL ret nmm own) (hM : MS E μ s H locs) {N : Nat} {x0 x1 x2 x3 v : Int} (hc : f_J7_fill_eb02e N x0 x1 x2 x3 μ = some (v, μ1)) (rx1 : R32 x1) (rx2 : R32 x2) (rx3 : R32 x3) (h1 : Cond.methodLink own index yJ7_fill_eb02e ∈ bigL) (hR : 2 ≤ R.frames ∧ 46 ≤ R.locals) (hl : ls.size = nL) (hcat : RC rest 8) (hf : cells + 0 ≤ R.cells ∧ slots + 0 ≤ R.slots) (hdg : decode cc pc = .ok (.invokestatic index, 3)) (kk : True → ∀ (H1 : Heap) (locs1 : List Loc), MS E μ1 s H1 locs1 → W p l e R s m args below meth c H1 locs1 (cells + 0) (slots + 0) Q (F0 m (pc + 3) ls rest)) : W p l e R s m args below meth c H locs cells slots Q (F0 m pc ls (vi x3 :: vi x2 :: vi x1 :: vr E x0 :: rest)) := g_callS C hM (c_J7_fill_eb02e l E N x0 x1 x2 x3 μ μ1 v hc rx1 rx2 rx3) (gS h1 bw_3_169 bw_1_16 bw_3_170) hd_J7_fill_eb02e hR rfl hl rfl hcat hf hdg kk
/-! J1_fillNull_b72d1 -/
def f_J1_fillNull_b72d1 (N : Nat) (x0 x1 x2 : Int) (μ : Mm) : Rs :=
  bd (f_J7_fill_eb02e N x0 x1 x2 0 μ) fun a1 μ2 =>
  some (0, μ2)
set_option maxHeartbeats 4000000 in
set_option maxRecDepth 100000 in
theorem c_J1_fillNull_b72d1 (l : Launch) (E : gE) (N : Nat) (x0 x1 x2 : Int) (μ μ' : Mm) (r : Int) (h : f_J1_fillNull_b72d1 N x0 x1 x2 μ = some (r, μ')) (rx1 : R32 x1) (rx2 : R32 x2) : gMet l E yJ1_fillNull_b72d1 cJ1_fillNull_b72d1 3 none 2 46 [vr E x0, vi x1, vi x2] none True μ μ' 0 0 := by
  refine g_ofW [1, 1, 1] (by first | (simp only [List.map_cons, List.map_nil, vr_cat]; done) | (simp only [List.map_cons, List.map_nil, vr_cat]; rfl)) (by decide) (by decide) (fun p e s m below meth c ls C hM hl => ?_)
  replace C : gCx p s m _ meth c cJ1_fillNull_b72d1 3 none "fillNull" RJ1 := C
  replace hl : lv_has ls 3 [(0, vr E x0), (1, vi x1), (2, vi x2)] := hl
  unfold f_J1_fillNull_b72d1 at h
  refine m_aload_n (pc := 0) C dJ1_fillNull_b72d1_0 rfl (lv_at hl 0 rfl) ?_
  refine m_iload_n (pc := 1) C dJ1_fillNull_b72d1_1 rfl (lv_at hl 1 rfl) ?_
  refine m_iload_n (pc := 2) C dJ1_fillNull_b72d1_2 rfl (lv_at hl 2 rfl) ?_
  refine m_iconst (pc := 3) C dJ1_fillNull_b72d1_3 ?_
  obtain ⟨a1, μ2, ca1, h⟩ := bd_some h
  refine V_J7_fill_eb02e (pc := 4) C hM ca1 rx1 rx2 rk_0 bw_3_168 ⟨Nat.le_of_ble_eq_true rfl, Nat.le_of_ble_eq_true rfl⟩ hl.1 rc0 ⟨Nat.le_refl _, Nat.le_refl _⟩ dJ1_fillNull_b72d1_4 (fun _ H locs hM => ?_)
  cases h
  exact m_vret (pc := 7) C hM trivial dJ1_fillNull_b72d1_7
theorem hd_J1_fillNull_b72d1 : yJ1_fillNull_b72d1.cls ≠ "java/lang/invoke/MethodHandle" ∧ yJ1_fillNull_b72d1.cls ≠ "java/lang/invoke/VarHandle" ∧ (parseMethodDescriptor yJ1_fillNull_b72d1.desc).map (fun d => d.parameters.length) = some 3 := by decide +kernel

theorem V_J1_fillNull_b72d1 {p : Program} {l : Launch} {e : Env} {R : Room} {s : State} {m : MethodId} {args : Array Value} {below : List Frame} {meth : Method} {c : Code} {H : Heap} {locs : List Loc} {cells slots : Nat} {Q : State → Prop} {cc : ByteArray} {pc nL : Nat} {ls : Array Slot} {rest : List Value} {ret : Option FieldType} {nmm own : String} {E : gE} {μ μ1 : Mm} {index : Nat} (C : gCx p s m args meth c cc nL ret nmm own) (hM : MS E μ s H locs) {N : Nat} {x0 x1 x2 v : Int} (hc : f_J1_fillNull_b72d1 N x0 x1 x2 μ = some (v, μ1)) (rx1 : R32 x1) (rx2 : R32 x2) (h1 : Cond.methodLink own index yJ1_fillNull_b72d1 ∈ bigL) (hR : 3 ≤ R.frames ∧ 68 ≤ R.locals) (hl : ls.size = nL) (hcat : RC rest 8) (hf : cells + 0 ≤ R.cells ∧ slots + 0 ≤ R.slots) (hdg : decode cc pc = .ok (.invokestatic index, 3)) (kk : True → ∀ (H1 : Heap) (locs1 : List Loc), MS E μ1 s H1 locs1 → W p l e R s m args below meth c H1 locs1 (cells + 0) (slots + 0) Q (F0 m (pc + 3) ls rest)) : W p l e R s m args below meth c H locs cells slots Q (F0 m pc ls (vi x2 :: vi x1 :: vr E x0 :: rest)) := g_callS C hM (c_J1_fillNull_b72d1 l E N x0 x1 x2 μ μ1 v hc rx1 rx2) (gS h1 bw_3_166 bw_1_17 bw_3_167) hd_J1_fillNull_b72d1 hR rfl hl rfl hcat hf hdg kk
/-! J5_setLength_d00df -/
def f_J5_setLength_d00df (N : Nat) (x0 x1 : Int) (μ : Mm) : Rs :=
  if 0 ≤ x1 then
    (ck (μ x0 (-2) = 1) <|
     ck ((1 : Int) ≤ 1 ∧ (200 : Int) ≤ 200) <|
     bd (f_J5_ensureCapacityInternal_d00df N x0 x1 μ) fun a4 μ5 =>
     ck (μ5 x0 (-2) = 1) <|
     if x1 ≤ (μ5 x0 3) then
       (ck (μ5 x0 (-2) = 1) <|
        if (μ5 x0 3) ≤ x1 then
          (ck (μ5 x0 (-2) = 1) <|
           nm (mset μ5 x0 3 x1) fun μ11 =>
           some (0, μ11))
        else
        ck (μ5 x0 (-2) = 1 ∧ (0 : Int) ≤ 1 ∧ 1 ≤ (1 : Int)) <|
        nm (mset μ5 x0 2 1) fun μ13 =>
        ck (μ13 x0 (-2) = 1) <|
        nm (mset μ13 x0 3 x1) fun μ15 =>
        some (0, μ15))
     else
     ck (μ5 x0 (-2) = 1) <|
     bd (f_J5_isLatin1_aae02 N x0 μ5) fun a17 μ18 =>
     if a17 = 0 then
       (ck (μ18 x0 (-2) = 1) <|
        ck (μ18 x0 (-2) = 1) <|
        none)
     else
     ck (μ18 x0 (-2) = 1) <|
     ck (μ18 x0 (-2) = 1) <|
     bd (f_J1_fillNull_b72d1 N (μ18 x0 0) (μ18 x0 3) x1 μ18) fun a24 μ25 =>
     ck (μ25 x0 (-2) = 1) <|
     nm (mset μ25 x0 3 x1) fun μ27 =>
     some (0, μ27))
  else
  none
set_option maxHeartbeats 4000000 in
set_option maxRecDepth 100000 in
theorem c_J5_setLength_d00df (l : Launch) (E : gE) (N : Nat) (x0 x1 : Int) (μ μ' : Mm) (r : Int) (h : f_J5_setLength_d00df N x0 x1 μ = some (r, μ')) (rx1 : R32 x1) : gMet l E yJ5_setLength_d00df cJ5_setLength_d00df 2 none 4 91 [vr E x0, vi x1] none True μ μ' 1 200 := by
  refine g_ofW [1, 1] (by first | (simp only [List.map_cons, List.map_nil, vr_cat]; done) | (simp only [List.map_cons, List.map_nil, vr_cat]; rfl)) (by decide) (by decide) (fun p e s m below meth c ls C hM hl => ?_)
  replace C : gCx p s m _ meth c cJ5_setLength_d00df 2 none "setLength" RJ5 := C
  replace hl : lv_has ls 2 [(0, vr E x0), (1, vi x1)] := hl
  unfold f_J5_setLength_d00df at h
  have hb : ((0 : Nat) : Int) + 1 ≤ 1 ∧ (0 : Int) ≤ 1 ∧ ((0 : Nat) : Int) + 200 ≤ 200 ∧ (0 : Int) ≤ 200 := by decide
  refine m_iload_n (pc := 0) C dJ5_setLength_d00df_0 rfl (lv_at hl 1 rfl) ?_
  refine m_if_ge (tgt := 13) (pc := 1) C rx1 dJ5_setLength_d00df_1 (by decide) (fun c1 => ?_) (fun c1 => ?_)
  · have h := if_t h c1
    refine m_aload_n (pc := 13) C dJ5_setLength_d00df_13 rfl (lv_at hl 0 rfl) ?_
    refine m_iload_n (pc := 14) C dJ5_setLength_d00df_14 rfl (lv_at hl 1 rfl) ?_
    obtain ⟨q2, h⟩ := ck_some h
    obtain ⟨q3, h⟩ := ck_some h
    obtain ⟨a4, μ5, ca4, h⟩ := bd_some h
    refine VU_J5_ensureCapacityInternal_d00df (pc := 15) C hM ca4 rx1 q2 bw_3_127 ⟨Nat.le_of_ble_eq_true rfl, Nat.le_of_ble_eq_true rfl⟩ hl.1 rc0 ⟨by show _ + 1 ≤ 1; omega, by show _ + 200 ≤ 200; omega⟩ dJ5_setLength_d00df_15 (fun _ H locs hM => ?_)
    replace hb : ((0 + 1 : Nat) : Int) + (1 - 1) ≤ 1 ∧ (0 : Int) ≤ 1 - 1 ∧ ((0 + 200 : Nat) : Int) + (200 - 200) ≤ 200 ∧ (0 : Int) ≤ 200 - 200 := by omega
    refine m_aload_n (pc := 18) C dJ5_setLength_d00df_18 rfl (lv_at hl 0 rfl) ?_
    obtain ⟨q6, h⟩ := ck_some h
    have gq6 := Gr_J4_count hM q6
    refine G_J4_count (pc := 19) C hM bw_2_52 q6 dJ5_setLength_d00df_19 ?_
    refine m_iload_n (pc := 22) C dJ5_setLength_d00df_22 rfl (lv_at hl 1 rfl) ?_
    refine m_icmp_ge (tgt := 63) (pc := 23) C gq6 rx1 dJ5_setLength_d00df_23 (by decide) (fun c7 => ?_) (fun c7 => ?_)
    · have h := if_t h c7
      refine m_aload_n (pc := 63) C dJ5_setLength_d00df_63 rfl (lv_at hl 0 rfl) ?_
      obtain ⟨q8, h⟩ := ck_some h
      have gq8 := Gr_J4_count hM q8
      refine G_J4_count (pc := 64) C hM bw_2_52 q8 dJ5_setLength_d00df_64 ?_
      refine m_iload_n (pc := 67) C dJ5_setLength_d00df_67 rfl (lv_at hl 1 rfl) ?_
      refine m_icmp_le (tgt := 76) (pc := 68) C gq8 rx1 dJ5_setLength_d00df_68 (by decide) (fun c9 => ?_) (fun c9 => ?_)
      · have h := if_t h c9
        refine m_aload_n (pc := 76) C dJ5_setLength_d00df_76 rfl (lv_at hl 0 rfl) ?_
        refine m_iload_n (pc := 77) C dJ5_setLength_d00df_77 rfl (lv_at hl 1 rfl) ?_
        obtain ⟨q10, h⟩ := ck_some h
        obtain ⟨μ11, eμ11, h⟩ := nm_some h
        refine P_J4_count (pc := 78) C hM bw_2_52 q10 rx1 eμ11 dJ5_setLength_d00df_78 (fun H locs hM => ?_)
        cases h
        refine W.widen (k := 1) (n := 200) (by omega) (by omega) ?_
        exact m_vret (pc := 81) C hM trivial dJ5_setLength_d00df_81
      · have h := if_f h c9
        refine m_aload_n (pc := 71) C dJ5_setLength_d00df_71 rfl (lv_at hl 0 rfl) ?_
        refine m_iconst (pc := 72) C dJ5_setLength_d00df_72 ?_
        obtain ⟨q12, h⟩ := ck_some h
        obtain ⟨μ13, eμ13, h⟩ := nm_some h
        refine P_J4_maybeLatin1 (pc := 73) C hM bw_2_51 q12.1 q12.2 eμ13 dJ5_setLength_d00df_73 (fun H locs hM => ?_)
        refine m_aload_n (pc := 76) C dJ5_setLength_d00df_76 rfl (lv_at hl 0 rfl) ?_
        refine m_iload_n (pc := 77) C dJ5_setLength_d00df_77 rfl (lv_at hl 1 rfl) ?_
        obtain ⟨q14, h⟩ := ck_some h
        obtain ⟨μ15, eμ15, h⟩ := nm_some h
        refine P_J4_count (pc := 78) C hM bw_2_52 q14 rx1 eμ15 dJ5_setLength_d00df_78 (fun H locs hM => ?_)
        cases h
        refine W.widen (k := 1) (n := 200) (by omega) (by omega) ?_
        exact m_vret (pc := 81) C hM trivial dJ5_setLength_d00df_81
    · have h := if_f h c7
      refine m_aload_n (pc := 26) C dJ5_setLength_d00df_26 rfl (lv_at hl 0 rfl) ?_
      obtain ⟨q16, h⟩ := ck_some h
      obtain ⟨a17, μ18, ca17, h⟩ := bd_some h
      refine VU_J5_isLatin1_aae02 (pc := 27) C hM ca17 q16 bw_3_160 ⟨Nat.le_of_ble_eq_true rfl, Nat.le_of_ble_eq_true rfl⟩ hl.1 rc0 ⟨by show _ + 0 ≤ 1; omega, by show _ + 0 ≤ 200; omega⟩ dJ5_setLength_d00df_27 (fun ra17 H locs hM => ?_)
      refine m_if_eq (tgt := 48) (pc := 30) C ra17 dJ5_setLength_d00df_30 (by decide) (fun c19 => ?_) (fun c19 => ?_)
      · have h := if_t h c19
        refine m_aload_n (pc := 48) C dJ5_setLength_d00df_48 rfl (lv_at hl 0 rfl) ?_
        obtain ⟨q20, h⟩ := ck_some h
        refine G_J4_value (pc := 49) C hM bw_2_49 q20 dJ5_setLength_d00df_49 ?_
        refine m_aload_n (pc := 52) C dJ5_setLength_d00df_52 rfl (lv_at hl 0 rfl) ?_
        obtain ⟨q21, h⟩ := ck_some h
        have gq21 := Gr_J4_count hM q21
        refine G_J4_count (pc := 53) C hM bw_2_52 q21 dJ5_setLength_d00df_53 ?_
        refine m_iload_n (pc := 56) C dJ5_setLength_d00df_56 rfl (lv_at hl 1 rfl) ?_
        cases h
      · have h := if_f h c19
        refine m_aload_n (pc := 33) C dJ5_setLength_d00df_33 rfl (lv_at hl 0 rfl) ?_
        obtain ⟨q22, h⟩ := ck_some h
        refine G_J4_value (pc := 34) C hM bw_2_49 q22 dJ5_setLength_d00df_34 ?_
        refine m_aload_n (pc := 37) C dJ5_setLength_d00df_37 rfl (lv_at hl 0 rfl) ?_
        obtain ⟨q23, h⟩ := ck_some h
        have gq23 := Gr_J4_count hM q23
        refine G_J4_count (pc := 38) C hM bw_2_52 q23 dJ5_setLength_d00df_38 ?_
        refine m_iload_n (pc := 41) C dJ5_setLength_d00df_41 rfl (lv_at hl 1 rfl) ?_
        obtain ⟨a24, μ25, ca24, h⟩ := bd_some h
        refine V_J1_fillNull_b72d1 (pc := 42) C hM ca24 gq23 rx1 bw_3_165 ⟨Nat.le_of_ble_eq_true rfl, Nat.le_of_ble_eq_true rfl⟩ hl.1 rc0 ⟨by show _ + 0 ≤ 1; omega, by show _ + 0 ≤ 200; omega⟩ dJ5_setLength_d00df_42 (fun _ H locs hM => ?_)
        refine m_goto (tgt := 76) (pc := 45) C dJ5_setLength_d00df_45 (by decide) ?_
        refine m_aload_n (pc := 76) C dJ5_setLength_d00df_76 rfl (lv_at hl 0 rfl) ?_
        refine m_iload_n (pc := 77) C dJ5_setLength_d00df_77 rfl (lv_at hl 1 rfl) ?_
        obtain ⟨q26, h⟩ := ck_some h
        obtain ⟨μ27, eμ27, h⟩ := nm_some h
        refine P_J4_count (pc := 78) C hM bw_2_52 q26 rx1 eμ27 dJ5_setLength_d00df_78 (fun H locs hM => ?_)
        cases h
        refine W.widen (k := 1) (n := 200) (by omega) (by omega) ?_
        exact m_vret (pc := 81) C hM trivial dJ5_setLength_d00df_81
  · have h := if_f h c1
    cases h
theorem hd_J5_setLength_d00df : yJ5_setLength_d00df.cls ≠ "java/lang/invoke/MethodHandle" ∧ yJ5_setLength_d00df.cls ≠ "java/lang/invoke/VarHandle" ∧ (parseMethodDescriptor yJ5_setLength_d00df.desc).map (fun d => d.parameters.length) = some 1 := by decide +kernel

theorem VS_J5_setLength_d00df {p : Program} {l : Launch} {e : Env} {R : Room} {s : State} {m : MethodId} {args : Array Value} {below : List Frame} {meth : Method} {c : Code} {H : Heap} {locs : List Loc} {cells slots : Nat} {Q : State → Prop} {cc : ByteArray} {pc nL : Nat} {ls : Array Slot} {rest : List Value} {ret : Option FieldType} {nmm : String} {E : gE} {μ μ1 : Mm} {index : Nat} (C : gCx p s m args meth c cc nL ret nmm RJ4) (hM : MS E μ s H locs) {N : Nat} {x0 x1 v : Int} (hc : f_J5_setLength_d00df N x0 x1 μ = some (v, μ1)) (rx1 : R32 x1) (hck : μ x0 (-2) = 1) (h1 : Cond.methodLink RJ4 index yJ5_setLength_d00df ∈ bigL) (hR : 5 ≤ R.frames ∧ 112 ≤ R.locals) (hl : ls.size = nL) (hcat : RC rest 8) (hf : cells + 1 ≤ R.cells ∧ slots + 200 ≤ R.slots) (hdg : decode cc pc = .ok (.invokespecial index, 3)) (kk : True → ∀ (H1 : Heap) (locs1 : List Loc), MS E μ1 s H1 locs1 → W p l e R s m args below meth c H1 locs1 (cells + 1) (slots + 200) Q (F0 m (pc + 3) ls rest)) : W p l e R s m args below meth c H locs cells slots Q (F0 m pc ls (vi x1 :: vr E x0 :: rest)) := g_callSU C hM (c_J5_setLength_d00df l E N x0 x1 μ μ1 v hc rx1) hck h1 bw_5_30 bw_2_61 bw_3_125 bw_1_9 bw_3_126 ⟨by decide +kernel, hd_J5_setLength_d00df.2.2⟩ hR rfl hl rfl hcat hf hdg kk
/-! J4_setLength_d00df -/
def f_J4_setLength_d00df (N : Nat) (x0 x1 : Int) (μ : Mm) : Rs :=
  ck (μ x0 (-2) = 1) <|
  ck ((1 : Int) ≤ 1 ∧ (200 : Int) ≤ 200) <|
  bd (f_J5_setLength_d00df N x0 x1 μ) fun a3 μ4 =>
  some (0, μ4)
set_option maxHeartbeats 4000000 in
set_option maxRecDepth 100000 in
theorem c_J4_setLength_d00df (l : Launch) (E : gE) (N : Nat) (x0 x1 : Int) (μ μ' : Mm) (r : Int) (h : f_J4_setLength_d00df N x0 x1 μ = some (r, μ')) (rx1 : R32 x1) : gMet l E yJ4_setLength_d00df cJ4_setLength_d00df 2 none 5 112 [vr E x0, vi x1] none True μ μ' 1 200 := by
  refine g_ofW [1, 1] (by first | (simp only [List.map_cons, List.map_nil, vr_cat]; done) | (simp only [List.map_cons, List.map_nil, vr_cat]; rfl)) (by decide) (by decide) (fun p e s m below meth c ls C hM hl => ?_)
  replace C : gCx p s m _ meth c cJ4_setLength_d00df 2 none "setLength" RJ4 := C
  replace hl : lv_has ls 2 [(0, vr E x0), (1, vi x1)] := hl
  unfold f_J4_setLength_d00df at h
  have hb : ((0 : Nat) : Int) + 1 ≤ 1 ∧ (0 : Int) ≤ 1 ∧ ((0 : Nat) : Int) + 200 ≤ 200 ∧ (0 : Int) ≤ 200 := by decide
  refine m_aload_n (pc := 0) C dJ4_setLength_d00df_0 rfl (lv_at hl 0 rfl) ?_
  refine m_iload_n (pc := 1) C dJ4_setLength_d00df_1 rfl (lv_at hl 1 rfl) ?_
  obtain ⟨q1, h⟩ := ck_some h
  obtain ⟨q2, h⟩ := ck_some h
  obtain ⟨a3, μ4, ca3, h⟩ := bd_some h
  refine VS_J5_setLength_d00df (pc := 2) C hM ca3 rx1 q1 bw_3_124 ⟨Nat.le_of_ble_eq_true rfl, Nat.le_of_ble_eq_true rfl⟩ hl.1 rc0 ⟨by show _ + 1 ≤ 1; omega, by show _ + 200 ≤ 200; omega⟩ dJ4_setLength_d00df_2 (fun _ H locs hM => ?_)
  replace hb : ((0 + 1 : Nat) : Int) + (1 - 1) ≤ 1 ∧ (0 : Int) ≤ 1 - 1 ∧ ((0 + 200 : Nat) : Int) + (200 - 200) ≤ 200 ∧ (0 : Int) ≤ 200 - 200 := by omega
  cases h
  refine W.widen (k := 1) (n := 200) (by omega) (by omega) ?_
  exact m_vret (pc := 5) C hM trivial dJ4_setLength_d00df_5
theorem hd_J4_setLength_d00df : yJ4_setLength_d00df.cls ≠ "java/lang/invoke/MethodHandle" ∧ yJ4_setLength_d00df.cls ≠ "java/lang/invoke/VarHandle" ∧ (parseMethodDescriptor yJ4_setLength_d00df.desc).map (fun d => d.parameters.length) = some 1 := by decide +kernel

theorem V_J4_setLength_d00df {p : Program} {l : Launch} {e : Env} {R : Room} {s : State} {m : MethodId} {args : Array Value} {below : List Frame} {meth : Method} {c : Code} {H : Heap} {locs : List Loc} {cells slots : Nat} {Q : State → Prop} {cc : ByteArray} {pc nL : Nat} {ls : Array Slot} {rest : List Value} {ret : Option FieldType} {nmm own : String} {E : gE} {μ μ1 : Mm} {index : Nat} (C : gCx p s m args meth c cc nL ret nmm own) (hM : MS E μ s H locs) {N : Nat} {x0 x1 v : Int} (hc : f_J4_setLength_d00df N x0 x1 μ = some (v, μ1)) (rx1 : R32 x1) (hck : μ x0 (-2) = 1) (h1 : Cond.methodLink own index yJ4_setLength_d00df ∈ bigL) (hR : 6 ≤ R.frames ∧ 133 ≤ R.locals) (hl : ls.size = nL) (hcat : RC rest 8) (hf : cells + 1 ≤ R.cells ∧ slots + 200 ≤ R.slots) (hdg : decode cc pc = .ok (.invokevirtual index, 3)) (kk : True → ∀ (H1 : Heap) (locs1 : List Loc), MS E μ1 s H1 locs1 → W p l e R s m args below meth c H1 locs1 (cells + 1) (slots + 200) Q (F0 m (pc + 3) ls rest)) : W p l e R s m args below meth c H locs cells slots Q (F0 m pc ls (vi x1 :: vr E x0 :: rest)) := g_callV C KF_J4 hM (c_J4_setLength_d00df l E N x0 x1 μ μ1 v hc rx1) hck (gV h1 bw_3_121 bw_3_122 bw_1_10 bw_3_123) ⟨rfl, hd_J4_setLength_d00df⟩ hR rfl hl rfl hcat hf hdg kk
/-! J1_canEncode_fc78d -/
def f_J1_canEncode_fc78d (N : Nat) (x0 : Int) (μ : Mm) : Rs :=
  if 255 < x0 then
    (some (0, μ))
  else
  some (1, μ)
set_option maxHeartbeats 4000000 in
set_option maxRecDepth 100000 in
theorem c_J1_canEncode_fc78d (l : Launch) (E : gE) (N : Nat) (x0 : Int) (μ μ' : Mm) (r : Int) (h : f_J1_canEncode_fc78d N x0 μ = some (r, μ')) (rx0 : R32 x0) : gMet l E yJ1_canEncode_fc78d cJ1_canEncode_fc78d 1 (some .boolean) 0 0 [vi x0] (some (vi r)) (R32 r) μ μ' 0 0 := by
  refine g_ofW [1] rfl (by decide) (by decide) (fun p e s m below meth c ls C hM hl => ?_)
  replace C : gCx p s m _ meth c cJ1_canEncode_fc78d 1 (some .boolean) "canEncode" RJ1 := C
  replace hl : lv_has ls 1 [(0, vi x0)] := hl
  unfold f_J1_canEncode_fc78d at h
  refine m_iload_n (pc := 0) C dJ1_canEncode_fc78d_0 rfl (lv_at hl 0 rfl) ?_
  refine m_sipush (pc := 1) C dJ1_canEncode_fc78d_1 rfl ?_
  refine m_icmp_gt (tgt := 11) (pc := 4) C rx0 rk_255 dJ1_canEncode_fc78d_4 (by decide) (fun c1 => ?_) (fun c1 => ?_)
  · have h := if_t h c1
    refine m_iconst (pc := 11) C dJ1_canEncode_fc78d_11 ?_
    cases h
    exact m_zret (pc := 12) C rfl hM rk_0 dJ1_canEncode_fc78d_12
  · have h := if_f h c1
    refine m_iconst (pc := 7) C dJ1_canEncode_fc78d_7 ?_
    refine m_goto (tgt := 12) (pc := 8) C dJ1_canEncode_fc78d_8 (by decide) ?_
    cases h
    exact m_zret (pc := 12) C rfl hM rk_1 dJ1_canEncode_fc78d_12
theorem hd_J1_canEncode_fc78d : yJ1_canEncode_fc78d.cls ≠ "java/lang/invoke/MethodHandle" ∧ yJ1_canEncode_fc78d.cls ≠ "java/lang/invoke/VarHandle" ∧ (parseMethodDescriptor yJ1_canEncode_fc78d.desc).map (fun d => d.parameters.length) = some 1 := by decide +kernel

theorem V_J1_canEncode_fc78d {p : Program} {l : Launch} {e : Env} {R : Room} {s : State} {m : MethodId} {args : Array Value} {below : List Frame} {meth : Method} {c : Code} {H : Heap} {locs : List Loc} {cells slots : Nat} {Q : State → Prop} {cc : ByteArray} {pc nL : Nat} {ls : Array Slot} {rest : List Value} {ret : Option FieldType} {nmm own : String} {E : gE} {μ μ1 : Mm} {index : Nat} (C : gCx p s m args meth c cc nL ret nmm own) (hM : MS E μ s H locs) {N : Nat} {x0 v : Int} (hc : f_J1_canEncode_fc78d N x0 μ = some (v, μ1)) (rx0 : R32 x0) (h1 : Cond.methodLink own index yJ1_canEncode_fc78d ∈ bigL) (hR : 1 ≤ R.frames ∧ 20 ≤ R.locals) (hl : ls.size = nL) (hcat : RC rest 8) (hf : cells + 0 ≤ R.cells ∧ slots + 0 ≤ R.slots) (hdg : decode cc pc = .ok (.invokestatic index, 3)) (kk : (R32 v) → ∀ (H1 : Heap) (locs1 : List Loc), MS E μ1 s H1 locs1 → W p l e R s m args below meth c H1 locs1 (cells + 0) (slots + 0) Q (F0 m (pc + 3) ls (vi v :: rest))) : W p l e R s m args below meth c H locs cells slots Q (F0 m pc ls (vi x0 :: rest)) := g_callS C hM (c_J1_canEncode_fc78d l E N x0 μ μ1 v hc rx0) (gS h1 bw_3_186 bw_1_17 bw_3_187) hd_J1_canEncode_fc78d hR rfl hl rfl hcat hf hdg kk
/-! J5_append_3fe6f -/
def f_J5_append_3fe6f_b56 (N : Nat) (x0 x1 bc bs : Int) (μ : Mm) : Rs :=
  ck (μ x0 (-2) = 1) <|
  ck (μ x0 (-2) = 1) <|
  nm (w32 ((μ x0 3) + 1)) fun a3 =>
  ck (μ x0 (-2) = 1) <|
  nm (mset μ x0 3 a3) fun μ5 =>
  none
def f_J5_append_3fe6f_b45 (N : Nat) (x0 x1 bc bs : Int) (μ : Mm) : Rs :=
  ck (μ x0 (-2) = 1) <|
  bd (f_J5_isLatin1_aae02 N x0 μ) fun a2 μ3 =>
  if a2 = 0 then
    (f_J5_append_3fe6f_b56 N x0 x1 bc bs μ3)
  else
  none
def f_J5_append_3fe6f (N : Nat) (x0 x1 : Int) (μ : Mm) : Rs :=
  ck (μ x0 (-2) = 1) <|
  nm (w32 ((μ x0 3) + 1)) fun a2 =>
  ck (μ x0 (-2) = 1) <|
  ck ((1 : Int) ≤ 1 ∧ (200 : Int) ≤ 200) <|
  bd (f_J5_ensureCapacityInternal_d00df N x0 a2 μ) fun a5 μ6 =>
  ck (μ6 x0 (-2) = 1) <|
  bd (f_J5_isLatin1_aae02 N x0 μ6) fun a8 μ9 =>
  if a8 = 0 then
    (f_J5_append_3fe6f_b45 N x0 x1 (1 - 1) (200 - 200) μ9)
  else
  bd (f_J1_canEncode_fc78d N x1 μ9) fun a11 μ12 =>
  if a11 = 0 then
    (f_J5_append_3fe6f_b45 N x0 x1 (1 - 1) (200 - 200) μ12)
  else
  ck (μ12 x0 (-2) = 1) <|
  ck (μ12 x0 (-2) = 1) <|
  nm (w32 ((μ12 x0 3) + 1)) fun a16 =>
  ck (μ12 x0 (-2) = 1) <|
  nm (mset μ12 x0 3 a16) fun μ18 =>
  nm (o_i2b x1) fun a19 =>
  ck (μ18 (μ12 x0 0) (-2) = 21 ∧ (0 : Int) ≤ (μ12 x0 3) ∧ (μ12 x0 3) < μ18 (μ12 x0 0) (-1) ∧ (-128 : Int) ≤ a19 ∧ a19 ≤ (127 : Int) ∧ (0 : Int) ≤ (μ12 x0 0)) <|
  nm (mset μ18 (μ12 x0 0) (μ12 x0 3) a19) fun μ21 =>
  some (x0, μ21)
set_option maxHeartbeats 4000000 in
set_option maxRecDepth 100000 in
theorem k_J5_append_3fe6f_b56 (C : gCx p s m args meth c cJ5_append_3fe6f 2 (some (.object "java/lang/AbstractStringBuilder")) "append" RJ5) (N : Nat) {r : Int} {μ' : Mm} : ∀ (x0 x1 bc bs : Int) (μ : Mm), f_J5_append_3fe6f_b56 N x0 x1 bc bs μ = some (r, μ') → R32 x1 → ∀ (H : Heap) (locs : List Loc) (ls : Array Slot) (cells slots : Nat), (cells : Int) + bc ≤ 1 ∧ 0 ≤ bc ∧ (slots : Int) + bs ≤ 200 ∧ 0 ≤ bs → MS E μ s H locs → lv_has ls 2 [(0, vr E x0), (1, vi x1)] → W p l e ({ frames := 4, cells := 1, slots := 200, locals := 91 } : Room) s m args below meth c H locs cells slots (MQ below (gQ E (some (vr E r)) True μ') args s 1 200 (gA E)) (F0 m 56 ls []) := by
  intro x0 x1 bc bs μ h rx1 H locs ls cells slots hb hM hl
  unfold f_J5_append_3fe6f_b56 at h
  refine m_aload_n (pc := 56) C dJ5_append_3fe6f_56 rfl (lv_at hl 0 rfl) ?_
  obtain ⟨q1, h⟩ := ck_some h
  refine G_J4_value (pc := 57) C hM bw_2_49 q1 dJ5_append_3fe6f_57 ?_
  refine m_aload_n (pc := 60) C dJ5_append_3fe6f_60 rfl (lv_at hl 0 rfl) ?_
  refine m_dup (pc := 61) C (vr_cat _ _) dJ5_append_3fe6f_61 ?_
  obtain ⟨q2, h⟩ := ck_some h
  have gq2 := Gr_J4_count hM q2
  refine G_J4_count (pc := 62) C hM bw_2_52 q2 dJ5_append_3fe6f_62 ?_
  refine m_dup_x1 (pc := 65) C rfl (vr_cat _ _) dJ5_append_3fe6f_65 ?_
  refine m_iconst (pc := 66) C dJ5_append_3fe6f_66 ?_
  obtain ⟨a3, ea3, h⟩ := nm_some h
  have ra3 : R32 a3 := by rw [ea3]; exact w32_R _
  refine m_iadd (pc := 67) C dJ5_append_3fe6f_67 ea3 ?_
  obtain ⟨q4, h⟩ := ck_some h
  obtain ⟨μ5, eμ5, h⟩ := nm_some h
  refine P_J4_count (pc := 68) C hM bw_2_52 q4 ra3 eμ5 dJ5_append_3fe6f_68 (fun H locs hM => ?_)
  refine m_iload_n (pc := 71) C dJ5_append_3fe6f_71 rfl (lv_at hl 1 rfl) ?_
  cases h
set_option maxHeartbeats 4000000 in
set_option maxRecDepth 100000 in
theorem k_J5_append_3fe6f_b45 (C : gCx p s m args meth c cJ5_append_3fe6f 2 (some (.object "java/lang/AbstractStringBuilder")) "append" RJ5) (N : Nat) {r : Int} {μ' : Mm} : ∀ (x0 x1 bc bs : Int) (μ : Mm), f_J5_append_3fe6f_b45 N x0 x1 bc bs μ = some (r, μ') → R32 x1 → ∀ (H : Heap) (locs : List Loc) (ls : Array Slot) (cells slots : Nat), (cells : Int) + bc ≤ 1 ∧ 0 ≤ bc ∧ (slots : Int) + bs ≤ 200 ∧ 0 ≤ bs → MS E μ s H locs → lv_has ls 2 [(0, vr E x0), (1, vi x1)] → W p l e ({ frames := 4, cells := 1, slots := 200, locals := 91 } : Room) s m args below meth c H locs cells slots (MQ below (gQ E (some (vr E r)) True μ') args s 1 200 (gA E)) (F0 m 45 ls []) := by
  intro x0 x1 bc bs μ h rx1 H locs ls cells slots hb hM hl
  unfold f_J5_append_3fe6f_b45 at h
  refine m_aload_n (pc := 45) C dJ5_append_3fe6f_45 rfl (lv_at hl 0 rfl) ?_
  obtain ⟨q1, h⟩ := ck_some h
  obtain ⟨a2, μ3, ca2, h⟩ := bd_some h
  refine VU_J5_isLatin1_aae02 (pc := 46) C hM ca2 q1 bw_3_160 ⟨Nat.le_of_ble_eq_true rfl, Nat.le_of_ble_eq_true rfl⟩ hl.1 rc0 ⟨by show _ + 0 ≤ 1; omega, by show _ + 0 ≤ 200; omega⟩ dJ5_append_3fe6f_46 (fun ra2 H locs hM => ?_)
  refine m_if_eq (tgt := 56) (pc := 49) C ra2 dJ5_append_3fe6f_49 (by decide) (fun c4 => ?_) (fun c4 => ?_)
  · have h := if_t h c4
    exact k_J5_append_3fe6f_b56 C N _ _ _ _ _ h rx1 _ _ _ _ _ hb hM (lv_sub hl [0, 1] rfl)
  · have h := if_f h c4
    refine m_aload_n (pc := 52) C dJ5_append_3fe6f_52 rfl (lv_at hl 0 rfl) ?_
    cases h
set_option maxHeartbeats 4000000 in
set_option maxRecDepth 100000 in
theorem c_J5_append_3fe6f (l : Launch) (E : gE) (N : Nat) (x0 x1 : Int) (μ μ' : Mm) (r : Int) (h : f_J5_append_3fe6f N x0 x1 μ = some (r, μ')) (rx1 : R32 x1) : gMet l E yJ5_append_3fe6f cJ5_append_3fe6f 2 (some (.object "java/lang/AbstractStringBuilder")) 4 91 [vr E x0, vi x1] (some (vr E r)) True μ μ' 1 200 := by
  refine g_ofW [1, 1] (by first | (simp only [List.map_cons, List.map_nil, vr_cat]; done) | (simp only [List.map_cons, List.map_nil, vr_cat]; rfl)) (by decide) (by decide) (fun p e s m below meth c ls C hM hl => ?_)
  replace C : gCx p s m _ meth c cJ5_append_3fe6f 2 (some (.object "java/lang/AbstractStringBuilder")) "append" RJ5 := C
  replace hl : lv_has ls 2 [(0, vr E x0), (1, vi x1)] := hl
  unfold f_J5_append_3fe6f at h
  have hb : ((0 : Nat) : Int) + 1 ≤ 1 ∧ (0 : Int) ≤ 1 ∧ ((0 : Nat) : Int) + 200 ≤ 200 ∧ (0 : Int) ≤ 200 := by decide
  refine m_aload_n (pc := 0) C dJ5_append_3fe6f_0 rfl (lv_at hl 0 rfl) ?_
  refine m_aload_n (pc := 1) C dJ5_append_3fe6f_1 rfl (lv_at hl 0 rfl) ?_
  obtain ⟨q1, h⟩ := ck_some h
  have gq1 := Gr_J4_count hM q1
  refine G_J4_count (pc := 2) C hM bw_2_52 q1 dJ5_append_3fe6f_2 ?_
  refine m_iconst (pc := 5) C dJ5_append_3fe6f_5 ?_
  obtain ⟨a2, ea2, h⟩ := nm_some h
  have ra2 : R32 a2 := by rw [ea2]; exact w32_R _
  refine m_iadd (pc := 6) C dJ5_append_3fe6f_6 ea2 ?_
  obtain ⟨q3, h⟩ := ck_some h
  obtain ⟨q4, h⟩ := ck_some h
  obtain ⟨a5, μ6, ca5, h⟩ := bd_some h
  refine VU_J5_ensureCapacityInternal_d00df (pc := 7) C hM ca5 ra2 q3 bw_3_127 ⟨Nat.le_of_ble_eq_true rfl, Nat.le_of_ble_eq_true rfl⟩ hl.1 rc0 ⟨by show _ + 1 ≤ 1; omega, by show _ + 200 ≤ 200; omega⟩ dJ5_append_3fe6f_7 (fun _ H locs hM => ?_)
  replace hb : ((0 + 1 : Nat) : Int) + (1 - 1) ≤ 1 ∧ (0 : Int) ≤ 1 - 1 ∧ ((0 + 200 : Nat) : Int) + (200 - 200) ≤ 200 ∧ (0 : Int) ≤ 200 - 200 := by omega
  refine m_aload_n (pc := 10) C dJ5_append_3fe6f_10 rfl (lv_at hl 0 rfl) ?_
  obtain ⟨q7, h⟩ := ck_some h
  obtain ⟨a8, μ9, ca8, h⟩ := bd_some h
  refine VU_J5_isLatin1_aae02 (pc := 11) C hM ca8 q7 bw_3_160 ⟨Nat.le_of_ble_eq_true rfl, Nat.le_of_ble_eq_true rfl⟩ hl.1 rc0 ⟨by show _ + 0 ≤ 1; omega, by show _ + 0 ≤ 200; omega⟩ dJ5_append_3fe6f_11 (fun ra8 H locs hM => ?_)
  refine m_if_eq (tgt := 45) (pc := 14) C ra8 dJ5_append_3fe6f_14 (by decide) (fun c10 => ?_) (fun c10 => ?_)
  · have h := if_t h c10
    exact k_J5_append_3fe6f_b45 C N _ _ _ _ _ h rx1 _ _ _ _ _ hb hM (lv_sub hl [0, 1] rfl)
  · have h := if_f h c10
    refine m_iload_n (pc := 17) C dJ5_append_3fe6f_17 rfl (lv_at hl 1 rfl) ?_
    obtain ⟨a11, μ12, ca11, h⟩ := bd_some h
    refine V_J1_canEncode_fc78d (pc := 18) C hM ca11 rx1 bw_3_185 ⟨Nat.le_of_ble_eq_true rfl, Nat.le_of_ble_eq_true rfl⟩ hl.1 rc0 ⟨by show _ + 0 ≤ 1; omega, by show _ + 0 ≤ 200; omega⟩ dJ5_append_3fe6f_18 (fun ra11 H locs hM => ?_)
    refine m_if_eq (tgt := 45) (pc := 21) C ra11 dJ5_append_3fe6f_21 (by decide) (fun c13 => ?_) (fun c13 => ?_)
    · have h := if_t h c13
      exact k_J5_append_3fe6f_b45 C N _ _ _ _ _ h rx1 _ _ _ _ _ hb hM (lv_sub hl [0, 1] rfl)
    · have h := if_f h c13
      refine m_aload_n (pc := 24) C dJ5_append_3fe6f_24 rfl (lv_at hl 0 rfl) ?_
      obtain ⟨q14, h⟩ := ck_some h
      refine G_J4_value (pc := 25) C hM bw_2_49 q14 dJ5_append_3fe6f_25 ?_
      refine m_aload_n (pc := 28) C dJ5_append_3fe6f_28 rfl (lv_at hl 0 rfl) ?_
      refine m_dup (pc := 29) C (vr_cat _ _) dJ5_append_3fe6f_29 ?_
      obtain ⟨q15, h⟩ := ck_some h
      have gq15 := Gr_J4_count hM q15
      refine G_J4_count (pc := 30) C hM bw_2_52 q15 dJ5_append_3fe6f_30 ?_
      refine m_dup_x1 (pc := 33) C rfl (vr_cat _ _) dJ5_append_3fe6f_33 ?_
      refine m_iconst (pc := 34) C dJ5_append_3fe6f_34 ?_
      obtain ⟨a16, ea16, h⟩ := nm_some h
      have ra16 : R32 a16 := by rw [ea16]; exact w32_R _
      refine m_iadd (pc := 35) C dJ5_append_3fe6f_35 ea16 ?_
      obtain ⟨q17, h⟩ := ck_some h
      obtain ⟨μ18, eμ18, h⟩ := nm_some h
      refine P_J4_count (pc := 36) C hM bw_2_52 q17 ra16 eμ18 dJ5_append_3fe6f_36 (fun H locs hM => ?_)
      refine m_iload_n (pc := 39) C dJ5_append_3fe6f_39 rfl (lv_at hl 1 rfl) ?_
      obtain ⟨a19, ea19, h⟩ := nm_some h
      have ra19 : R32 a19 := by rw [ea19]; exact R32_of _
      refine m_i2b (pc := 40) C dJ5_append_3fe6f_40 ea19 ?_
      obtain ⟨q20, h⟩ := ck_some h
      obtain ⟨μ21, eμ21, h⟩ := nm_some h
      refine m_bast (pc := 41) C hM q20.1 q20.2.2.2.2.2 q20.2.1 q20.2.2.1 q20.2.2.2.1 q20.2.2.2.2.1 eμ21 dJ5_append_3fe6f_41 (fun H locs hM => ?_)
      refine m_goto (tgt := 75) (pc := 42) C dJ5_append_3fe6f_42 (by decide) ?_
      refine m_aload_n (pc := 75) C dJ5_append_3fe6f_75 rfl (lv_at hl 0 rfl) ?_
      cases h
      refine W.widen (k := 1) (n := 200) (by omega) (by omega) ?_
      exact m_aret (pc := 76) C (Or.inl ⟨_, rfl⟩) hM trivial dJ5_append_3fe6f_76
theorem hd_J5_append_3fe6f : yJ5_append_3fe6f.cls ≠ "java/lang/invoke/MethodHandle" ∧ yJ5_append_3fe6f.cls ≠ "java/lang/invoke/VarHandle" ∧ (parseMethodDescriptor yJ5_append_3fe6f.desc).map (fun d => d.parameters.length) = some 1 := by decide +kernel

theorem VS_J5_append_3fe6f {p : Program} {l : Launch} {e : Env} {R : Room} {s : State} {m : MethodId} {args : Array Value} {below : List Frame} {meth : Method} {c : Code} {H : Heap} {locs : List Loc} {cells slots : Nat} {Q : State → Prop} {cc : ByteArray} {pc nL : Nat} {ls : Array Slot} {rest : List Value} {ret : Option FieldType} {nmm : String} {E : gE} {μ μ1 : Mm} {index : Nat} (C : gCx p s m args meth c cc nL ret nmm RJ4) (hM : MS E μ s H locs) {N : Nat} {x0 x1 v : Int} (hc : f_J5_append_3fe6f N x0 x1 μ = some (v, μ1)) (rx1 : R32 x1) (hck : μ x0 (-2) = 1) (h1 : Cond.methodLink RJ4 index yJ5_append_3fe6f ∈ bigL) (hR : 5 ≤ R.frames ∧ 112 ≤ R.locals) (hl : ls.size = nL) (hcat : RC rest 8) (hf : cells + 1 ≤ R.cells ∧ slots + 200 ≤ R.slots) (hdg : decode cc pc = .ok (.invokespecial index, 3)) (kk : True → ∀ (H1 : Heap) (locs1 : List Loc), MS E μ1 s H1 locs1 → W p l e R s m args below meth c H1 locs1 (cells + 1) (slots + 200) Q (F0 m (pc + 3) ls (vr E v :: rest))) : W p l e R s m args below meth c H locs cells slots Q (F0 m pc ls (vi x1 :: vr E x0 :: rest)) := g_callSU C hM (c_J5_append_3fe6f l E N x0 x1 μ μ1 v hc rx1) hck h1 bw_5_33 bw_2_61 bw_3_183 bw_1_9 bw_3_184 ⟨by decide +kernel, hd_J5_append_3fe6f.2.2⟩ hR rfl hl rfl hcat hf hdg kk
/-! J4_append_cf468 -/
def f_J4_append_cf468 (N : Nat) (x0 x1 : Int) (μ : Mm) : Rs :=
  ck (μ x0 (-2) = 1) <|
  ck ((1 : Int) ≤ 1 ∧ (200 : Int) ≤ 200) <|
  bd (f_J5_append_3fe6f N x0 x1 μ) fun a3 μ4 =>
  some (x0, μ4)
set_option maxHeartbeats 4000000 in
set_option maxRecDepth 100000 in
theorem c_J4_append_cf468 (l : Launch) (E : gE) (N : Nat) (x0 x1 : Int) (μ μ' : Mm) (r : Int) (h : f_J4_append_cf468 N x0 x1 μ = some (r, μ')) (rx1 : R32 x1) : gMet l E yJ4_append_cf468 cJ4_append_cf468 2 (some (.object "java/lang/StringBuilder")) 5 112 [vr E x0, vi x1] (some (vr E r)) True μ μ' 1 200 := by
  refine g_ofW [1, 1] (by first | (simp only [List.map_cons, List.map_nil, vr_cat]; done) | (simp only [List.map_cons, List.map_nil, vr_cat]; rfl)) (by decide) (by decide) (fun p e s m below meth c ls C hM hl => ?_)
  replace C : gCx p s m _ meth c cJ4_append_cf468 2 (some (.object "java/lang/StringBuilder")) "append" RJ4 := C
  replace hl : lv_has ls 2 [(0, vr E x0), (1, vi x1)] := hl
  unfold f_J4_append_cf468 at h
  have hb : ((0 : Nat) : Int) + 1 ≤ 1 ∧ (0 : Int) ≤ 1 ∧ ((0 : Nat) : Int) + 200 ≤ 200 ∧ (0 : Int) ≤ 200 := by decide
  refine m_aload_n (pc := 0) C dJ4_append_cf468_0 rfl (lv_at hl 0 rfl) ?_
  refine m_iload_n (pc := 1) C dJ4_append_cf468_1 rfl (lv_at hl 1 rfl) ?_
  obtain ⟨q1, h⟩ := ck_some h
  obtain ⟨q2, h⟩ := ck_some h
  obtain ⟨a3, μ4, ca3, h⟩ := bd_some h
  refine VS_J5_append_3fe6f (pc := 2) C hM ca3 rx1 q1 bw_3_182 ⟨Nat.le_of_ble_eq_true rfl, Nat.le_of_ble_eq_true rfl⟩ hl.1 rc0 ⟨by show _ + 1 ≤ 1; omega, by show _ + 200 ≤ 200; omega⟩ dJ4_append_cf468_2 (fun _ H locs hM => ?_)
  replace hb : ((0 + 1 : Nat) : Int) + (1 - 1) ≤ 1 ∧ (0 : Int) ≤ 1 - 1 ∧ ((0 + 200 : Nat) : Int) + (200 - 200) ≤ 200 ∧ (0 : Int) ≤ 200 - 200 := by omega
  refine m_pop (pc := 5) C (vr_cat _ _) dJ4_append_cf468_5 ?_
  refine m_aload_n (pc := 6) C dJ4_append_cf468_6 rfl (lv_at hl 0 rfl) ?_
  cases h
  refine W.widen (k := 1) (n := 200) (by omega) (by omega) ?_
  exact m_aret (pc := 7) C (Or.inl ⟨_, rfl⟩) hM trivial dJ4_append_cf468_7
theorem hd_J4_append_cf468 : yJ4_append_cf468.cls ≠ "java/lang/invoke/MethodHandle" ∧ yJ4_append_cf468.cls ≠ "java/lang/invoke/VarHandle" ∧ (parseMethodDescriptor yJ4_append_cf468.desc).map (fun d => d.parameters.length) = some 1 := by decide +kernel

theorem V_J4_append_cf468 {p : Program} {l : Launch} {e : Env} {R : Room} {s : State} {m : MethodId} {args : Array Value} {below : List Frame} {meth : Method} {c : Code} {H : Heap} {locs : List Loc} {cells slots : Nat} {Q : State → Prop} {cc : ByteArray} {pc nL : Nat} {ls : Array Slot} {rest : List Value} {ret : Option FieldType} {nmm own : String} {E : gE} {μ μ1 : Mm} {index : Nat} (C : gCx p s m args meth c cc nL ret nmm own) (hM : MS E μ s H locs) {N : Nat} {x0 x1 v : Int} (hc : f_J4_append_cf468 N x0 x1 μ = some (v, μ1)) (rx1 : R32 x1) (hck : μ x0 (-2) = 1) (h1 : Cond.methodLink own index yJ4_append_cf468 ∈ bigL) (hR : 6 ≤ R.frames ∧ 133 ≤ R.locals) (hl : ls.size = nL) (hcat : RC rest 8) (hf : cells + 1 ≤ R.cells ∧ slots + 200 ≤ R.slots) (hdg : decode cc pc = .ok (.invokevirtual index, 3)) (kk : True → ∀ (H1 : Heap) (locs1 : List Loc), MS E μ1 s H1 locs1 → W p l e R s m args below meth c H1 locs1 (cells + 1) (slots + 200) Q (F0 m (pc + 3) ls (vr E v :: rest))) : W p l e R s m args below meth c H locs cells slots Q (F0 m pc ls (vi x1 :: vr E x0 :: rest)) := g_callV C KF_J4 hM (c_J4_append_cf468 l E N x0 x1 μ μ1 v hc rx1) hck (gV h1 bw_3_179 bw_3_180 bw_1_10 bw_3_181) ⟨rfl, hd_J4_append_cf468⟩ hR rfl hl rfl hcat hf hdg kk
/-! J6_stringSize_0f7a4 -/
def f_J6_stringSize_0f7a4_b16 (N : Nat) : Nat → Int → Int → Int → Int → Mm → Rs
  | 0, _, _, _, _, _ => none
  | n + 1, x0, x1, x2, x3, μ =>
    if 10 ≤ x3 then
      (nm (w32 (10 + x1)) fun a2 =>
       some (a2, μ))
    else
    if x0 ≤ x2 then
      (nm (w32 (10 * x2)) fun a4 =>
       nm (w32 (x3 + 1)) fun a5 =>
       f_J6_stringSize_0f7a4_b16 N n x0 x1 a4 a5 μ)
    else
    nm (w32 (x3 + x1)) fun a6 =>
    some (a6, μ)
def f_J6_stringSize_0f7a4 (N : Nat) (x0 : Int) (μ : Mm) : Rs :=
  if x0 < 0 then
    (f_J6_stringSize_0f7a4_b16 N N x0 1 ((-10)) 1 μ)
  else
  nm (w32 (-x0)) fun a2 =>
  f_J6_stringSize_0f7a4_b16 N N a2 0 ((-10)) 1 μ
set_option maxHeartbeats 4000000 in
set_option maxRecDepth 100000 in
theorem k_J6_stringSize_0f7a4_b16 (C : gCx p s m args meth c cJ6_stringSize_0f7a4 4 (some .int) "stringSize" RJ6) (N : Nat) {r : Int} {μ' : Mm} : ∀ (n : Nat), ∀ (x0 x1 x2 x3 : Int) (μ : Mm), f_J6_stringSize_0f7a4_b16 N n x0 x1 x2 x3 μ = some (r, μ') → R32 x0 → R32 x1 → R32 x2 → R32 x3 → ∀ (H : Heap) (locs : List Loc) (ls : Array Slot), MS E μ s H locs → lv_has ls 4 [(0, vi x0), (1, vi x1), (2, vi x2), (3, vi x3)] → W p l e ({ frames := 0, cells := 0, slots := 0, locals := 0 } : Room) s m args below meth c H locs 0 0 (MQ below (gQ E (some (vi r)) (R32 r) μ') args s 0 0 (gA E)) (F0 m 16 ls []) := by
  intro n
  induction n with
  | zero => intro x0 x1 x2 x3 μ h; simp [f_J6_stringSize_0f7a4_b16] at h
  | succ n ih =>
    intro x0 x1 x2 x3 μ h rx0 rx1 rx2 rx3 H locs ls hM hl
    rw [f_J6_stringSize_0f7a4_b16] at h
    refine m_iload_n (pc := 16) C dJ6_stringSize_0f7a4_16 rfl (lv_at hl 3 rfl) ?_
    refine m_bipush (pc := 17) C dJ6_stringSize_0f7a4_17 rfl ?_
    refine m_icmp_ge (tgt := 42) (pc := 19) C rx3 rk_10 dJ6_stringSize_0f7a4_19 (by decide) (fun c1 => ?_) (fun c1 => ?_)
    · have h := if_t h c1
      refine m_bipush (pc := 42) C dJ6_stringSize_0f7a4_42 rfl ?_
      refine m_iload_n (pc := 44) C dJ6_stringSize_0f7a4_44 rfl (lv_at hl 1 rfl) ?_
      obtain ⟨a2, ea2, h⟩ := nm_some h
      have ra2 : R32 a2 := by rw [ea2]; exact w32_R _
      refine m_iadd (pc := 45) C dJ6_stringSize_0f7a4_45 ea2 ?_
      cases h
      exact m_iret (pc := 46) C hM ra2 dJ6_stringSize_0f7a4_46
    · have h := if_f h c1
      refine m_iload_n (pc := 22) C dJ6_stringSize_0f7a4_22 rfl (lv_at hl 0 rfl) ?_
      refine m_iload_n (pc := 23) C dJ6_stringSize_0f7a4_23 rfl (lv_at hl 2 rfl) ?_
      refine m_icmp_le (tgt := 31) (pc := 24) C rx0 rx2 dJ6_stringSize_0f7a4_24 (by decide) (fun c3 => ?_) (fun c3 => ?_)
      · have h := if_t h c3
        refine m_bipush (pc := 31) C dJ6_stringSize_0f7a4_31 rfl ?_
        refine m_iload_n (pc := 33) C dJ6_stringSize_0f7a4_33 rfl (lv_at hl 2 rfl) ?_
        obtain ⟨a4, ea4, h⟩ := nm_some h
        have ra4 : R32 a4 := by rw [ea4]; exact w32_R _
        refine m_imul (pc := 34) C dJ6_stringSize_0f7a4_34 ea4 ?_
        refine m_istore_n (pc := 35) C dJ6_stringSize_0f7a4_35 rfl hl (by decide) (lvK1 0 rfl (Nat.ne_of_beq_eq_false rfl) (Nat.ne_of_beq_eq_false rfl) (lvK2 1 rfl (Nat.ne_of_beq_eq_false rfl) rfl (lvK1 3 rfl (Nat.ne_of_beq_eq_false rfl) (Nat.ne_of_beq_eq_false rfl) lvK0))) (fun ls hl => ?_)
        obtain ⟨a5, ea5, h⟩ := nm_some h
        have ra5 : R32 a5 := by rw [ea5]; exact w32_R _
        refine m_iinc (k := 3) (pc := 36) C dJ6_stringSize_0f7a4_36 hl rfl (by decide) ea5 (lvK2 0 rfl (Nat.ne_of_beq_eq_false rfl) rfl (lvK1 1 rfl (Nat.ne_of_beq_eq_false rfl) (Nat.ne_of_beq_eq_false rfl) (lvK1 2 rfl (Nat.ne_of_beq_eq_false rfl) (Nat.ne_of_beq_eq_false rfl) lvK0))) (fun ls hl => ?_)
        refine m_goto (tgt := 16) (pc := 39) C dJ6_stringSize_0f7a4_39 (by decide) ?_
        exact ih _ _ _ _ _ h rx0 rx1 ra4 ra5 _ _ _ hM (lv_sub hl [2, 3, 1, 0] rfl)
      · have h := if_f h c3
        refine m_iload_n (pc := 27) C dJ6_stringSize_0f7a4_27 rfl (lv_at hl 3 rfl) ?_
        refine m_iload_n (pc := 28) C dJ6_stringSize_0f7a4_28 rfl (lv_at hl 1 rfl) ?_
        obtain ⟨a6, ea6, h⟩ := nm_some h
        have ra6 : R32 a6 := by rw [ea6]; exact w32_R _
        refine m_iadd (pc := 29) C dJ6_stringSize_0f7a4_29 ea6 ?_
        cases h
        exact m_iret (pc := 30) C hM ra6 dJ6_stringSize_0f7a4_30
set_option maxHeartbeats 4000000 in
set_option maxRecDepth 100000 in
theorem c_J6_stringSize_0f7a4 (l : Launch) (E : gE) (N : Nat) (x0 : Int) (μ μ' : Mm) (r : Int) (h : f_J6_stringSize_0f7a4 N x0 μ = some (r, μ')) (rx0 : R32 x0) : gMet l E yJ6_stringSize_0f7a4 cJ6_stringSize_0f7a4 4 (some .int) 0 0 [vi x0] (some (vi r)) (R32 r) μ μ' 0 0 := by
  refine g_ofW [1] rfl (by decide) (by decide) (fun p e s m below meth c ls C hM hl => ?_)
  replace C : gCx p s m _ meth c cJ6_stringSize_0f7a4 4 (some .int) "stringSize" RJ6 := C
  replace hl : lv_has ls 4 [(0, vi x0)] := hl
  unfold f_J6_stringSize_0f7a4 at h
  refine m_iconst (pc := 0) C dJ6_stringSize_0f7a4_0 ?_
  refine m_istore_n (pc := 1) C dJ6_stringSize_0f7a4_1 rfl hl (by decide) (lvK2 0 rfl (Nat.ne_of_beq_eq_false rfl) rfl lvK0) (fun ls hl => ?_)
  refine m_iload_n (pc := 2) C dJ6_stringSize_0f7a4_2 rfl (lv_at hl 1 rfl) ?_
  refine m_if_lt (tgt := 11) (pc := 3) C rx0 dJ6_stringSize_0f7a4_3 (by decide) (fun c1 => ?_) (fun c1 => ?_)
  · have h := if_t h c1
    refine m_bipush (pc := 11) C dJ6_stringSize_0f7a4_11 rfl ?_
    refine m_istore_n (pc := 13) C dJ6_stringSize_0f7a4_13 rfl hl (by decide) (lvK2 0 rfl (Nat.ne_of_beq_eq_false rfl) rfl (lvK1 1 rfl (Nat.ne_of_beq_eq_false rfl) (Nat.ne_of_beq_eq_false rfl) lvK0)) (fun ls hl => ?_)
    refine m_iconst (pc := 14) C dJ6_stringSize_0f7a4_14 ?_
    refine m_istore_n (pc := 15) C dJ6_stringSize_0f7a4_15 rfl hl (by decide) (lvK2 0 rfl (Nat.ne_of_beq_eq_false rfl) rfl (lvK1 1 rfl (Nat.ne_of_beq_eq_false rfl) (Nat.ne_of_beq_eq_false rfl) (lvK1 2 rfl (Nat.ne_of_beq_eq_false rfl) (Nat.ne_of_beq_eq_false rfl) lvK0))) (fun ls hl => ?_)
    exact k_J6_stringSize_0f7a4_b16 C N N _ _ _ _ _ h rx0 rk_1 rk_m10 rk_1 _ _ _ hM (lv_sub hl [3, 2, 1, 0] rfl)
  · have h := if_f h c1
    refine m_iconst (pc := 6) C dJ6_stringSize_0f7a4_6 ?_
    refine m_istore_n (pc := 7) C dJ6_stringSize_0f7a4_7 rfl hl (by decide) (lvK2 1 rfl (Nat.ne_of_beq_eq_false rfl) rfl lvK0) (fun ls hl => ?_)
    refine m_iload_n (pc := 8) C dJ6_stringSize_0f7a4_8 rfl (lv_at hl 1 rfl) ?_
    obtain ⟨a2, ea2, h⟩ := nm_some h
    have ra2 : R32 a2 := by rw [ea2]; exact w32_R _
    refine m_ineg (pc := 9) C dJ6_stringSize_0f7a4_9 ea2 ?_
    refine m_istore_n (pc := 10) C dJ6_stringSize_0f7a4_10 rfl hl (by decide) (lvK1 0 rfl (Nat.ne_of_beq_eq_false rfl) (Nat.ne_of_beq_eq_false rfl) lvK0) (fun ls hl => ?_)
    refine m_bipush (pc := 11) C dJ6_stringSize_0f7a4_11 rfl ?_
    refine m_istore_n (pc := 13) C dJ6_stringSize_0f7a4_13 rfl hl (by decide) (lvK1 0 rfl (Nat.ne_of_beq_eq_false rfl) (Nat.ne_of_beq_eq_false rfl) (lvK2 1 rfl (Nat.ne_of_beq_eq_false rfl) rfl lvK0)) (fun ls hl => ?_)
    refine m_iconst (pc := 14) C dJ6_stringSize_0f7a4_14 ?_
    refine m_istore_n (pc := 15) C dJ6_stringSize_0f7a4_15 rfl hl (by decide) (lvK2 0 rfl (Nat.ne_of_beq_eq_false rfl) rfl (lvK1 1 rfl (Nat.ne_of_beq_eq_false rfl) (Nat.ne_of_beq_eq_false rfl) (lvK1 2 rfl (Nat.ne_of_beq_eq_false rfl) (Nat.ne_of_beq_eq_false rfl) lvK0))) (fun ls hl => ?_)
    exact k_J6_stringSize_0f7a4_b16 C N N _ _ _ _ _ h ra2 rk_0 rk_m10 rk_1 _ _ _ hM (lv_sub hl [2, 3, 1, 0] rfl)
theorem hd_J6_stringSize_0f7a4 : yJ6_stringSize_0f7a4.cls ≠ "java/lang/invoke/MethodHandle" ∧ yJ6_stringSize_0f7a4.cls ≠ "java/lang/invoke/VarHandle" ∧ (parseMethodDescriptor yJ6_stringSize_0f7a4.desc).map (fun d => d.parameters.length) = some 1 := by decide +kernel

theorem V_J6_stringSize_0f7a4 {p : Program} {l : Launch} {e : Env} {R : Room} {s : State} {m : MethodId} {args : Array Value} {below : List Frame} {meth : Method} {c : Code} {H : Heap} {locs : List Loc} {cells slots : Nat} {Q : State → Prop} {cc : ByteArray} {pc nL : Nat} {ls : Array Slot} {rest : List Value} {ret : Option FieldType} {nmm own : String} {E : gE} {μ μ1 : Mm} {index : Nat} (C : gCx p s m args meth c cc nL ret nmm own) (hM : MS E μ s H locs) {N : Nat} {x0 v : Int} (hc : f_J6_stringSize_0f7a4 N x0 μ = some (v, μ1)) (rx0 : R32 x0) (h1 : Cond.methodLink own index yJ6_stringSize_0f7a4 ∈ bigL) (hR : 1 ≤ R.frames ∧ 23 ≤ R.locals) (hl : ls.size = nL) (hcat : RC rest 8) (hf : cells + 0 ≤ R.cells ∧ slots + 0 ≤ R.slots) (hdg : decode cc pc = .ok (.invokestatic index, 3)) (kk : (R32 v) → ∀ (H1 : Heap) (locs1 : List Loc), MS E μ1 s H1 locs1 → W p l e R s m args below meth c H1 locs1 (cells + 0) (slots + 0) Q (F0 m (pc + 3) ls (vi v :: rest))) : W p l e R s m args below meth c H locs cells slots Q (F0 m pc ls (vi x0 :: rest)) := g_callS C hM (c_J6_stringSize_0f7a4 l E N x0 μ μ1 v hc rx0) (gS h1 bw_4_1 bw_1_19 bw_4_2) hd_J6_stringSize_0f7a4 hR rfl hl rfl hcat hf hdg kk
/-! J6_getChars_ba4f3 -/
def f_J6_getChars_ba4f3_b104 (N : Nat) (x2 x5 x6 : Int) (μ : Mm) : Rs :=
  if x6 = 0 then
    (some (x5, μ))
  else
  nm (w32 (x5 + (-1))) fun a2 =>
  ck (μ x2 (-2) = 21 ∧ (0 : Int) ≤ a2 ∧ a2 < μ x2 (-1) ∧ (-128 : Int) ≤ 45 ∧ 45 ≤ (127 : Int) ∧ (0 : Int) ≤ x2) <|
  nm (mset μ x2 a2 45) fun μ4 =>
  some (a2, μ4)
def f_J6_getChars_ba4f3_b22 (N : Nat) : Nat → Int → Int → Int → Int → Mm → Rs
  | 0, _, _, _, _, _ => none
  | n + 1, x0, x2, x5, x6, μ =>
    if ((-100)) < x0 then
      (nm (w32 (x5 + (-1))) fun a2 =>
       nm (w32 (-x0)) fun a3 =>
       ck (μ ((-301)) (-2) = 21 ∧ (0 : Int) ≤ a3 ∧ a3 < μ ((-301)) (-1)) <|
       ck (μ x2 (-2) = 21 ∧ (0 : Int) ≤ a2 ∧ a2 < μ x2 (-1) ∧ (-128 : Int) ≤ (μ ((-301)) a3) ∧ (μ ((-301)) a3) ≤ (127 : Int) ∧ (0 : Int) ≤ x2) <|
       nm (mset μ x2 a2 (μ ((-301)) a3)) fun μ6 =>
       if ((-9)) ≤ x0 then
         (f_J6_getChars_ba4f3_b104 N x2 a2 x6 μ6)
       else
       nm (w32 (a2 + (-1))) fun a8 =>
       nm (w32 (-x0)) fun a9 =>
       ck (μ6 ((-302)) (-2) = 21 ∧ (0 : Int) ≤ a9 ∧ a9 < μ6 ((-302)) (-1)) <|
       ck (μ6 x2 (-2) = 21 ∧ (0 : Int) ≤ a8 ∧ a8 < μ6 x2 (-1) ∧ (-128 : Int) ≤ (μ6 ((-302)) a9) ∧ (μ6 ((-302)) a9) ≤ (127 : Int) ∧ (0 : Int) ≤ x2) <|
       nm (mset μ6 x2 a8 (μ6 ((-302)) a9)) fun μ12 =>
       f_J6_getChars_ba4f3_b104 N x2 a8 x6 μ12)
    else
    nm (w32 (Int.tdiv x0 100)) fun a13 =>
    nm (w32 (a13 * 100)) fun a15 =>
    nm (w32 (a15 - x0)) fun a16 =>
    nm (w32 (x5 + (-1))) fun a17 =>
    ck (μ ((-301)) (-2) = 21 ∧ (0 : Int) ≤ a16 ∧ a16 < μ ((-301)) (-1)) <|
    ck (μ x2 (-2) = 21 ∧ (0 : Int) ≤ a17 ∧ a17 < μ x2 (-1) ∧ (-128 : Int) ≤ (μ ((-301)) a16) ∧ (μ ((-301)) a16) ≤ (127 : Int) ∧ (0 : Int) ≤ x2) <|
    nm (mset μ x2 a17 (μ ((-301)) a16)) fun μ20 =>
    nm (w32 (a17 + (-1))) fun a21 =>
    ck (μ20 ((-302)) (-2) = 21 ∧ (0 : Int) ≤ a16 ∧ a16 < μ20 ((-302)) (-1)) <|
    ck (μ20 x2 (-2) = 21 ∧ (0 : Int) ≤ a21 ∧ a21 < μ20 x2 (-1) ∧ (-128 : Int) ≤ (μ20 ((-302)) a16) ∧ (μ20 ((-302)) a16) ≤ (127 : Int) ∧ (0 : Int) ≤ x2) <|
    nm (mset μ20 x2 a21 (μ20 ((-302)) a16)) fun μ24 =>
    f_J6_getChars_ba4f3_b22 N n a13 x2 a21 x6 μ24
def f_J6_getChars_ba4f3_b12 (N : Nat) (x0 x2 x5 y0 : Int) (μ : Mm) : Rs :=
  if ¬ y0 = 0 then
    (f_J6_getChars_ba4f3_b22 N N x0 x2 x5 y0 μ)
  else
  nm (w32 (-x0)) fun a2 =>
  f_J6_getChars_ba4f3_b22 N N a2 x2 x5 y0 μ
def f_J6_getChars_ba4f3 (N : Nat) (x0 x1 x2 : Int) (μ : Mm) : Rs :=
  if 0 ≤ x0 then
    (f_J6_getChars_ba4f3_b12 N x0 x2 x1 0 μ)
  else
  f_J6_getChars_ba4f3_b12 N x0 x2 x1 1 μ
set_option maxHeartbeats 4000000 in
set_option maxRecDepth 100000 in
theorem k_J6_getChars_ba4f3_b104 (C : gCx p s m args meth c cJ6_getChars_ba4f3 7 (some .int) "getChars" RJ6) (N : Nat) {r : Int} {μ' : Mm} : ∀ (x2 x5 x6 : Int) (μ : Mm), f_J6_getChars_ba4f3_b104 N x2 x5 x6 μ = some (r, μ') → R32 x5 → R32 x6 → ∀ (H : Heap) (locs : List Loc) (ls : Array Slot), MS E μ s H locs → lv_has ls 7 [(2, vr E x2), (5, vi x5), (6, vi x6)] → W p l e ({ frames := 0, cells := 0, slots := 0, locals := 0 } : Room) s m args below meth c H locs 0 0 (MQ below (gQ E (some (vi r)) (R32 r) μ') args s 0 0 (gA E)) (F0 m 104 ls []) := by
  intro x2 x5 x6 μ h rx5 rx6 H locs ls hM hl
  unfold f_J6_getChars_ba4f3_b104 at h
  refine m_iload (pc := 104) C dJ6_getChars_ba4f3_104 (lv_at hl 2 rfl) ?_
  refine m_if_eq (tgt := 118) (pc := 106) C rx6 dJ6_getChars_ba4f3_106 (by decide) (fun c1 => ?_) (fun c1 => ?_)
  · have h := if_t h c1
    refine m_iload (pc := 118) C dJ6_getChars_ba4f3_118 (lv_at hl 1 rfl) ?_
    cases h
    exact m_iret (pc := 120) C hM rx5 dJ6_getChars_ba4f3_120
  · have h := if_f h c1
    refine m_aload_n (pc := 109) C dJ6_getChars_ba4f3_109 rfl (lv_at hl 0 rfl) ?_
    obtain ⟨a2, ea2, h⟩ := nm_some h
    have ra2 : R32 a2 := by rw [ea2]; exact w32_R _
    refine m_iinc (k := 1) (pc := 110) C dJ6_getChars_ba4f3_110 hl rfl (by decide) ea2 lvK0 (fun ls hl => ?_)
    refine m_iload (pc := 113) C dJ6_getChars_ba4f3_113 (lv_at hl 0 rfl) ?_
    refine m_bipush (pc := 115) C dJ6_getChars_ba4f3_115 rfl ?_
    obtain ⟨q3, h⟩ := ck_some h
    obtain ⟨μ4, eμ4, h⟩ := nm_some h
    refine m_bast (pc := 117) C hM q3.1 q3.2.2.2.2.2 q3.2.1 q3.2.2.1 q3.2.2.2.1 q3.2.2.2.2.1 eμ4 dJ6_getChars_ba4f3_117 (fun H locs hM => ?_)
    refine m_iload (pc := 118) C dJ6_getChars_ba4f3_118 (lv_at hl 0 rfl) ?_
    cases h
    exact m_iret (pc := 120) C hM ra2 dJ6_getChars_ba4f3_120
set_option maxHeartbeats 4000000 in
set_option maxRecDepth 100000 in
theorem k_J6_getChars_ba4f3_b22 (C : gCx p s m args meth c cJ6_getChars_ba4f3 7 (some .int) "getChars" RJ6) (N : Nat) {r : Int} {μ' : Mm} : ∀ (n : Nat), ∀ (x0 x2 x5 x6 : Int) (μ : Mm), f_J6_getChars_ba4f3_b22 N n x0 x2 x5 x6 μ = some (r, μ') → R32 x0 → R32 x5 → R32 x6 → ∀ (H : Heap) (locs : List Loc) (ls : Array Slot), MS E μ s H locs → lv_has ls 7 [(0, vi x0), (2, vr E x2), (5, vi x5), (6, vi x6)] → W p l e ({ frames := 0, cells := 0, slots := 0, locals := 0 } : Room) s m args below meth c H locs 0 0 (MQ below (gQ E (some (vi r)) (R32 r) μ') args s 0 0 (gA E)) (F0 m 22 ls []) := by
  intro n
  induction n with
  | zero => intro x0 x2 x5 x6 μ h; simp [f_J6_getChars_ba4f3_b22] at h
  | succ n ih =>
    intro x0 x2 x5 x6 μ h rx0 rx5 rx6 H locs ls hM hl
    rw [f_J6_getChars_ba4f3_b22] at h
    refine m_iload_n (pc := 22) C dJ6_getChars_ba4f3_22 rfl (lv_at hl 0 rfl) ?_
    refine m_bipush (pc := 23) C dJ6_getChars_ba4f3_23 rfl ?_
    refine m_icmp_gt (tgt := 72) (pc := 25) C rx0 rk_m100 dJ6_getChars_ba4f3_25 (by decide) (fun c1 => ?_) (fun c1 => ?_)
    · have h := if_t h c1
      refine m_aload_n (pc := 72) C dJ6_getChars_ba4f3_72 rfl (lv_at hl 1 rfl) ?_
      obtain ⟨a2, ea2, h⟩ := nm_some h
      have ra2 : R32 a2 := by rw [ea2]; exact w32_R _
      refine m_iinc (k := 2) (pc := 73) C dJ6_getChars_ba4f3_73 hl rfl (by decide) ea2 (lvK1 0 rfl (Nat.ne_of_beq_eq_false rfl) (Nat.ne_of_beq_eq_false rfl) (lvK1 1 rfl (Nat.ne_of_beq_eq_false rfl) (Nat.ne_of_beq_eq_false rfl) (lvK1 3 rfl (Nat.ne_of_beq_eq_false rfl) (Nat.ne_of_beq_eq_false rfl) lvK0))) (fun ls hl => ?_)
      refine m_iload (pc := 76) C dJ6_getChars_ba4f3_76 (lv_at hl 0 rfl) ?_
      refine m_digO (pc := 78) C hM bw_4_6 dJ6_getChars_ba4f3_78 ?_
      refine m_iload_n (pc := 81) C dJ6_getChars_ba4f3_81 rfl (lv_at hl 1 rfl) ?_
      obtain ⟨a3, ea3, h⟩ := nm_some h
      have ra3 : R32 a3 := by rw [ea3]; exact w32_R _
      refine m_ineg (pc := 82) C dJ6_getChars_ba4f3_82 ea3 ?_
      obtain ⟨q4, h⟩ := ck_some h
      have gq4 := Ar_bald hM q4.1 q4.2.1 q4.2.2
      refine m_bald (pc := 83) C hM q4.1 q4.2.1 q4.2.2 dJ6_getChars_ba4f3_83 ?_
      obtain ⟨q5, h⟩ := ck_some h
      obtain ⟨μ6, eμ6, h⟩ := nm_some h
      refine m_bast (pc := 84) C hM q5.1 q5.2.2.2.2.2 q5.2.1 q5.2.2.1 q5.2.2.2.1 q5.2.2.2.2.1 eμ6 dJ6_getChars_ba4f3_84 (fun H locs hM => ?_)
      refine m_iload_n (pc := 85) C dJ6_getChars_ba4f3_85 rfl (lv_at hl 1 rfl) ?_
      refine m_bipush (pc := 86) C dJ6_getChars_ba4f3_86 rfl ?_
      refine m_icmp_ge (tgt := 104) (pc := 88) C rx0 rk_m9 dJ6_getChars_ba4f3_88 (by decide) (fun c7 => ?_) (fun c7 => ?_)
      · have h := if_t h c7
        exact k_J6_getChars_ba4f3_b104 C N _ _ _ _ h ra2 rx6 _ _ _ hM (lv_sub hl [2, 0, 3] rfl)
      · have h := if_f h c7
        refine m_aload_n (pc := 91) C dJ6_getChars_ba4f3_91 rfl (lv_at hl 2 rfl) ?_
        obtain ⟨a8, ea8, h⟩ := nm_some h
        have ra8 : R32 a8 := by rw [ea8]; exact w32_R _
        refine m_iinc (k := 0) (pc := 92) C dJ6_getChars_ba4f3_92 hl rfl (by decide) ea8 (lvK1 1 rfl (Nat.ne_of_beq_eq_false rfl) (Nat.ne_of_beq_eq_false rfl) (lvK1 2 rfl (Nat.ne_of_beq_eq_false rfl) (Nat.ne_of_beq_eq_false rfl) (lvK1 3 rfl (Nat.ne_of_beq_eq_false rfl) (Nat.ne_of_beq_eq_false rfl) lvK0))) (fun ls hl => ?_)
        refine m_iload (pc := 95) C dJ6_getChars_ba4f3_95 (lv_at hl 0 rfl) ?_
        refine m_digT (pc := 97) C hM bw_4_8 dJ6_getChars_ba4f3_97 ?_
        refine m_iload_n (pc := 100) C dJ6_getChars_ba4f3_100 rfl (lv_at hl 1 rfl) ?_
        obtain ⟨a9, ea9, h⟩ := nm_some h
        have ra9 : R32 a9 := by rw [ea9]; exact w32_R _
        refine m_ineg (pc := 101) C dJ6_getChars_ba4f3_101 ea9 ?_
        obtain ⟨q10, h⟩ := ck_some h
        have gq10 := Ar_bald hM q10.1 q10.2.1 q10.2.2
        refine m_bald (pc := 102) C hM q10.1 q10.2.1 q10.2.2 dJ6_getChars_ba4f3_102 ?_
        obtain ⟨q11, h⟩ := ck_some h
        obtain ⟨μ12, eμ12, h⟩ := nm_some h
        refine m_bast (pc := 103) C hM q11.1 q11.2.2.2.2.2 q11.2.1 q11.2.2.1 q11.2.2.2.1 q11.2.2.2.2.1 eμ12 dJ6_getChars_ba4f3_103 (fun H locs hM => ?_)
        exact k_J6_getChars_ba4f3_b104 C N _ _ _ _ h ra8 rx6 _ _ _ hM (lv_sub hl [2, 0, 3] rfl)
    · have h := if_f h c1
      refine m_iload_n (pc := 28) C dJ6_getChars_ba4f3_28 rfl (lv_at hl 0 rfl) ?_
      refine m_bipush (pc := 29) C dJ6_getChars_ba4f3_29 rfl ?_
      obtain ⟨a13, ea13, h⟩ := nm_some h
      have ra13 : R32 a13 := by rw [ea13]; exact w32_R _
      refine m_idiv (pc := 31) C rx0 rk_100 (by decide) dJ6_getChars_ba4f3_31 ea13 ?_
      refine m_istore_n (pc := 32) C dJ6_getChars_ba4f3_32 rfl hl (by decide) (lvK1 0 rfl (Nat.ne_of_beq_eq_false rfl) (Nat.ne_of_beq_eq_false rfl) (lvK2 1 rfl (Nat.ne_of_beq_eq_false rfl) (vr_cat _ _) (lvK1 2 rfl (Nat.ne_of_beq_eq_false rfl) (Nat.ne_of_beq_eq_false rfl) (lvK1 3 rfl (Nat.ne_of_beq_eq_false rfl) (Nat.ne_of_beq_eq_false rfl) lvK0)))) (fun ls hl => ?_)
      refine m_iload_n (pc := 33) C dJ6_getChars_ba4f3_33 rfl (lv_at hl 0 rfl) ?_
      refine m_bipush (pc := 34) C dJ6_getChars_ba4f3_34 rfl ?_
      obtain ⟨a15, ea15, h⟩ := nm_some h
      have ra15 : R32 a15 := by rw [ea15]; exact w32_R _
      refine m_imul (pc := 36) C dJ6_getChars_ba4f3_36 ea15 ?_
      refine m_iload_n (pc := 37) C dJ6_getChars_ba4f3_37 rfl (lv_at hl 1 rfl) ?_
      obtain ⟨a16, ea16, h⟩ := nm_some h
      have ra16 : R32 a16 := by rw [ea16]; exact w32_R _
      refine m_isub (pc := 38) C dJ6_getChars_ba4f3_38 ea16 ?_
      refine m_istore (pc := 39) C dJ6_getChars_ba4f3_39 hl (by decide) (lvK2 0 rfl (Nat.ne_of_beq_eq_false rfl) rfl (lvK1 2 rfl (Nat.ne_of_beq_eq_false rfl) (Nat.ne_of_beq_eq_false rfl) (lvK1 3 rfl (Nat.ne_of_beq_eq_false rfl) (Nat.ne_of_beq_eq_false rfl) (lvK1 4 rfl (Nat.ne_of_beq_eq_false rfl) (Nat.ne_of_beq_eq_false rfl) lvK0)))) (fun ls hl => ?_)
      refine m_iload_n (pc := 41) C dJ6_getChars_ba4f3_41 rfl (lv_at hl 1 rfl) ?_
      refine m_istore_n (pc := 42) C dJ6_getChars_ba4f3_42 rfl hl (by decide) (lvK1 0 rfl (Nat.ne_of_beq_eq_false rfl) (Nat.ne_of_beq_eq_false rfl) (lvK1 2 rfl (Nat.ne_of_beq_eq_false rfl) (Nat.ne_of_beq_eq_false rfl) (lvK1 3 rfl (Nat.ne_of_beq_eq_false rfl) (Nat.ne_of_beq_eq_false rfl) (lvK1 4 rfl (Nat.ne_of_beq_eq_false rfl) (Nat.ne_of_beq_eq_false rfl) lvK0)))) (fun ls hl => ?_)
      refine m_aload_n (pc := 43) C dJ6_getChars_ba4f3_43 rfl (lv_at hl 2 rfl) ?_
      obtain ⟨a17, ea17, h⟩ := nm_some h
      have ra17 : R32 a17 := by rw [ea17]; exact w32_R _
      refine m_iinc (k := 3) (pc := 44) C dJ6_getChars_ba4f3_44 hl rfl (by decide) ea17 (lvK1 0 rfl (Nat.ne_of_beq_eq_false rfl) (Nat.ne_of_beq_eq_false rfl) (lvK2 1 rfl (Nat.ne_of_beq_eq_false rfl) rfl (lvK1 2 rfl (Nat.ne_of_beq_eq_false rfl) (Nat.ne_of_beq_eq_false rfl) (lvK1 4 rfl (Nat.ne_of_beq_eq_false rfl) (Nat.ne_of_beq_eq_false rfl) lvK0)))) (fun ls hl => ?_)
      refine m_iload (pc := 47) C dJ6_getChars_ba4f3_47 (lv_at hl 0 rfl) ?_
      refine m_digO (pc := 49) C hM bw_4_6 dJ6_getChars_ba4f3_49 ?_
      refine m_iload (pc := 52) C dJ6_getChars_ba4f3_52 (lv_at hl 2 rfl) ?_
      obtain ⟨q18, h⟩ := ck_some h
      have gq18 := Ar_bald hM q18.1 q18.2.1 q18.2.2
      refine m_bald (pc := 54) C hM q18.1 q18.2.1 q18.2.2 dJ6_getChars_ba4f3_54 ?_
      obtain ⟨q19, h⟩ := ck_some h
      obtain ⟨μ20, eμ20, h⟩ := nm_some h
      refine m_bast (pc := 55) C hM q19.1 q19.2.2.2.2.2 q19.2.1 q19.2.2.1 q19.2.2.2.1 q19.2.2.2.2.1 eμ20 dJ6_getChars_ba4f3_55 (fun H locs hM => ?_)
      refine m_aload_n (pc := 56) C dJ6_getChars_ba4f3_56 rfl (lv_at hl 3 rfl) ?_
      obtain ⟨a21, ea21, h⟩ := nm_some h
      have ra21 : R32 a21 := by rw [ea21]; exact w32_R _
      refine m_iinc (k := 0) (pc := 57) C dJ6_getChars_ba4f3_57 hl rfl (by decide) ea21 (lvK1 1 rfl (Nat.ne_of_beq_eq_false rfl) (Nat.ne_of_beq_eq_false rfl) (lvK2 2 rfl (Nat.ne_of_beq_eq_false rfl) rfl (lvK1 3 rfl (Nat.ne_of_beq_eq_false rfl) (Nat.ne_of_beq_eq_false rfl) (lvK1 4 rfl (Nat.ne_of_beq_eq_false rfl) (Nat.ne_of_beq_eq_false rfl) lvK0)))) (fun ls hl => ?_)
      refine m_iload (pc := 60) C dJ6_getChars_ba4f3_60 (lv_at hl 0 rfl) ?_
      refine m_digT (pc := 62) C hM bw_4_8 dJ6_getChars_ba4f3_62 ?_
      refine m_iload (pc := 65) C dJ6_getChars_ba4f3_65 (lv_at hl 2 rfl) ?_
      obtain ⟨q22, h⟩ := ck_some h
      have gq22 := Ar_bald hM q22.1 q22.2.1 q22.2.2
      refine m_bald (pc := 67) C hM q22.1 q22.2.1 q22.2.2 dJ6_getChars_ba4f3_67 ?_
      obtain ⟨q23, h⟩ := ck_some h
      obtain ⟨μ24, eμ24, h⟩ := nm_some h
      refine m_bast (pc := 68) C hM q23.1 q23.2.2.2.2.2 q23.2.1 q23.2.2.1 q23.2.2.2.1 q23.2.2.2.2.1 eμ24 dJ6_getChars_ba4f3_68 (fun H locs hM => ?_)
      refine m_goto (tgt := 22) (pc := 69) C dJ6_getChars_ba4f3_69 (by decide) ?_
      exact ih _ _ _ _ _ h ra13 ra21 rx6 _ _ _ hM (lv_sub hl [1, 3, 0, 4] rfl)
set_option maxHeartbeats 4000000 in
set_option maxRecDepth 100000 in
theorem k_J6_getChars_ba4f3_b12 (C : gCx p s m args meth c cJ6_getChars_ba4f3 7 (some .int) "getChars" RJ6) (N : Nat) {r : Int} {μ' : Mm} : ∀ (x0 x2 x5 y0 : Int) (μ : Mm), f_J6_getChars_ba4f3_b12 N x0 x2 x5 y0 μ = some (r, μ') → R32 x0 → R32 x5 → R32 y0 → ∀ (H : Heap) (locs : List Loc) (ls : Array Slot), MS E μ s H locs → lv_has ls 7 [(0, vi x0), (2, vr E x2), (5, vi x5)] → W p l e ({ frames := 0, cells := 0, slots := 0, locals := 0 } : Room) s m args below meth c H locs 0 0 (MQ below (gQ E (some (vi r)) (R32 r) μ') args s 0 0 (gA E)) (F0 m 12 ls [vi y0]) := by
  intro x0 x2 x5 y0 μ h rx0 rx5 ry0 H locs ls hM hl
  unfold f_J6_getChars_ba4f3_b12 at h
  refine m_istore (pc := 12) C dJ6_getChars_ba4f3_12 hl (by decide) (lvK1 0 rfl (Nat.ne_of_beq_eq_false rfl) (Nat.ne_of_beq_eq_false rfl) (lvK1 1 rfl (Nat.ne_of_beq_eq_false rfl) (Nat.ne_of_beq_eq_false rfl) (lvK2 2 rfl (Nat.ne_of_beq_eq_false rfl) rfl lvK0))) (fun ls hl => ?_)
  refine m_iload (pc := 14) C dJ6_getChars_ba4f3_14 (lv_at hl 0 rfl) ?_
  refine m_if_ne (tgt := 22) (pc := 16) C ry0 dJ6_getChars_ba4f3_16 (by decide) (fun c1 => ?_) (fun c1 => ?_)
  · have h := if_t h c1
    exact k_J6_getChars_ba4f3_b22 C N N _ _ _ _ _ h rx0 rx5 ry0 _ _ _ hM (lv_sub hl [1, 2, 3, 0] rfl)
  · have h := if_f h c1
    refine m_iload_n (pc := 19) C dJ6_getChars_ba4f3_19 rfl (lv_at hl 1 rfl) ?_
    obtain ⟨a2, ea2, h⟩ := nm_some h
    have ra2 : R32 a2 := by rw [ea2]; exact w32_R _
    refine m_ineg (pc := 20) C dJ6_getChars_ba4f3_20 ea2 ?_
    refine m_istore_n (pc := 21) C dJ6_getChars_ba4f3_21 rfl hl (by decide) (lvK1 0 rfl (Nat.ne_of_beq_eq_false rfl) (Nat.ne_of_beq_eq_false rfl) (lvK1 2 rfl (Nat.ne_of_beq_eq_false rfl) (Nat.ne_of_beq_eq_false rfl) (lvK1 3 rfl (Nat.ne_of_beq_eq_false rfl) (Nat.ne_of_beq_eq_false rfl) lvK0))) (fun ls hl => ?_)
    exact k_J6_getChars_ba4f3_b22 C N N _ _ _ _ _ h ra2 rx5 ry0 _ _ _ hM (lv_sub hl [0, 2, 3, 1] rfl)
set_option maxHeartbeats 4000000 in
set_option maxRecDepth 100000 in
theorem c_J6_getChars_ba4f3 (l : Launch) (E : gE) (N : Nat) (x0 x1 x2 : Int) (μ μ' : Mm) (r : Int) (h : f_J6_getChars_ba4f3 N x0 x1 x2 μ = some (r, μ')) (rx0 : R32 x0) (rx1 : R32 x1) : gMet l E yJ6_getChars_ba4f3 cJ6_getChars_ba4f3 7 (some .int) 0 0 [vi x0, vi x1, vr E x2] (some (vi r)) (R32 r) μ μ' 0 0 := by
  refine g_ofW [1, 1, 1] (by first | (simp only [List.map_cons, List.map_nil, vr_cat]; done) | (simp only [List.map_cons, List.map_nil, vr_cat]; rfl)) (by decide) (by decide) (fun p e s m below meth c ls C hM hl => ?_)
  replace C : gCx p s m _ meth c cJ6_getChars_ba4f3 7 (some .int) "getChars" RJ6 := C
  replace hl : lv_has ls 7 [(0, vi x0), (1, vi x1), (2, vr E x2)] := hl
  unfold f_J6_getChars_ba4f3 at h
  refine m_iload_n (pc := 0) C dJ6_getChars_ba4f3_0 rfl (lv_at hl 1 rfl) ?_
  refine m_istore (pc := 1) C dJ6_getChars_ba4f3_1 hl (by decide) (lvK1 0 rfl (Nat.ne_of_beq_eq_false rfl) (Nat.ne_of_beq_eq_false rfl) (lvK1 2 rfl (Nat.ne_of_beq_eq_false rfl) (Nat.ne_of_beq_eq_false rfl) lvK0)) (fun ls hl => ?_)
  refine m_iload_n (pc := 3) C dJ6_getChars_ba4f3_3 rfl (lv_at hl 1 rfl) ?_
  refine m_if_ge (tgt := 11) (pc := 4) C rx0 dJ6_getChars_ba4f3_4 (by decide) (fun c1 => ?_) (fun c1 => ?_)
  · have h := if_t h c1
    refine m_iconst (pc := 11) C dJ6_getChars_ba4f3_11 ?_
    exact k_J6_getChars_ba4f3_b12 C N _ _ _ _ _ h rx0 rx1 rk_0 _ _ _ hM (lv_sub hl [1, 2, 0] rfl)
  · have h := if_f h c1
    refine m_iconst (pc := 7) C dJ6_getChars_ba4f3_7 ?_
    refine m_goto (tgt := 12) (pc := 8) C dJ6_getChars_ba4f3_8 (by decide) ?_
    exact k_J6_getChars_ba4f3_b12 C N _ _ _ _ _ h rx0 rx1 rk_1 _ _ _ hM (lv_sub hl [1, 2, 0] rfl)
theorem hd_J6_getChars_ba4f3 : yJ6_getChars_ba4f3.cls ≠ "java/lang/invoke/MethodHandle" ∧ yJ6_getChars_ba4f3.cls ≠ "java/lang/invoke/VarHandle" ∧ (parseMethodDescriptor yJ6_getChars_ba4f3.desc).map (fun d => d.parameters.length) = some 3 := by decide +kernel

theorem V_J6_getChars_ba4f3 {p : Program} {l : Launch} {e : Env} {R : Room} {s : State} {m : MethodId} {args : Array Value} {below : List Frame} {meth : Method} {c : Code} {H : Heap} {locs : List Loc} {cells slots : Nat} {Q : State → Prop} {cc : ByteArray} {pc nL : Nat} {ls : Array Slot} {rest : List Value} {ret : Option FieldType} {nmm own : String} {E : gE} {μ μ1 : Mm} {index : Nat} (C : gCx p s m args meth c cc nL ret nmm own) (hM : MS E μ s H locs) {N : Nat} {x0 x1 x2 v : Int} (hc : f_J6_getChars_ba4f3 N x0 x1 x2 μ = some (v, μ1)) (rx0 : R32 x0) (rx1 : R32 x1) (h1 : Cond.methodLink own index yJ6_getChars_ba4f3 ∈ bigL) (hR : 1 ≤ R.frames ∧ 26 ≤ R.locals) (hl : ls.size = nL) (hcat : RC rest 8) (hf : cells + 0 ≤ R.cells ∧ slots + 0 ≤ R.slots) (hdg : decode cc pc = .ok (.invokestatic index, 3)) (kk : (R32 v) → ∀ (H1 : Heap) (locs1 : List Loc), MS E μ1 s H1 locs1 → W p l e R s m args below meth c H1 locs1 (cells + 0) (slots + 0) Q (F0 m (pc + 3) ls (vi v :: rest))) : W p l e R s m args below meth c H locs cells slots Q (F0 m pc ls (vr E x2 :: vi x1 :: vi x0 :: rest)) := g_callS C hM (c_J6_getChars_ba4f3 l E N x0 x1 x2 μ μ1 v hc rx0 rx1) (gS h1 bw_4_4 bw_1_19 bw_4_5) hd_J6_getChars_ba4f3 hR rfl hl rfl hcat hf hdg kk
/-! J5_append_c97b9 -/
def f_J5_append_c97b9 (N : Nat) (x0 x1 : Int) (μ : Mm) : Rs :=
  ck (μ x0 (-2) = 1) <|
  bd (f_J6_stringSize_0f7a4 N x1 μ) fun a2 μ3 =>
  nm (w32 ((μ x0 3) + a2)) fun a4 =>
  ck (μ3 x0 (-2) = 1) <|
  ck ((1 : Int) ≤ 1 ∧ (200 : Int) ≤ 200) <|
  bd (f_J5_ensureCapacityInternal_d00df N x0 a4 μ3) fun a7 μ8 =>
  ck (μ8 x0 (-2) = 1) <|
  bd (f_J5_isLatin1_aae02 N x0 μ8) fun a10 μ11 =>
  if a10 = 0 then
    (ck (μ11 x0 (-2) = 1) <|
     none)
  else
  ck (μ11 x0 (-2) = 1) <|
  bd (f_J6_getChars_ba4f3 N x1 a4 (μ11 x0 0) μ11) fun a15 μ16 =>
  ck (μ16 x0 (-2) = 1) <|
  nm (mset μ16 x0 3 a4) fun μ18 =>
  some (x0, μ18)
set_option maxHeartbeats 4000000 in
set_option maxRecDepth 100000 in
theorem c_J5_append_c97b9 (l : Launch) (E : gE) (N : Nat) (x0 x1 : Int) (μ μ' : Mm) (r : Int) (h : f_J5_append_c97b9 N x0 x1 μ = some (r, μ')) (rx1 : R32 x1) : gMet l E yJ5_append_c97b9 cJ5_append_c97b9 4 (some (.object "java/lang/AbstractStringBuilder")) 4 91 [vr E x0, vi x1] (some (vr E r)) True μ μ' 1 200 := by
  refine g_ofW [1, 1] (by first | (simp only [List.map_cons, List.map_nil, vr_cat]; done) | (simp only [List.map_cons, List.map_nil, vr_cat]; rfl)) (by decide) (by decide) (fun p e s m below meth c ls C hM hl => ?_)
  replace C : gCx p s m _ meth c cJ5_append_c97b9 4 (some (.object "java/lang/AbstractStringBuilder")) "append" RJ5 := C
  replace hl : lv_has ls 4 [(0, vr E x0), (1, vi x1)] := hl
  unfold f_J5_append_c97b9 at h
  have hb : ((0 : Nat) : Int) + 1 ≤ 1 ∧ (0 : Int) ≤ 1 ∧ ((0 : Nat) : Int) + 200 ≤ 200 ∧ (0 : Int) ≤ 200 := by decide
  refine m_aload_n (pc := 0) C dJ5_append_c97b9_0 rfl (lv_at hl 0 rfl) ?_
  obtain ⟨q1, h⟩ := ck_some h
  have gq1 := Gr_J4_count hM q1
  refine G_J4_count (pc := 1) C hM bw_2_52 q1 dJ5_append_c97b9_1 ?_
  refine m_istore_n (pc := 4) C dJ5_append_c97b9_4 rfl hl (by decide) (lvK1 0 rfl (Nat.ne_of_beq_eq_false rfl) (Nat.ne_of_beq_eq_false rfl) (lvK2 1 rfl (Nat.ne_of_beq_eq_false rfl) rfl lvK0)) (fun ls hl => ?_)
  refine m_iload_n (pc := 5) C dJ5_append_c97b9_5 rfl (lv_at hl 0 rfl) ?_
  refine m_iload_n (pc := 6) C dJ5_append_c97b9_6 rfl (lv_at hl 2 rfl) ?_
  obtain ⟨a2, μ3, ca2, h⟩ := bd_some h
  refine V_J6_stringSize_0f7a4 (pc := 7) C hM ca2 rx1 bw_4_0 ⟨Nat.le_of_ble_eq_true rfl, Nat.le_of_ble_eq_true rfl⟩ hl.1 (rcI rc0) ⟨by show _ + 0 ≤ 1; omega, by show _ + 0 ≤ 200; omega⟩ dJ5_append_c97b9_7 (fun ra2 H locs hM => ?_)
  obtain ⟨a4, ea4, h⟩ := nm_some h
  have ra4 : R32 a4 := by rw [ea4]; exact w32_R _
  refine m_iadd (pc := 10) C dJ5_append_c97b9_10 ea4 ?_
  refine m_istore_n (pc := 11) C dJ5_append_c97b9_11 rfl hl (by decide) (lvK2 0 rfl (Nat.ne_of_beq_eq_false rfl) rfl (lvK1 1 rfl (Nat.ne_of_beq_eq_false rfl) (Nat.ne_of_beq_eq_false rfl) (lvK1 2 rfl (Nat.ne_of_beq_eq_false rfl) (Nat.ne_of_beq_eq_false rfl) lvK0))) (fun ls hl => ?_)
  refine m_aload_n (pc := 12) C dJ5_append_c97b9_12 rfl (lv_at hl 2 rfl) ?_
  refine m_iload_n (pc := 13) C dJ5_append_c97b9_13 rfl (lv_at hl 0 rfl) ?_
  obtain ⟨q5, h⟩ := ck_some h
  obtain ⟨q6, h⟩ := ck_some h
  obtain ⟨a7, μ8, ca7, h⟩ := bd_some h
  refine VU_J5_ensureCapacityInternal_d00df (pc := 14) C hM ca7 ra4 q5 bw_3_127 ⟨Nat.le_of_ble_eq_true rfl, Nat.le_of_ble_eq_true rfl⟩ hl.1 rc0 ⟨by show _ + 1 ≤ 1; omega, by show _ + 200 ≤ 200; omega⟩ dJ5_append_c97b9_14 (fun _ H locs hM => ?_)
  replace hb : ((0 + 1 : Nat) : Int) + (1 - 1) ≤ 1 ∧ (0 : Int) ≤ 1 - 1 ∧ ((0 + 200 : Nat) : Int) + (200 - 200) ≤ 200 ∧ (0 : Int) ≤ 200 - 200 := by omega
  refine m_aload_n (pc := 17) C dJ5_append_c97b9_17 rfl (lv_at hl 2 rfl) ?_
  obtain ⟨q9, h⟩ := ck_some h
  obtain ⟨a10, μ11, ca10, h⟩ := bd_some h
  refine VU_J5_isLatin1_aae02 (pc := 18) C hM ca10 q9 bw_3_160 ⟨Nat.le_of_ble_eq_true rfl, Nat.le_of_ble_eq_true rfl⟩ hl.1 rc0 ⟨by show _ + 0 ≤ 1; omega, by show _ + 0 ≤ 200; omega⟩ dJ5_append_c97b9_18 (fun ra10 H locs hM => ?_)
  refine m_if_eq (tgt := 37) (pc := 21) C ra10 dJ5_append_c97b9_21 (by decide) (fun c12 => ?_) (fun c12 => ?_)
  · have h := if_t h c12
    refine m_iload_n (pc := 37) C dJ5_append_c97b9_37 rfl (lv_at hl 3 rfl) ?_
    refine m_iload_n (pc := 38) C dJ5_append_c97b9_38 rfl (lv_at hl 1 rfl) ?_
    refine m_iload_n (pc := 39) C dJ5_append_c97b9_39 rfl (lv_at hl 0 rfl) ?_
    refine m_aload_n (pc := 40) C dJ5_append_c97b9_40 rfl (lv_at hl 2 rfl) ?_
    obtain ⟨q13, h⟩ := ck_some h
    refine G_J4_value (pc := 41) C hM bw_2_49 q13 dJ5_append_c97b9_41 ?_
    cases h
  · have h := if_f h c12
    refine m_iload_n (pc := 24) C dJ5_append_c97b9_24 rfl (lv_at hl 3 rfl) ?_
    refine m_iload_n (pc := 25) C dJ5_append_c97b9_25 rfl (lv_at hl 0 rfl) ?_
    refine m_aload_n (pc := 26) C dJ5_append_c97b9_26 rfl (lv_at hl 2 rfl) ?_
    obtain ⟨q14, h⟩ := ck_some h
    refine G_J4_value (pc := 27) C hM bw_2_49 q14 dJ5_append_c97b9_27 ?_
    obtain ⟨a15, μ16, ca15, h⟩ := bd_some h
    refine V_J6_getChars_ba4f3 (pc := 30) C hM ca15 rx1 ra4 bw_4_3 ⟨Nat.le_of_ble_eq_true rfl, Nat.le_of_ble_eq_true rfl⟩ hl.1 rc0 ⟨by show _ + 0 ≤ 1; omega, by show _ + 0 ≤ 200; omega⟩ dJ5_append_c97b9_30 (fun ra15 H locs hM => ?_)
    refine m_pop (pc := 33) C rfl dJ5_append_c97b9_33 ?_
    refine m_goto (tgt := 48) (pc := 34) C dJ5_append_c97b9_34 (by decide) ?_
    refine m_aload_n (pc := 48) C dJ5_append_c97b9_48 rfl (lv_at hl 2 rfl) ?_
    refine m_iload_n (pc := 49) C dJ5_append_c97b9_49 rfl (lv_at hl 0 rfl) ?_
    obtain ⟨q17, h⟩ := ck_some h
    obtain ⟨μ18, eμ18, h⟩ := nm_some h
    refine P_J4_count (pc := 50) C hM bw_2_52 q17 ra4 eμ18 dJ5_append_c97b9_50 (fun H locs hM => ?_)
    refine m_aload_n (pc := 53) C dJ5_append_c97b9_53 rfl (lv_at hl 2 rfl) ?_
    cases h
    refine W.widen (k := 1) (n := 200) (by omega) (by omega) ?_
    exact m_aret (pc := 54) C (Or.inl ⟨_, rfl⟩) hM trivial dJ5_append_c97b9_54
theorem hd_J5_append_c97b9 : yJ5_append_c97b9.cls ≠ "java/lang/invoke/MethodHandle" ∧ yJ5_append_c97b9.cls ≠ "java/lang/invoke/VarHandle" ∧ (parseMethodDescriptor yJ5_append_c97b9.desc).map (fun d => d.parameters.length) = some 1 := by decide +kernel

theorem VS_J5_append_c97b9 {p : Program} {l : Launch} {e : Env} {R : Room} {s : State} {m : MethodId} {args : Array Value} {below : List Frame} {meth : Method} {c : Code} {H : Heap} {locs : List Loc} {cells slots : Nat} {Q : State → Prop} {cc : ByteArray} {pc nL : Nat} {ls : Array Slot} {rest : List Value} {ret : Option FieldType} {nmm : String} {E : gE} {μ μ1 : Mm} {index : Nat} (C : gCx p s m args meth c cc nL ret nmm RJ4) (hM : MS E μ s H locs) {N : Nat} {x0 x1 v : Int} (hc : f_J5_append_c97b9 N x0 x1 μ = some (v, μ1)) (rx1 : R32 x1) (hck : μ x0 (-2) = 1) (h1 : Cond.methodLink RJ4 index yJ5_append_c97b9 ∈ bigL) (hR : 5 ≤ R.frames ∧ 114 ≤ R.locals) (hl : ls.size = nL) (hcat : RC rest 8) (hf : cells + 1 ≤ R.cells ∧ slots + 200 ≤ R.slots) (hdg : decode cc pc = .ok (.invokespecial index, 3)) (kk : True → ∀ (H1 : Heap) (locs1 : List Loc), MS E μ1 s H1 locs1 → W p l e R s m args below meth c H1 locs1 (cells + 1) (slots + 200) Q (F0 m (pc + 3) ls (vr E v :: rest))) : W p l e R s m args below meth c H locs cells slots Q (F0 m pc ls (vi x1 :: vr E x0 :: rest)) := g_callSU C hM (c_J5_append_c97b9 l E N x0 x1 μ μ1 v hc rx1) hck h1 bw_5_35 bw_2_61 bw_3_238 bw_1_9 bw_3_239 ⟨by decide +kernel, hd_J5_append_c97b9.2.2⟩ hR rfl hl rfl hcat hf hdg kk
/-! J4_append_bf812 -/
def f_J4_append_bf812 (N : Nat) (x0 x1 : Int) (μ : Mm) : Rs :=
  ck (μ x0 (-2) = 1) <|
  ck ((1 : Int) ≤ 1 ∧ (200 : Int) ≤ 200) <|
  bd (f_J5_append_c97b9 N x0 x1 μ) fun a3 μ4 =>
  some (x0, μ4)
set_option maxHeartbeats 4000000 in
set_option maxRecDepth 100000 in
theorem c_J4_append_bf812 (l : Launch) (E : gE) (N : Nat) (x0 x1 : Int) (μ μ' : Mm) (r : Int) (h : f_J4_append_bf812 N x0 x1 μ = some (r, μ')) (rx1 : R32 x1) : gMet l E yJ4_append_bf812 cJ4_append_bf812 2 (some (.object "java/lang/StringBuilder")) 5 114 [vr E x0, vi x1] (some (vr E r)) True μ μ' 1 200 := by
  refine g_ofW [1, 1] (by first | (simp only [List.map_cons, List.map_nil, vr_cat]; done) | (simp only [List.map_cons, List.map_nil, vr_cat]; rfl)) (by decide) (by decide) (fun p e s m below meth c ls C hM hl => ?_)
  replace C : gCx p s m _ meth c cJ4_append_bf812 2 (some (.object "java/lang/StringBuilder")) "append" RJ4 := C
  replace hl : lv_has ls 2 [(0, vr E x0), (1, vi x1)] := hl
  unfold f_J4_append_bf812 at h
  have hb : ((0 : Nat) : Int) + 1 ≤ 1 ∧ (0 : Int) ≤ 1 ∧ ((0 : Nat) : Int) + 200 ≤ 200 ∧ (0 : Int) ≤ 200 := by decide
  refine m_aload_n (pc := 0) C dJ4_append_bf812_0 rfl (lv_at hl 0 rfl) ?_
  refine m_iload_n (pc := 1) C dJ4_append_bf812_1 rfl (lv_at hl 1 rfl) ?_
  obtain ⟨q1, h⟩ := ck_some h
  obtain ⟨q2, h⟩ := ck_some h
  obtain ⟨a3, μ4, ca3, h⟩ := bd_some h
  refine VS_J5_append_c97b9 (pc := 2) C hM ca3 rx1 q1 bw_3_237 ⟨Nat.le_of_ble_eq_true rfl, Nat.le_of_ble_eq_true rfl⟩ hl.1 rc0 ⟨by show _ + 1 ≤ 1; omega, by show _ + 200 ≤ 200; omega⟩ dJ4_append_bf812_2 (fun _ H locs hM => ?_)
  replace hb : ((0 + 1 : Nat) : Int) + (1 - 1) ≤ 1 ∧ (0 : Int) ≤ 1 - 1 ∧ ((0 + 200 : Nat) : Int) + (200 - 200) ≤ 200 ∧ (0 : Int) ≤ 200 - 200 := by omega
  refine m_pop (pc := 5) C (vr_cat _ _) dJ4_append_bf812_5 ?_
  refine m_aload_n (pc := 6) C dJ4_append_bf812_6 rfl (lv_at hl 0 rfl) ?_
  cases h
  refine W.widen (k := 1) (n := 200) (by omega) (by omega) ?_
  exact m_aret (pc := 7) C (Or.inl ⟨_, rfl⟩) hM trivial dJ4_append_bf812_7
theorem hd_J4_append_bf812 : yJ4_append_bf812.cls ≠ "java/lang/invoke/MethodHandle" ∧ yJ4_append_bf812.cls ≠ "java/lang/invoke/VarHandle" ∧ (parseMethodDescriptor yJ4_append_bf812.desc).map (fun d => d.parameters.length) = some 1 := by decide +kernel

theorem V_J4_append_bf812 {p : Program} {l : Launch} {e : Env} {R : Room} {s : State} {m : MethodId} {args : Array Value} {below : List Frame} {meth : Method} {c : Code} {H : Heap} {locs : List Loc} {cells slots : Nat} {Q : State → Prop} {cc : ByteArray} {pc nL : Nat} {ls : Array Slot} {rest : List Value} {ret : Option FieldType} {nmm own : String} {E : gE} {μ μ1 : Mm} {index : Nat} (C : gCx p s m args meth c cc nL ret nmm own) (hM : MS E μ s H locs) {N : Nat} {x0 x1 v : Int} (hc : f_J4_append_bf812 N x0 x1 μ = some (v, μ1)) (rx1 : R32 x1) (hck : μ x0 (-2) = 1) (h1 : Cond.methodLink own index yJ4_append_bf812 ∈ bigL) (hR : 6 ≤ R.frames ∧ 135 ≤ R.locals) (hl : ls.size = nL) (hcat : RC rest 8) (hf : cells + 1 ≤ R.cells ∧ slots + 200 ≤ R.slots) (hdg : decode cc pc = .ok (.invokevirtual index, 3)) (kk : True → ∀ (H1 : Heap) (locs1 : List Loc), MS E μ1 s H1 locs1 → W p l e R s m args below meth c H1 locs1 (cells + 1) (slots + 200) Q (F0 m (pc + 3) ls (vr E v :: rest))) : W p l e R s m args below meth c H locs cells slots Q (F0 m pc ls (vi x1 :: vr E x0 :: rest)) := g_callV C KF_J4 hM (c_J4_append_bf812 l E N x0 x1 μ μ1 v hc rx1) hck (gV h1 bw_3_234 bw_3_235 bw_1_10 bw_3_236) ⟨rfl, hd_J4_append_bf812⟩ hR rfl hl rfl hcat hf hdg kk
/-! X7_writeDocument -/
def f_X7_writeDocument (N : Nat) (x0 x1 x2 : Int) (μ : Mm) : Rs :=
  ck (μ x0 (-2) = 9) <|
  ck (μ (μ x0 5) (-2) = 1) <|
  ck ((1 : Int) ≤ 10 ∧ (200 : Int) ≤ 2000) <|
  bd (f_J4_setLength_d00df N (μ x0 5) 0 μ) fun a4 μ5 =>
  ck (μ5 x0 (-2) = 9) <|
  ck (μ5 (μ5 x0 5) (-2) = 1) <|
  ck ((1 : Int) ≤ (10 - 1) ∧ (200 : Int) ≤ (2000 - 200)) <|
  bd (f_J4_append_cf468 N (μ5 x0 5) 76 μ5) fun a9 μ10 =>
  ck (μ10 a9 (-2) = 1) <|
  ck ((1 : Int) ≤ (10 - 1 - 1) ∧ (200 : Int) ≤ (2000 - 200 - 200)) <|
  bd (f_J4_append_bf812 N a9 x1 μ10) fun a13 μ14 =>
  ck (μ14 x0 (-2) = 9) <|
  ck (μ14 (μ14 x0 5) (-2) = 1) <|
  ck ((1 : Int) ≤ (10 - 1 - 1 - 1) ∧ (200 : Int) ≤ (2000 - 200 - 200 - 200)) <|
  bd (f_J4_append_cf468 N (μ14 x0 5) 47 μ14) fun a18 μ19 =>
  ck (μ19 x2 (-2) = 4) <|
  ck (μ19 a18 (-2) = 1) <|
  ck ((1 : Int) ≤ (10 - 1 - 1 - 1 - 1) ∧ (200 : Int) ≤ (2000 - 200 - 200 - 200 - 200)) <|
  bd (f_J4_append_bf812 N a18 (μ19 x2 0) μ19) fun a23 μ24 =>
  ck (μ24 x0 (-2) = 9) <|
  ck (μ24 (μ24 x0 5) (-2) = 1) <|
  ck ((1 : Int) ≤ (10 - 1 - 1 - 1 - 1 - 1) ∧ (200 : Int) ≤ (2000 - 200 - 200 - 200 - 200 - 200)) <|
  bd (f_J4_append_cf468 N (μ24 x0 5) 58 μ24) fun a28 μ29 =>
  ck (μ29 x2 (-2) = 4) <|
  ck (μ29 a28 (-2) = 1) <|
  ck ((1 : Int) ≤ (10 - 1 - 1 - 1 - 1 - 1 - 1) ∧ (200 : Int) ≤ (2000 - 200 - 200 - 200 - 200 - 200 - 200)) <|
  bd (f_J4_append_bf812 N a28 (μ29 x2 7) μ29) fun a33 μ34 =>
  ck (μ34 x0 (-2) = 9) <|
  ck (μ34 (μ34 x0 5) (-2) = 1) <|
  ck ((1 : Int) ≤ (10 - 1 - 1 - 1 - 1 - 1 - 1 - 1) ∧ (200 : Int) ≤ (2000 - 200 - 200 - 200 - 200 - 200 - 200 - 200)) <|
  bd (f_J4_append_cf468 N (μ34 x0 5) 43 μ34) fun a38 μ39 =>
  ck (μ39 x0 (-2) = 9) <|
  ck (μ39 (μ39 x0 0) (-2) = 8) <|
  bd (f_X6_waitingUnitsOf N (μ39 x0 0) x1 μ39) fun a42 μ43 =>
  ck (μ43 a38 (-2) = 1) <|
  ck ((1 : Int) ≤ (10 - 1 - 1 - 1 - 1 - 1 - 1 - 1 - 1) ∧ (200 : Int) ≤ (2000 - 200 - 200 - 200 - 200 - 200 - 200 - 200 - 200)) <|
  bd (f_J4_append_bf812 N a38 a42 μ43) fun a46 μ47 =>
  ck (μ47 x0 (-2) = 9) <|
  ck (μ47 (μ47 x0 0) (-2) = 8) <|
  nm (w32 ((μ47 (μ47 x0 0) 8) + 7)) fun a50 =>
  nm (w32 (a50 + 1)) fun a51 =>
  ck (μ47 x2 (-2) = 4) <|
  bd (f_X2_endsBefore N x2 a51 μ47) fun a53 μ54 =>
  if ¬ a53 = 0 then
    (ck (μ54 x0 (-2) = 9) <|
     ck (μ54 (μ54 x0 5) (-2) = 1) <|
     ck ((1 : Int) ≤ (10 - 1 - 1 - 1 - 1 - 1 - 1 - 1 - 1 - 1) ∧ (200 : Int) ≤ (2000 - 200 - 200 - 200 - 200 - 200 - 200 - 200 - 200 - 200)) <|
     bd (f_J4_append_cf468 N (μ54 x0 5) 33 μ54) fun a59 μ60 =>
     some (0, μ60))
  else
  ck (μ54 x0 (-2) = 9) <|
  ck (μ54 (μ54 x0 0) (-2) = 8) <|
  bd (f_X6_hasExportEndingBefore N (μ54 x0 0) x1 a51 μ54) fun a63 μ64 =>
  if a63 = 0 then
    (some (0, μ64))
  else
  ck (μ64 x0 (-2) = 9) <|
  ck (μ64 (μ64 x0 5) (-2) = 1) <|
  ck ((1 : Int) ≤ (10 - 1 - 1 - 1 - 1 - 1 - 1 - 1 - 1 - 1) ∧ (200 : Int) ≤ (2000 - 200 - 200 - 200 - 200 - 200 - 200 - 200 - 200 - 200)) <|
  bd (f_J4_append_cf468 N (μ64 x0 5) 33 μ64) fun a69 μ70 =>
  some (0, μ70)
set_option maxHeartbeats 4000000 in
set_option maxRecDepth 100000 in
theorem c_X7_writeDocument (l : Launch) (E : gE) (N : Nat) (x0 x1 x2 : Int) (μ μ' : Mm) (r : Int) (h : f_X7_writeDocument N x0 x1 x2 μ = some (r, μ')) (rx1 : R32 x1) : gMet l E yX7_writeDocument cX7_writeDocument 4 none 6 135 [vr E x0, vi x1, vr E x2] none True μ μ' 10 2000 := by
  refine g_ofW [1, 1, 1] (by first | (simp only [List.map_cons, List.map_nil, vr_cat]; done) | (simp only [List.map_cons, List.map_nil, vr_cat]; rfl)) (by decide) (by decide) (fun p e s m below meth c ls C hM hl => ?_)
  replace C : gCx p s m _ meth c cX7_writeDocument 4 none "writeDocument" RX7 := C
  replace hl : lv_has ls 4 [(0, vr E x0), (1, vi x1), (2, vr E x2)] := hl
  unfold f_X7_writeDocument at h
  have hb : ((0 : Nat) : Int) + 10 ≤ 10 ∧ (0 : Int) ≤ 10 ∧ ((0 : Nat) : Int) + 2000 ≤ 2000 ∧ (0 : Int) ≤ 2000 := by decide
  refine m_aload_n (pc := 0) C dX7_writeDocument_0 rfl (lv_at hl 0 rfl) ?_
  obtain ⟨q1, h⟩ := ck_some h
  refine G_X7_document (pc := 1) C hM bw_2_68 q1 dX7_writeDocument_1 ?_
  refine m_iconst (pc := 4) C dX7_writeDocument_4 ?_
  obtain ⟨q2, h⟩ := ck_some h
  obtain ⟨q3, h⟩ := ck_some h
  obtain ⟨a4, μ5, ca4, h⟩ := bd_some h
  refine V_J4_setLength_d00df (pc := 5) C hM ca4 rk_0 q2 bw_3_120 ⟨Nat.le_of_ble_eq_true rfl, Nat.le_of_ble_eq_true rfl⟩ hl.1 rc0 ⟨by show _ + 1 ≤ 10; omega, by show _ + 200 ≤ 2000; omega⟩ dX7_writeDocument_5 (fun _ H locs hM => ?_)
  replace hb : ((0 + 1 : Nat) : Int) + (10 - 1) ≤ 10 ∧ (0 : Int) ≤ 10 - 1 ∧ ((0 + 200 : Nat) : Int) + (2000 - 200) ≤ 2000 ∧ (0 : Int) ≤ 2000 - 200 := by omega
  refine m_aload_n (pc := 8) C dX7_writeDocument_8 rfl (lv_at hl 0 rfl) ?_
  obtain ⟨q6, h⟩ := ck_some h
  refine G_X7_document (pc := 9) C hM bw_2_68 q6 dX7_writeDocument_9 ?_
  refine m_bipush (pc := 12) C dX7_writeDocument_12 rfl ?_
  obtain ⟨q7, h⟩ := ck_some h
  obtain ⟨q8, h⟩ := ck_some h
  obtain ⟨a9, μ10, ca9, h⟩ := bd_some h
  refine V_J4_append_cf468 (pc := 14) C hM ca9 rk_76 q7 bw_3_178 ⟨Nat.le_of_ble_eq_true rfl, Nat.le_of_ble_eq_true rfl⟩ hl.1 rc0 ⟨by show _ + 1 ≤ 10; omega, by show _ + 200 ≤ 2000; omega⟩ dX7_writeDocument_14 (fun _ H locs hM => ?_)
  replace hb : ((0 + 1 + 1 : Nat) : Int) + (10 - 1 - 1) ≤ 10 ∧ (0 : Int) ≤ 10 - 1 - 1 ∧ ((0 + 200 + 200 : Nat) : Int) + (2000 - 200 - 200) ≤ 2000 ∧ (0 : Int) ≤ 2000 - 200 - 200 := by omega
  refine m_iload_n (pc := 17) C dX7_writeDocument_17 rfl (lv_at hl 1 rfl) ?_
  obtain ⟨q11, h⟩ := ck_some h
  obtain ⟨q12, h⟩ := ck_some h
  obtain ⟨a13, μ14, ca13, h⟩ := bd_some h
  refine V_J4_append_bf812 (pc := 18) C hM ca13 rx1 q11 bw_3_233 ⟨Nat.le_of_ble_eq_true rfl, Nat.le_of_ble_eq_true rfl⟩ hl.1 rc0 ⟨by show _ + 1 ≤ 10; omega, by show _ + 200 ≤ 2000; omega⟩ dX7_writeDocument_18 (fun _ H locs hM => ?_)
  replace hb : ((0 + 1 + 1 + 1 : Nat) : Int) + (10 - 1 - 1 - 1) ≤ 10 ∧ (0 : Int) ≤ 10 - 1 - 1 - 1 ∧ ((0 + 200 + 200 + 200 : Nat) : Int) + (2000 - 200 - 200 - 200) ≤ 2000 ∧ (0 : Int) ≤ 2000 - 200 - 200 - 200 := by omega
  refine m_pop (pc := 21) C (vr_cat _ _) dX7_writeDocument_21 ?_
  refine m_aload_n (pc := 22) C dX7_writeDocument_22 rfl (lv_at hl 0 rfl) ?_
  obtain ⟨q15, h⟩ := ck_some h
  refine G_X7_document (pc := 23) C hM bw_2_68 q15 dX7_writeDocument_23 ?_
  refine m_bipush (pc := 26) C dX7_writeDocument_26 rfl ?_
  obtain ⟨q16, h⟩ := ck_some h
  obtain ⟨q17, h⟩ := ck_some h
  obtain ⟨a18, μ19, ca18, h⟩ := bd_some h
  refine V_J4_append_cf468 (pc := 28) C hM ca18 rk_47 q16 bw_3_178 ⟨Nat.le_of_ble_eq_true rfl, Nat.le_of_ble_eq_true rfl⟩ hl.1 rc0 ⟨by show _ + 1 ≤ 10; omega, by show _ + 200 ≤ 2000; omega⟩ dX7_writeDocument_28 (fun _ H locs hM => ?_)
  replace hb : ((0 + 1 + 1 + 1 + 1 : Nat) : Int) + (10 - 1 - 1 - 1 - 1) ≤ 10 ∧ (0 : Int) ≤ 10 - 1 - 1 - 1 - 1 ∧ ((0 + 200 + 200 + 200 + 200 : Nat) : Int) + (2000 - 200 - 200 - 200 - 200) ≤ 2000 ∧ (0 : Int) ≤ 2000 - 200 - 200 - 200 - 200 := by omega
  refine m_aload_n (pc := 31) C dX7_writeDocument_31 rfl (lv_at hl 2 rfl) ?_
  obtain ⟨q20, h⟩ := ck_some h
  have gq20 := Gr_X2_owner hM q20
  refine G_X2_owner (pc := 32) C hM bw_1_100 q20 dX7_writeDocument_32 ?_
  obtain ⟨q21, h⟩ := ck_some h
  obtain ⟨q22, h⟩ := ck_some h
  obtain ⟨a23, μ24, ca23, h⟩ := bd_some h
  refine V_J4_append_bf812 (pc := 35) C hM ca23 gq20 q21 bw_3_233 ⟨Nat.le_of_ble_eq_true rfl, Nat.le_of_ble_eq_true rfl⟩ hl.1 rc0 ⟨by show _ + 1 ≤ 10; omega, by show _ + 200 ≤ 2000; omega⟩ dX7_writeDocument_35 (fun _ H locs hM => ?_)
  replace hb : ((0 + 1 + 1 + 1 + 1 + 1 : Nat) : Int) + (10 - 1 - 1 - 1 - 1 - 1) ≤ 10 ∧ (0 : Int) ≤ 10 - 1 - 1 - 1 - 1 - 1 ∧ ((0 + 200 + 200 + 200 + 200 + 200 : Nat) : Int) + (2000 - 200 - 200 - 200 - 200 - 200) ≤ 2000 ∧ (0 : Int) ≤ 2000 - 200 - 200 - 200 - 200 - 200 := by omega
  refine m_pop (pc := 38) C (vr_cat _ _) dX7_writeDocument_38 ?_
  refine m_aload_n (pc := 39) C dX7_writeDocument_39 rfl (lv_at hl 0 rfl) ?_
  obtain ⟨q25, h⟩ := ck_some h
  refine G_X7_document (pc := 40) C hM bw_2_68 q25 dX7_writeDocument_40 ?_
  refine m_bipush (pc := 43) C dX7_writeDocument_43 rfl ?_
  obtain ⟨q26, h⟩ := ck_some h
  obtain ⟨q27, h⟩ := ck_some h
  obtain ⟨a28, μ29, ca28, h⟩ := bd_some h
  refine V_J4_append_cf468 (pc := 45) C hM ca28 rk_58 q26 bw_3_178 ⟨Nat.le_of_ble_eq_true rfl, Nat.le_of_ble_eq_true rfl⟩ hl.1 rc0 ⟨by show _ + 1 ≤ 10; omega, by show _ + 200 ≤ 2000; omega⟩ dX7_writeDocument_45 (fun _ H locs hM => ?_)
  replace hb : ((0 + 1 + 1 + 1 + 1 + 1 + 1 : Nat) : Int) + (10 - 1 - 1 - 1 - 1 - 1 - 1) ≤ 10 ∧ (0 : Int) ≤ 10 - 1 - 1 - 1 - 1 - 1 - 1 ∧ ((0 + 200 + 200 + 200 + 200 + 200 + 200 : Nat) : Int) + (2000 - 200 - 200 - 200 - 200 - 200 - 200) ≤ 2000 ∧ (0 : Int) ≤ 2000 - 200 - 200 - 200 - 200 - 200 - 200 := by omega
  refine m_aload_n (pc := 48) C dX7_writeDocument_48 rfl (lv_at hl 2 rfl) ?_
  obtain ⟨q30, h⟩ := ck_some h
  have gq30 := Gr_X2_stored hM q30
  refine G_X2_stored (pc := 49) C hM bw_1_116 q30 dX7_writeDocument_49 ?_
  obtain ⟨q31, h⟩ := ck_some h
  obtain ⟨q32, h⟩ := ck_some h
  obtain ⟨a33, μ34, ca33, h⟩ := bd_some h
  refine V_J4_append_bf812 (pc := 52) C hM ca33 gq30 q31 bw_3_233 ⟨Nat.le_of_ble_eq_true rfl, Nat.le_of_ble_eq_true rfl⟩ hl.1 rc0 ⟨by show _ + 1 ≤ 10; omega, by show _ + 200 ≤ 2000; omega⟩ dX7_writeDocument_52 (fun _ H locs hM => ?_)
  replace hb : ((0 + 1 + 1 + 1 + 1 + 1 + 1 + 1 : Nat) : Int) + (10 - 1 - 1 - 1 - 1 - 1 - 1 - 1) ≤ 10 ∧ (0 : Int) ≤ 10 - 1 - 1 - 1 - 1 - 1 - 1 - 1 ∧ ((0 + 200 + 200 + 200 + 200 + 200 + 200 + 200 : Nat) : Int) + (2000 - 200 - 200 - 200 - 200 - 200 - 200 - 200) ≤ 2000 ∧ (0 : Int) ≤ 2000 - 200 - 200 - 200 - 200 - 200 - 200 - 200 := by omega
  refine m_pop (pc := 55) C (vr_cat _ _) dX7_writeDocument_55 ?_
  refine m_aload_n (pc := 56) C dX7_writeDocument_56 rfl (lv_at hl 0 rfl) ?_
  obtain ⟨q35, h⟩ := ck_some h
  refine G_X7_document (pc := 57) C hM bw_2_68 q35 dX7_writeDocument_57 ?_
  refine m_bipush (pc := 60) C dX7_writeDocument_60 rfl ?_
  obtain ⟨q36, h⟩ := ck_some h
  obtain ⟨q37, h⟩ := ck_some h
  obtain ⟨a38, μ39, ca38, h⟩ := bd_some h
  refine V_J4_append_cf468 (pc := 62) C hM ca38 rk_43 q36 bw_3_178 ⟨Nat.le_of_ble_eq_true rfl, Nat.le_of_ble_eq_true rfl⟩ hl.1 rc0 ⟨by show _ + 1 ≤ 10; omega, by show _ + 200 ≤ 2000; omega⟩ dX7_writeDocument_62 (fun _ H locs hM => ?_)
  replace hb : ((0 + 1 + 1 + 1 + 1 + 1 + 1 + 1 + 1 : Nat) : Int) + (10 - 1 - 1 - 1 - 1 - 1 - 1 - 1 - 1) ≤ 10 ∧ (0 : Int) ≤ 10 - 1 - 1 - 1 - 1 - 1 - 1 - 1 - 1 ∧ ((0 + 200 + 200 + 200 + 200 + 200 + 200 + 200 + 200 : Nat) : Int) + (2000 - 200 - 200 - 200 - 200 - 200 - 200 - 200 - 200) ≤ 2000 ∧ (0 : Int) ≤ 2000 - 200 - 200 - 200 - 200 - 200 - 200 - 200 - 200 := by omega
  refine m_aload_n (pc := 65) C dX7_writeDocument_65 rfl (lv_at hl 0 rfl) ?_
  obtain ⟨q40, h⟩ := ck_some h
  refine G_X7_now (pc := 66) C hM bw_2_63 q40 dX7_writeDocument_66 ?_
  refine m_iload_n (pc := 69) C dX7_writeDocument_69 rfl (lv_at hl 1 rfl) ?_
  obtain ⟨q41, h⟩ := ck_some h
  obtain ⟨a42, μ43, ca42, h⟩ := bd_some h
  refine V_X6_waitingUnitsOf (pc := 70) C hM ca42 rx1 q41 bw_3_59 ⟨Nat.le_of_ble_eq_true rfl, Nat.le_of_ble_eq_true rfl⟩ hl.1 (rcR rc0) ⟨by show _ + 0 ≤ 10; omega, by show _ + 0 ≤ 2000; omega⟩ dX7_writeDocument_70 (fun ra42 H locs hM => ?_)
  obtain ⟨q44, h⟩ := ck_some h
  obtain ⟨q45, h⟩ := ck_some h
  obtain ⟨a46, μ47, ca46, h⟩ := bd_some h
  refine V_J4_append_bf812 (pc := 73) C hM ca46 ra42 q44 bw_3_233 ⟨Nat.le_of_ble_eq_true rfl, Nat.le_of_ble_eq_true rfl⟩ hl.1 rc0 ⟨by show _ + 1 ≤ 10; omega, by show _ + 200 ≤ 2000; omega⟩ dX7_writeDocument_73 (fun _ H locs hM => ?_)
  replace hb : ((0 + 1 + 1 + 1 + 1 + 1 + 1 + 1 + 1 + 1 : Nat) : Int) + (10 - 1 - 1 - 1 - 1 - 1 - 1 - 1 - 1 - 1) ≤ 10 ∧ (0 : Int) ≤ 10 - 1 - 1 - 1 - 1 - 1 - 1 - 1 - 1 - 1 ∧ ((0 + 200 + 200 + 200 + 200 + 200 + 200 + 200 + 200 + 200 : Nat) : Int) + (2000 - 200 - 200 - 200 - 200 - 200 - 200 - 200 - 200 - 200) ≤ 2000 ∧ (0 : Int) ≤ 2000 - 200 - 200 - 200 - 200 - 200 - 200 - 200 - 200 - 200 := by omega
  refine m_pop (pc := 76) C (vr_cat _ _) dX7_writeDocument_76 ?_
  refine m_aload_n (pc := 77) C dX7_writeDocument_77 rfl (lv_at hl 0 rfl) ?_
  obtain ⟨q48, h⟩ := ck_some h
  refine G_X7_now (pc := 78) C hM bw_2_63 q48 dX7_writeDocument_78 ?_
  obtain ⟨q49, h⟩ := ck_some h
  have gq49 := Gr_X6_day hM q49
  refine G_X6_day (pc := 81) C hM bw_1_196 q49 dX7_writeDocument_81 ?_
  refine m_bipush (pc := 84) C dX7_writeDocument_84 rfl ?_
  obtain ⟨a50, ea50, h⟩ := nm_some h
  have ra50 : R32 a50 := by rw [ea50]; exact w32_R _
  refine m_iadd (pc := 86) C dX7_writeDocument_86 ea50 ?_
  refine m_iconst (pc := 87) C dX7_writeDocument_87 ?_
  obtain ⟨a51, ea51, h⟩ := nm_some h
  have ra51 : R32 a51 := by rw [ea51]; exact w32_R _
  refine m_iadd (pc := 88) C dX7_writeDocument_88 ea51 ?_
  refine m_istore_n (pc := 89) C dX7_writeDocument_89 rfl hl (by decide) (lvK1 0 rfl (Nat.ne_of_beq_eq_false rfl) (Nat.ne_of_beq_eq_false rfl) (lvK1 1 rfl (Nat.ne_of_beq_eq_false rfl) (Nat.ne_of_beq_eq_false rfl) (lvK2 2 rfl (Nat.ne_of_beq_eq_false rfl) (vr_cat _ _) lvK0))) (fun ls hl => ?_)
  refine m_aload_n (pc := 90) C dX7_writeDocument_90 rfl (lv_at hl 3 rfl) ?_
  refine m_iload_n (pc := 91) C dX7_writeDocument_91 rfl (lv_at hl 0 rfl) ?_
  obtain ⟨q52, h⟩ := ck_some h
  obtain ⟨a53, μ54, ca53, h⟩ := bd_some h
  refine V_X2_endsBefore (pc := 92) C hM ca53 ra51 q52 bw_2_234 ⟨Nat.le_of_ble_eq_true rfl, Nat.le_of_ble_eq_true rfl⟩ hl.1 rc0 ⟨by show _ + 0 ≤ 10; omega, by show _ + 0 ≤ 2000; omega⟩ dX7_writeDocument_92 (fun ra53 H locs hM => ?_)
  refine m_if_ne (tgt := 110) (pc := 95) C ra53 dX7_writeDocument_95 (by decide) (fun c55 => ?_) (fun c55 => ?_)
  · have h := if_t h c55
    refine m_aload_n (pc := 110) C dX7_writeDocument_110 rfl (lv_at hl 1 rfl) ?_
    obtain ⟨q56, h⟩ := ck_some h
    refine G_X7_document (pc := 111) C hM bw_2_68 q56 dX7_writeDocument_111 ?_
    refine m_bipush (pc := 114) C dX7_writeDocument_114 rfl ?_
    obtain ⟨q57, h⟩ := ck_some h
    obtain ⟨q58, h⟩ := ck_some h
    obtain ⟨a59, μ60, ca59, h⟩ := bd_some h
    refine V_J4_append_cf468 (pc := 116) C hM ca59 rk_33 q57 bw_3_178 ⟨Nat.le_of_ble_eq_true rfl, Nat.le_of_ble_eq_true rfl⟩ hl.1 rc0 ⟨by show _ + 1 ≤ 10; omega, by show _ + 200 ≤ 2000; omega⟩ dX7_writeDocument_116 (fun _ H locs hM => ?_)
    replace hb : ((0 + 1 + 1 + 1 + 1 + 1 + 1 + 1 + 1 + 1 + 1 : Nat) : Int) + (10 - 1 - 1 - 1 - 1 - 1 - 1 - 1 - 1 - 1 - 1) ≤ 10 ∧ (0 : Int) ≤ 10 - 1 - 1 - 1 - 1 - 1 - 1 - 1 - 1 - 1 - 1 ∧ ((0 + 200 + 200 + 200 + 200 + 200 + 200 + 200 + 200 + 200 + 200 : Nat) : Int) + (2000 - 200 - 200 - 200 - 200 - 200 - 200 - 200 - 200 - 200 - 200) ≤ 2000 ∧ (0 : Int) ≤ 2000 - 200 - 200 - 200 - 200 - 200 - 200 - 200 - 200 - 200 - 200 := by omega
    refine m_pop (pc := 119) C (vr_cat _ _) dX7_writeDocument_119 ?_
    cases h
    refine W.widen (k := 10) (n := 2000) (by omega) (by omega) ?_
    exact m_vret (pc := 120) C hM trivial dX7_writeDocument_120
  · have h := if_f h c55
    refine m_aload_n (pc := 98) C dX7_writeDocument_98 rfl (lv_at hl 1 rfl) ?_
    obtain ⟨q61, h⟩ := ck_some h
    refine G_X7_now (pc := 99) C hM bw_2_63 q61 dX7_writeDocument_99 ?_
    refine m_iload_n (pc := 102) C dX7_writeDocument_102 rfl (lv_at hl 2 rfl) ?_
    refine m_iload_n (pc := 103) C dX7_writeDocument_103 rfl (lv_at hl 0 rfl) ?_
    obtain ⟨q62, h⟩ := ck_some h
    obtain ⟨a63, μ64, ca63, h⟩ := bd_some h
    refine V_X6_hasExportEndingBefore (pc := 104) C hM ca63 rx1 ra51 q62 bw_4_27 ⟨Nat.le_of_ble_eq_true rfl, Nat.le_of_ble_eq_true rfl⟩ hl.1 rc0 ⟨by show _ + 0 ≤ 10; omega, by show _ + 0 ≤ 2000; omega⟩ dX7_writeDocument_104 (fun ra63 H locs hM => ?_)
    refine m_if_eq (tgt := 120) (pc := 107) C ra63 dX7_writeDocument_107 (by decide) (fun c65 => ?_) (fun c65 => ?_)
    · have h := if_t h c65
      cases h
      refine W.widen (k := 10) (n := 2000) (by omega) (by omega) ?_
      exact m_vret (pc := 120) C hM trivial dX7_writeDocument_120
    · have h := if_f h c65
      refine m_aload_n (pc := 110) C dX7_writeDocument_110 rfl (lv_at hl 1 rfl) ?_
      obtain ⟨q66, h⟩ := ck_some h
      refine G_X7_document (pc := 111) C hM bw_2_68 q66 dX7_writeDocument_111 ?_
      refine m_bipush (pc := 114) C dX7_writeDocument_114 rfl ?_
      obtain ⟨q67, h⟩ := ck_some h
      obtain ⟨q68, h⟩ := ck_some h
      obtain ⟨a69, μ70, ca69, h⟩ := bd_some h
      refine V_J4_append_cf468 (pc := 116) C hM ca69 rk_33 q67 bw_3_178 ⟨Nat.le_of_ble_eq_true rfl, Nat.le_of_ble_eq_true rfl⟩ hl.1 rc0 ⟨by show _ + 1 ≤ 10; omega, by show _ + 200 ≤ 2000; omega⟩ dX7_writeDocument_116 (fun _ H locs hM => ?_)
      replace hb : ((0 + 1 + 1 + 1 + 1 + 1 + 1 + 1 + 1 + 1 + 1 : Nat) : Int) + (10 - 1 - 1 - 1 - 1 - 1 - 1 - 1 - 1 - 1 - 1) ≤ 10 ∧ (0 : Int) ≤ 10 - 1 - 1 - 1 - 1 - 1 - 1 - 1 - 1 - 1 - 1 ∧ ((0 + 200 + 200 + 200 + 200 + 200 + 200 + 200 + 200 + 200 + 200 : Nat) : Int) + (2000 - 200 - 200 - 200 - 200 - 200 - 200 - 200 - 200 - 200 - 200) ≤ 2000 ∧ (0 : Int) ≤ 2000 - 200 - 200 - 200 - 200 - 200 - 200 - 200 - 200 - 200 - 200 := by omega
      refine m_pop (pc := 119) C (vr_cat _ _) dX7_writeDocument_119 ?_
      cases h
      refine W.widen (k := 10) (n := 2000) (by omega) (by omega) ?_
      exact m_vret (pc := 120) C hM trivial dX7_writeDocument_120
theorem hd_X7_writeDocument : yX7_writeDocument.cls ≠ "java/lang/invoke/MethodHandle" ∧ yX7_writeDocument.cls ≠ "java/lang/invoke/VarHandle" ∧ (parseMethodDescriptor yX7_writeDocument.desc).map (fun d => d.parameters.length) = some 2 := by decide +kernel

theorem V_X7_writeDocument {p : Program} {l : Launch} {e : Env} {R : Room} {s : State} {m : MethodId} {args : Array Value} {below : List Frame} {meth : Method} {c : Code} {H : Heap} {locs : List Loc} {cells slots : Nat} {Q : State → Prop} {cc : ByteArray} {pc nL : Nat} {ls : Array Slot} {rest : List Value} {ret : Option FieldType} {nmm own : String} {E : gE} {μ μ1 : Mm} {index : Nat} (C : gCx p s m args meth c cc nL ret nmm own) (hM : MS E μ s H locs) {N : Nat} {x0 x1 x2 v : Int} (hc : f_X7_writeDocument N x0 x1 x2 μ = some (v, μ1)) (rx1 : R32 x1) (hck : μ x0 (-2) = 9) (h1 : Cond.methodLink own index yX7_writeDocument ∈ bigL) (hR : 7 ≤ R.frames ∧ 158 ≤ R.locals) (hl : ls.size = nL) (hcat : RC rest 8) (hf : cells + 10 ≤ R.cells ∧ slots + 2000 ≤ R.slots) (hdg : decode cc pc = .ok (.invokevirtual index, 3)) (kk : True → ∀ (H1 : Heap) (locs1 : List Loc), MS E μ1 s H1 locs1 → W p l e R s m args below meth c H1 locs1 (cells + 10) (slots + 2000) Q (F0 m (pc + 3) ls rest)) : W p l e R s m args below meth c H locs cells slots Q (F0 m pc ls (vr E x2 :: vi x1 :: vr E x0 :: rest)) := g_callV C KF_X7 hM (c_X7_writeDocument l E N x0 x1 x2 μ μ1 v hc rx1) hck (gV h1 bw_3_118 bs_6 bw_1_1 bw_3_119) ⟨rfl, hd_X7_writeDocument⟩ hR rfl hl rfl hcat hf hdg kk
end G08
