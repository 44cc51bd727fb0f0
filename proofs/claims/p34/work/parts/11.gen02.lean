section G02
variable {p : Program} {l : Launch} {e : Env} {R : Room} {s : State} {m : MethodId} {args : Array Value} {below : List Frame} {meth : Method} {c : Code} {E : gE}
/-! X3_wordBetween -/
def f_X3_wordBetween_b2 (N : Nat) : Nat → Int → Int → Int → Int → Mm → Rs
  | 0, _, _, _, _, _ => none
  | n + 1, x0, x1, x2, x3, μ =>
    if 8 ≤ x3 then
      (some ((-1), μ))
    else
    bd (f_X3_wordOf N x3 μ) fun a2 μ3 =>
    ck (μ3 x0 (-2) = 5) <|
    bd (f_X3_standsBetween N x0 x1 x2 a2 μ3) fun a5 μ6 =>
    if a5 = 0 then
      (nm (w32 (x3 + 1)) fun a8 =>
       f_X3_wordBetween_b2 N n x0 x1 x2 a8 μ6)
    else
    some (x3, μ6)
def f_X3_wordBetween (N : Nat) (x0 x1 x2 : Int) (μ : Mm) : Rs :=
  f_X3_wordBetween_b2 N N x0 x1 x2 0 μ
set_option maxHeartbeats 4000000 in
set_option maxRecDepth 100000 in
theorem k_X3_wordBetween_b2 (C : gCx p s m args meth c cX3_wordBetween 4 (some .int) "wordBetween" RX3) (N : Nat) {r : Int} {μ' : Mm} : ∀ (n : Nat), ∀ (x0 x1 x2 x3 : Int) (μ : Mm), f_X3_wordBetween_b2 N n x0 x1 x2 x3 μ = some (r, μ') → R32 x1 → R32 x2 → R32 x3 → ∀ (H : Heap) (locs : List Loc) (ls : Array Slot), MS E μ s H locs → lv_has ls 4 [(0, vr E x0), (1, vi x1), (2, vi x2), (3, vi x3)] → W p l e ({ frames := 5, cells := 0, slots := 0, locals := 109 } : Room) s m args below meth c H locs 0 0 (MQ below (gQ E (some (vi r)) (R32 r) μ') args s 0 0 (gA E)) (F0 m 2 ls []) := by
  intro n
  induction n with
  | zero => intro x0 x1 x2 x3 μ h; simp [f_X3_wordBetween_b2] at h
  | succ n ih =>
    intro x0 x1 x2 x3 μ h rx1 rx2 rx3 H locs ls hM hl
    rw [f_X3_wordBetween_b2] at h
    refine m_iload_n (pc := 2) C dX3_wordBetween_2 rfl (lv_at hl 3 rfl) ?_
    refine m_bipush (pc := 3) C dX3_wordBetween_3 rfl ?_
    refine m_icmp_ge (tgt := 29) (pc := 5) C rx3 rk_8 dX3_wordBetween_5 (by decide) (fun c1 => ?_) (fun c1 => ?_)
    · have h := if_t h c1
      refine m_iconst (pc := 29) C dX3_wordBetween_29 ?_
      cases h
      exact m_iret (pc := 30) C hM rk_m1 dX3_wordBetween_30
    · have h := if_f h c1
      refine m_aload_n (pc := 8) C dX3_wordBetween_8 rfl (lv_at hl 0 rfl) ?_
      refine m_iload_n (pc := 9) C dX3_wordBetween_9 rfl (lv_at hl 1 rfl) ?_
      refine m_iload_n (pc := 10) C dX3_wordBetween_10 rfl (lv_at hl 2 rfl) ?_
      refine m_iload_n (pc := 11) C dX3_wordBetween_11 rfl (lv_at hl 3 rfl) ?_
      obtain ⟨a2, μ3, ca2, h⟩ := bd_some h
      refine V_X3_wordOf (pc := 12) C hM ca2 rx3 bw_4_178 ⟨Nat.le_of_ble_eq_true rfl, Nat.le_of_ble_eq_true rfl⟩ hl.1 (rcI (rcI (rcR rc0))) ⟨Nat.le_refl _, Nat.le_refl _⟩ dX3_wordBetween_12 (fun _ H locs hM => ?_)
      obtain ⟨q4, h⟩ := ck_some h
      obtain ⟨a5, μ6, ca5, h⟩ := bd_some h
      refine V_X3_standsBetween (pc := 15) C hM ca5 rx1 rx2 q4 bw_4_189 ⟨Nat.le_of_ble_eq_true rfl, Nat.le_of_ble_eq_true rfl⟩ hl.1 rc0 ⟨Nat.le_refl _, Nat.le_refl _⟩ dX3_wordBetween_15 (fun ra5 H locs hM => ?_)
      refine m_if_eq (tgt := 23) (pc := 18) C ra5 dX3_wordBetween_18 (by decide) (fun c7 => ?_) (fun c7 => ?_)
      · have h := if_t h c7
        obtain ⟨a8, ea8, h⟩ := nm_some h
        have ra8 : R32 a8 := by rw [ea8]; exact w32_R _
        refine m_iinc (k := 3) (pc := 23) C dX3_wordBetween_23 hl rfl (by decide) ea8 (lvK1 0 rfl (Nat.ne_of_beq_eq_false rfl) (Nat.ne_of_beq_eq_false rfl) (lvK1 1 rfl (Nat.ne_of_beq_eq_false rfl) (Nat.ne_of_beq_eq_false rfl) (lvK2 2 rfl (Nat.ne_of_beq_eq_false rfl) rfl lvK0))) (fun ls hl => ?_)
        refine m_goto (tgt := 2) (pc := 26) C dX3_wordBetween_26 (by decide) ?_
        exact ih _ _ _ _ _ h rx1 rx2 ra8 _ _ _ hM (lv_sub hl [1, 2, 3, 0] rfl)
      · have h := if_f h c7
        refine m_iload_n (pc := 21) C dX3_wordBetween_21 rfl (lv_at hl 3 rfl) ?_
        cases h
        exact m_iret (pc := 22) C hM rx3 dX3_wordBetween_22
set_option maxHeartbeats 4000000 in
set_option maxRecDepth 100000 in
theorem c_X3_wordBetween (l : Launch) (E : gE) (N : Nat) (x0 x1 x2 : Int) (μ μ' : Mm) (r : Int) (h : f_X3_wordBetween N x0 x1 x2 μ = some (r, μ')) (rx1 : R32 x1) (rx2 : R32 x2) : gMet l E yX3_wordBetween cX3_wordBetween 4 (some .int) 5 109 [vr E x0, vi x1, vi x2] (some (vi r)) (R32 r) μ μ' 0 0 := by
  refine g_ofW [1, 1, 1] (by first | (simp only [List.map_cons, List.map_nil, vr_cat]; done) | (simp only [List.map_cons, List.map_nil, vr_cat]; rfl)) (by decide) (by decide) (fun p e s m below meth c ls C hM hl => ?_)
  replace C : gCx p s m _ meth c cX3_wordBetween 4 (some .int) "wordBetween" RX3 := C
  replace hl : lv_has ls 4 [(0, vr E x0), (1, vi x1), (2, vi x2)] := hl
  unfold f_X3_wordBetween at h
  refine m_iconst (pc := 0) C dX3_wordBetween_0 ?_
  refine m_istore_n (pc := 1) C dX3_wordBetween_1 rfl hl (by decide) (lvK1 0 rfl (Nat.ne_of_beq_eq_false rfl) (Nat.ne_of_beq_eq_false rfl) (lvK1 1 rfl (Nat.ne_of_beq_eq_false rfl) (Nat.ne_of_beq_eq_false rfl) (lvK2 2 rfl (Nat.ne_of_beq_eq_false rfl) rfl lvK0))) (fun ls hl => ?_)
  exact k_X3_wordBetween_b2 C N N _ _ _ _ _ h rx1 rx2 rk_0 _ _ _ hM (lv_sub hl [1, 2, 3, 0] rfl)
theorem hd_X3_wordBetween : yX3_wordBetween.cls ≠ "java/lang/invoke/MethodHandle" ∧ yX3_wordBetween.cls ≠ "java/lang/invoke/VarHandle" ∧ (parseMethodDescriptor yX3_wordBetween.desc).map (fun d => d.parameters.length) = some 2 := by decide +kernel

theorem V_X3_wordBetween {p : Program} {l : Launch} {e : Env} {R : Room} {s : State} {m : MethodId} {args : Array Value} {below : List Frame} {meth : Method} {c : Code} {H : Heap} {locs : List Loc} {cells slots : Nat} {Q : State → Prop} {cc : ByteArray} {pc nL : Nat} {ls : Array Slot} {rest : List Value} {ret : Option FieldType} {nmm own : String} {E : gE} {μ μ1 : Mm} {index : Nat} (C : gCx p s m args meth c cc nL ret nmm own) (hM : MS E μ s H locs) {N : Nat} {x0 x1 x2 v : Int} (hc : f_X3_wordBetween N x0 x1 x2 μ = some (v, μ1)) (rx1 : R32 x1) (rx2 : R32 x2) (hck : μ x0 (-2) = 5) (h1 : Cond.methodLink own index yX3_wordBetween ∈ bigL) (hR : 6 ≤ R.frames ∧ 132 ≤ R.locals) (hl : ls.size = nL) (hcat : RC rest 8) (hf : cells + 0 ≤ R.cells ∧ slots + 0 ≤ R.slots) (hdg : decode cc pc = .ok (.invokevirtual index, 3)) (kk : (R32 v) → ∀ (H1 : Heap) (locs1 : List Loc), MS E μ1 s H1 locs1 → W p l e R s m args below meth c H1 locs1 (cells + 0) (slots + 0) Q (F0 m (pc + 3) ls (vi v :: rest))) : W p l e R s m args below meth c H locs cells slots Q (F0 m pc ls (vi x2 :: vi x1 :: vr E x0 :: rest)) := g_callV C KF_X3 hM (c_X3_wordBetween l E N x0 x1 x2 μ μ1 v hc rx1 rx2) hck (gV h1 bw_4_176 bs_15 bw_1_8 bw_4_177) ⟨rfl, hd_X3_wordBetween⟩ hR rfl hl rfl hcat hf hdg kk
/-! X3_placesOf -/
def f_X3_placesOf_b48 (N : Nat) (μ : Mm) : Rs :=
  some ((-9), μ)
def f_X3_placesOf_b60 (N : Nat) (μ : Mm) : Rs :=
  some ((-13), μ)
def f_X3_placesOf_b51 (N : Nat) (μ : Mm) : Rs :=
  some ((-10), μ)
def f_X3_placesOf_b54 (N : Nat) (μ : Mm) : Rs :=
  some ((-11), μ)
def f_X3_placesOf_b57 (N : Nat) (μ : Mm) : Rs :=
  some ((-12), μ)
def f_X3_placesOf (N : Nat) (x0 : Int) (μ : Mm) : Rs :=
  if x0 = 0 then
    (f_X3_placesOf_b48 N μ)
  else
  if x0 = 1 then
    (f_X3_placesOf_b60 N μ)
  else
  if x0 = 2 then
    (f_X3_placesOf_b60 N μ)
  else
  if x0 = 3 then
    (f_X3_placesOf_b60 N μ)
  else
  if x0 = 4 then
    (f_X3_placesOf_b51 N μ)
  else
  if x0 = 5 then
    (f_X3_placesOf_b60 N μ)
  else
  if x0 = 6 then
    (f_X3_placesOf_b54 N μ)
  else
  if x0 = 7 then
    (f_X3_placesOf_b57 N μ)
  else
  f_X3_placesOf_b60 N μ
set_option maxHeartbeats 4000000 in
set_option maxRecDepth 100000 in
theorem k_X3_placesOf_b48 (C : gCx p s m args meth c cX3_placesOf 1 (some (.object "java/lang/String")) "placesOf" RX3) (N : Nat) {r : Int} {μ' : Mm} : ∀ (μ : Mm), f_X3_placesOf_b48 N μ = some (r, μ') → ∀ (H : Heap) (locs : List Loc) (ls : Array Slot), MS E μ s H locs → lv_has ls 1 [] → W p l e ({ frames := 0, cells := 0, slots := 0, locals := 0 } : Room) s m args below meth c H locs 0 0 (MQ below (gQ E (some (vr E r)) True μ') args s 0 0 (gA E)) (F0 m 48 ls []) := by
  intro μ h H locs ls hM hl
  unfold f_X3_placesOf_b48 at h
  refine m_ldcS (pc := 48) C hM 8 rfl (by decide) rfl dX3_placesOf_48 ?_
  cases h
  exact m_aret (pc := 50) C (Or.inl ⟨_, rfl⟩) hM trivial dX3_placesOf_50
set_option maxHeartbeats 4000000 in
set_option maxRecDepth 100000 in
theorem k_X3_placesOf_b60 (C : gCx p s m args meth c cX3_placesOf 1 (some (.object "java/lang/String")) "placesOf" RX3) (N : Nat) {r : Int} {μ' : Mm} : ∀ (μ : Mm), f_X3_placesOf_b60 N μ = some (r, μ') → ∀ (H : Heap) (locs : List Loc) (ls : Array Slot), MS E μ s H locs → lv_has ls 1 [] → W p l e ({ frames := 0, cells := 0, slots := 0, locals := 0 } : Room) s m args below meth c H locs 0 0 (MQ below (gQ E (some (vr E r)) True μ') args s 0 0 (gA E)) (F0 m 60 ls []) := by
  intro μ h H locs ls hM hl
  unfold f_X3_placesOf_b60 at h
  refine m_ldcS (pc := 60) C hM 12 rfl (by decide) rfl dX3_placesOf_60 ?_
  cases h
  exact m_aret (pc := 62) C (Or.inl ⟨_, rfl⟩) hM trivial dX3_placesOf_62
set_option maxHeartbeats 4000000 in
set_option maxRecDepth 100000 in
theorem k_X3_placesOf_b51 (C : gCx p s m args meth c cX3_placesOf 1 (some (.object "java/lang/String")) "placesOf" RX3) (N : Nat) {r : Int} {μ' : Mm} : ∀ (μ : Mm), f_X3_placesOf_b51 N μ = some (r, μ') → ∀ (H : Heap) (locs : List Loc) (ls : Array Slot), MS E μ s H locs → lv_has ls 1 [] → W p l e ({ frames := 0, cells := 0, slots := 0, locals := 0 } : Room) s m args below meth c H locs 0 0 (MQ below (gQ E (some (vr E r)) True μ') args s 0 0 (gA E)) (F0 m 51 ls []) := by
  intro μ h H locs ls hM hl
  unfold f_X3_placesOf_b51 at h
  refine m_ldcS (pc := 51) C hM 9 rfl (by decide) rfl dX3_placesOf_51 ?_
  cases h
  exact m_aret (pc := 53) C (Or.inl ⟨_, rfl⟩) hM trivial dX3_placesOf_53
set_option maxHeartbeats 4000000 in
set_option maxRecDepth 100000 in
theorem k_X3_placesOf_b54 (C : gCx p s m args meth c cX3_placesOf 1 (some (.object "java/lang/String")) "placesOf" RX3) (N : Nat) {r : Int} {μ' : Mm} : ∀ (μ : Mm), f_X3_placesOf_b54 N μ = some (r, μ') → ∀ (H : Heap) (locs : List Loc) (ls : Array Slot), MS E μ s H locs → lv_has ls 1 [] → W p l e ({ frames := 0, cells := 0, slots := 0, locals := 0 } : Room) s m args below meth c H locs 0 0 (MQ below (gQ E (some (vr E r)) True μ') args s 0 0 (gA E)) (F0 m 54 ls []) := by
  intro μ h H locs ls hM hl
  unfold f_X3_placesOf_b54 at h
  refine m_ldcS (pc := 54) C hM 10 rfl (by decide) rfl dX3_placesOf_54 ?_
  cases h
  exact m_aret (pc := 56) C (Or.inl ⟨_, rfl⟩) hM trivial dX3_placesOf_56
set_option maxHeartbeats 4000000 in
set_option maxRecDepth 100000 in
theorem k_X3_placesOf_b57 (C : gCx p s m args meth c cX3_placesOf 1 (some (.object "java/lang/String")) "placesOf" RX3) (N : Nat) {r : Int} {μ' : Mm} : ∀ (μ : Mm), f_X3_placesOf_b57 N μ = some (r, μ') → ∀ (H : Heap) (locs : List Loc) (ls : Array Slot), MS E μ s H locs → lv_has ls 1 [] → W p l e ({ frames := 0, cells := 0, slots := 0, locals := 0 } : Room) s m args below meth c H locs 0 0 (MQ below (gQ E (some (vr E r)) True μ') args s 0 0 (gA E)) (F0 m 57 ls []) := by
  intro μ h H locs ls hM hl
  unfold f_X3_placesOf_b57 at h
  refine m_ldcS (pc := 57) C hM 11 rfl (by decide) rfl dX3_placesOf_57 ?_
  cases h
  exact m_aret (pc := 59) C (Or.inl ⟨_, rfl⟩) hM trivial dX3_placesOf_59
set_option maxHeartbeats 4000000 in
set_option maxRecDepth 100000 in
theorem c_X3_placesOf (l : Launch) (E : gE) (N : Nat) (x0 : Int) (μ μ' : Mm) (r : Int) (h : f_X3_placesOf N x0 μ = some (r, μ')) (rx0 : R32 x0) : gMet l E yX3_placesOf cX3_placesOf 1 (some (.object "java/lang/String")) 0 0 [vi x0] (some (vr E r)) True μ μ' 0 0 := by
  refine g_ofW [1] rfl (by decide) (by decide) (fun p e s m below meth c ls C hM hl => ?_)
  replace C : gCx p s m _ meth c cX3_placesOf 1 (some (.object "java/lang/String")) "placesOf" RX3 := C
  replace hl : lv_has ls 1 [(0, vi x0)] := hl
  unfold f_X3_placesOf at h
  refine m_iload_n (pc := 0) C dX3_placesOf_0 rfl (lv_at hl 0 rfl) ?_
  by_cases c1 : x0 = 0
  · have h := if_t h c1
    refine m_tab (pc := 1) (tgt := 48) C rx0 c1 dX3_placesOf_1 (by decide) (by decide) rfl (by decide) ?_
    exact k_X3_placesOf_b48 C N _ h _ _ _ hM (lv_sub hl [] rfl)
  replace h := if_f h c1
  by_cases c2 : x0 = 1
  · have h := if_t h c2
    refine m_tab (pc := 1) (tgt := 60) C rx0 c2 dX3_placesOf_1 (by decide) (by decide) rfl (by decide) ?_
    exact k_X3_placesOf_b60 C N _ h _ _ _ hM (lv_sub hl [] rfl)
  replace h := if_f h c2
  by_cases c3 : x0 = 2
  · have h := if_t h c3
    refine m_tab (pc := 1) (tgt := 60) C rx0 c3 dX3_placesOf_1 (by decide) (by decide) rfl (by decide) ?_
    exact k_X3_placesOf_b60 C N _ h _ _ _ hM (lv_sub hl [] rfl)
  replace h := if_f h c3
  by_cases c4 : x0 = 3
  · have h := if_t h c4
    refine m_tab (pc := 1) (tgt := 60) C rx0 c4 dX3_placesOf_1 (by decide) (by decide) rfl (by decide) ?_
    exact k_X3_placesOf_b60 C N _ h _ _ _ hM (lv_sub hl [] rfl)
  replace h := if_f h c4
  by_cases c5 : x0 = 4
  · have h := if_t h c5
    refine m_tab (pc := 1) (tgt := 51) C rx0 c5 dX3_placesOf_1 (by decide) (by decide) rfl (by decide) ?_
    exact k_X3_placesOf_b51 C N _ h _ _ _ hM (lv_sub hl [] rfl)
  replace h := if_f h c5
  by_cases c6 : x0 = 5
  · have h := if_t h c6
    refine m_tab (pc := 1) (tgt := 60) C rx0 c6 dX3_placesOf_1 (by decide) (by decide) rfl (by decide) ?_
    exact k_X3_placesOf_b60 C N _ h _ _ _ hM (lv_sub hl [] rfl)
  replace h := if_f h c6
  by_cases c7 : x0 = 6
  · have h := if_t h c7
    refine m_tab (pc := 1) (tgt := 54) C rx0 c7 dX3_placesOf_1 (by decide) (by decide) rfl (by decide) ?_
    exact k_X3_placesOf_b54 C N _ h _ _ _ hM (lv_sub hl [] rfl)
  replace h := if_f h c7
  by_cases c8 : x0 = 7
  · have h := if_t h c8
    refine m_tab (pc := 1) (tgt := 57) C rx0 c8 dX3_placesOf_1 (by decide) (by decide) rfl (by decide) ?_
    exact k_X3_placesOf_b57 C N _ h _ _ _ hM (lv_sub hl [] rfl)
  replace h := if_f h c8
  refine m_tabD (pc := 1) (tgt := 60) C rx0 dX3_placesOf_1 (by omega) (by decide) ?_
  exact k_X3_placesOf_b60 C N _ h _ _ _ hM (lv_sub hl [] rfl)
theorem hd_X3_placesOf : yX3_placesOf.cls ≠ "java/lang/invoke/MethodHandle" ∧ yX3_placesOf.cls ≠ "java/lang/invoke/VarHandle" ∧ (parseMethodDescriptor yX3_placesOf.desc).map (fun d => d.parameters.length) = some 1 := by decide +kernel

theorem V_X3_placesOf {p : Program} {l : Launch} {e : Env} {R : Room} {s : State} {m : MethodId} {args : Array Value} {below : List Frame} {meth : Method} {c : Code} {H : Heap} {locs : List Loc} {cells slots : Nat} {Q : State → Prop} {cc : ByteArray} {pc nL : Nat} {ls : Array Slot} {rest : List Value} {ret : Option FieldType} {nmm own : String} {E : gE} {μ μ1 : Mm} {index : Nat} (C : gCx p s m args meth c cc nL ret nmm own) (hM : MS E μ s H locs) {N : Nat} {x0 v : Int} (hc : f_X3_placesOf N x0 μ = some (v, μ1)) (rx0 : R32 x0) (h1 : Cond.methodLink own index yX3_placesOf ∈ bigL) (hR : 1 ≤ R.frames ∧ 20 ≤ R.locals) (hl : ls.size = nL) (hcat : RC rest 8) (hf : cells + 0 ≤ R.cells ∧ slots + 0 ≤ R.slots) (hdg : decode cc pc = .ok (.invokestatic index, 3)) (kk : True → ∀ (H1 : Heap) (locs1 : List Loc), MS E μ1 s H1 locs1 → W p l e R s m args below meth c H1 locs1 (cells + 0) (slots + 0) Q (F0 m (pc + 3) ls (vr E v :: rest))) : W p l e R s m args below meth c H locs cells slots Q (F0 m pc ls (vi x0 :: rest)) := g_callS C hM (c_X3_placesOf l E N x0 μ μ1 v hc rx0) (gS h1 bw_4_219 bw_1_8 bw_4_220) hd_X3_placesOf hR rfl hl rfl hcat hf hdg kk
/-! X3_atEnd -/
def f_X3_atEnd (N : Nat) (x0 : Int) (μ : Mm) : Rs :=
  ck (μ x0 (-2) = 5) <|
  ck (μ x0 (-2) = 5) <|
  if (μ x0 2) < (μ x0 1) then
    (some (0, μ))
  else
  some (1, μ)
set_option maxHeartbeats 4000000 in
set_option maxRecDepth 100000 in
theorem c_X3_atEnd (l : Launch) (E : gE) (N : Nat) (x0 : Int) (μ μ' : Mm) (r : Int) (h : f_X3_atEnd N x0 μ = some (r, μ')) : gMet l E yX3_atEnd cX3_atEnd 1 (some .boolean) 0 0 [vr E x0] (some (vi r)) (R32 r) μ μ' 0 0 := by
  refine g_ofW [1] (by first | (simp only [List.map_cons, List.map_nil, vr_cat]; done) | (simp only [List.map_cons, List.map_nil, vr_cat]; rfl)) (by decide) (by decide) (fun p e s m below meth c ls C hM hl => ?_)
  replace C : gCx p s m _ meth c cX3_atEnd 1 (some .boolean) "atEnd" RX3 := C
  replace hl : lv_has ls 1 [(0, vr E x0)] := hl
  unfold f_X3_atEnd at h
  refine m_aload_n (pc := 0) C dX3_atEnd_0 rfl (lv_at hl 0 rfl) ?_
  obtain ⟨q1, h⟩ := ck_some h
  have gq1 := Gr_X3_position hM q1
  refine G_X3_position (pc := 1) C hM bw_2_13 q1 dX3_atEnd_1 ?_
  refine m_aload_n (pc := 4) C dX3_atEnd_4 rfl (lv_at hl 0 rfl) ?_
  obtain ⟨q2, h⟩ := ck_some h
  have gq2 := Gr_X3_length hM q2
  refine G_X3_length (pc := 5) C hM bw_2_11 q2 dX3_atEnd_5 ?_
  refine m_icmp_lt (tgt := 15) (pc := 8) C gq1 gq2 dX3_atEnd_8 (by decide) (fun c3 => ?_) (fun c3 => ?_)
  · have h := if_t h c3
    refine m_iconst (pc := 15) C dX3_atEnd_15 ?_
    cases h
    exact m_zret (pc := 16) C rfl hM rk_0 dX3_atEnd_16
  · have h := if_f h c3
    refine m_iconst (pc := 11) C dX3_atEnd_11 ?_
    refine m_goto (tgt := 16) (pc := 12) C dX3_atEnd_12 (by decide) ?_
    cases h
    exact m_zret (pc := 16) C rfl hM rk_1 dX3_atEnd_16
theorem hd_X3_atEnd : yX3_atEnd.cls ≠ "java/lang/invoke/MethodHandle" ∧ yX3_atEnd.cls ≠ "java/lang/invoke/VarHandle" ∧ (parseMethodDescriptor yX3_atEnd.desc).map (fun d => d.parameters.length) = some 0 := by decide +kernel

theorem V_X3_atEnd {p : Program} {l : Launch} {e : Env} {R : Room} {s : State} {m : MethodId} {args : Array Value} {below : List Frame} {meth : Method} {c : Code} {H : Heap} {locs : List Loc} {cells slots : Nat} {Q : State → Prop} {cc : ByteArray} {pc nL : Nat} {ls : Array Slot} {rest : List Value} {ret : Option FieldType} {nmm own : String} {E : gE} {μ μ1 : Mm} {index : Nat} (C : gCx p s m args meth c cc nL ret nmm own) (hM : MS E μ s H locs) {N : Nat} {x0 v : Int} (hc : f_X3_atEnd N x0 μ = some (v, μ1)) (hck : μ x0 (-2) = 5) (h1 : Cond.methodLink own index yX3_atEnd ∈ bigL) (hR : 1 ≤ R.frames ∧ 20 ≤ R.locals) (hl : ls.size = nL) (hcat : RC rest 8) (hf : cells + 0 ≤ R.cells ∧ slots + 0 ≤ R.slots) (hdg : decode cc pc = .ok (.invokevirtual index, 3)) (kk : (R32 v) → ∀ (H1 : Heap) (locs1 : List Loc), MS E μ1 s H1 locs1 → W p l e R s m args below meth c H1 locs1 (cells + 0) (slots + 0) Q (F0 m (pc + 3) ls (vi v :: rest))) : W p l e R s m args below meth c H locs cells slots Q (F0 m pc ls (vr E x0 :: rest)) := g_callV C KF_X3 hM (c_X3_atEnd l E N x0 μ μ1 v hc) hck (gV h1 bw_4_227 bw_4_228 bw_1_8 bw_4_229) ⟨rfl, hd_X3_atEnd⟩ hR rfl hl rfl hcat hf hdg kk
/-! X3_leastAt -/
def f_X3_leastAt (N : Nat) (x0 : Int) (μ : Mm) : Rs :=
  if x0 = 81 then
    (some (1, μ))
  else
  if ¬ x0 = 78 then
    (some (0, μ))
  else
  some (1, μ)
set_option maxHeartbeats 4000000 in
set_option maxRecDepth 100000 in
theorem c_X3_leastAt (l : Launch) (E : gE) (N : Nat) (x0 : Int) (μ μ' : Mm) (r : Int) (h : f_X3_leastAt N x0 μ = some (r, μ')) (rx0 : R32 x0) : gMet l E yX3_leastAt cX3_leastAt 1 (some .int) 0 0 [vi x0] (some (vi r)) (R32 r) μ μ' 0 0 := by
  refine g_ofW [1] rfl (by decide) (by decide) (fun p e s m below meth c ls C hM hl => ?_)
  replace C : gCx p s m _ meth c cX3_leastAt 1 (some .int) "leastAt" RX3 := C
  replace hl : lv_has ls 1 [(0, vi x0)] := hl
  unfold f_X3_leastAt at h
  refine m_iload_n (pc := 0) C dX3_leastAt_0 rfl (lv_at hl 0 rfl) ?_
  refine m_bipush (pc := 1) C dX3_leastAt_1 rfl ?_
  refine m_icmp_eq (tgt := 12) (pc := 3) C rx0 rk_81 dX3_leastAt_3 (by decide) (fun c1 => ?_) (fun c1 => ?_)
  · have h := if_t h c1
    refine m_iconst (pc := 12) C dX3_leastAt_12 ?_
    refine m_goto (tgt := 17) (pc := 13) C dX3_leastAt_13 (by decide) ?_
    cases h
    exact m_iret (pc := 17) C hM rk_1 dX3_leastAt_17
  · have h := if_f h c1
    refine m_iload_n (pc := 6) C dX3_leastAt_6 rfl (lv_at hl 0 rfl) ?_
    refine m_bipush (pc := 7) C dX3_leastAt_7 rfl ?_
    refine m_icmp_ne (tgt := 16) (pc := 9) C rx0 rk_78 dX3_leastAt_9 (by decide) (fun c2 => ?_) (fun c2 => ?_)
    · have h := if_t h c2
      refine m_iconst (pc := 16) C dX3_leastAt_16 ?_
      cases h
      exact m_iret (pc := 17) C hM rk_0 dX3_leastAt_17
    · have h := if_f h c2
      refine m_iconst (pc := 12) C dX3_leastAt_12 ?_
      refine m_goto (tgt := 17) (pc := 13) C dX3_leastAt_13 (by decide) ?_
      cases h
      exact m_iret (pc := 17) C hM rk_1 dX3_leastAt_17
theorem hd_X3_leastAt : yX3_leastAt.cls ≠ "java/lang/invoke/MethodHandle" ∧ yX3_leastAt.cls ≠ "java/lang/invoke/VarHandle" ∧ (parseMethodDescriptor yX3_leastAt.desc).map (fun d => d.parameters.length) = some 1 := by decide +kernel

theorem V_X3_leastAt {p : Program} {l : Launch} {e : Env} {R : Room} {s : State} {m : MethodId} {args : Array Value} {below : List Frame} {meth : Method} {c : Code} {H : Heap} {locs : List Loc} {cells slots : Nat} {Q : State → Prop} {cc : ByteArray} {pc nL : Nat} {ls : Array Slot} {rest : List Value} {ret : Option FieldType} {nmm own : String} {E : gE} {μ μ1 : Mm} {index : Nat} (C : gCx p s m args meth c cc nL ret nmm own) (hM : MS E μ s H locs) {N : Nat} {x0 v : Int} (hc : f_X3_leastAt N x0 μ = some (v, μ1)) (rx0 : R32 x0) (h1 : Cond.methodLink own index yX3_leastAt ∈ bigL) (hR : 1 ≤ R.frames ∧ 20 ≤ R.locals) (hl : ls.size = nL) (hcat : RC rest 8) (hf : cells + 0 ≤ R.cells ∧ slots + 0 ≤ R.slots) (hdg : decode cc pc = .ok (.invokestatic index, 3)) (kk : (R32 v) → ∀ (H1 : Heap) (locs1 : List Loc), MS E μ1 s H1 locs1 → W p l e R s m args below meth c H1 locs1 (cells + 0) (slots + 0) Q (F0 m (pc + 3) ls (vi v :: rest))) : W p l e R s m args below meth c H locs cells slots Q (F0 m pc ls (vi x0 :: rest)) := g_callS C hM (c_X3_leastAt l E N x0 μ μ1 v hc rx0) (gS h1 bw_4_235 bw_1_8 bw_4_236) hd_X3_leastAt hR rfl hl rfl hcat hf hdg kk
/-! X3_mostAt -/
def f_X3_mostAt_b95 (N : Nat) (μ : Mm) : Rs :=
  some (29, μ)
def f_X3_mostAt_b104 (N : Nat) (μ : Mm) : Rs :=
  some (100, μ)
def f_X3_mostAt_b90 (N : Nat) (μ : Mm) : Rs :=
  some (5, μ)
def f_X3_mostAt_b92 (N : Nat) (μ : Mm) : Rs :=
  some (29, μ)
def f_X3_mostAt_b88 (N : Nat) (μ : Mm) : Rs :=
  some (4, μ)
def f_X3_mostAt_b98 (N : Nat) (μ : Mm) : Rs :=
  some (1000000, μ)
def f_X3_mostAt_b101 (N : Nat) (μ : Mm) : Rs :=
  some (10000000, μ)
def f_X3_mostAt (N : Nat) (x0 : Int) (μ : Mm) : Rs :=
  if x0 = 69 then
    (f_X3_mostAt_b95 N μ)
  else
  if x0 = 70 then
    (f_X3_mostAt_b104 N μ)
  else
  if x0 = 71 then
    (f_X3_mostAt_b104 N μ)
  else
  if x0 = 72 then
    (f_X3_mostAt_b104 N μ)
  else
  if x0 = 73 then
    (f_X3_mostAt_b104 N μ)
  else
  if x0 = 74 then
    (f_X3_mostAt_b104 N μ)
  else
  if x0 = 75 then
    (f_X3_mostAt_b90 N μ)
  else
  if x0 = 76 then
    (f_X3_mostAt_b92 N μ)
  else
  if x0 = 77 then
    (f_X3_mostAt_b104 N μ)
  else
  if x0 = 78 then
    (f_X3_mostAt_b104 N μ)
  else
  if x0 = 79 then
    (f_X3_mostAt_b88 N μ)
  else
  if x0 = 80 then
    (f_X3_mostAt_b104 N μ)
  else
  if x0 = 81 then
    (f_X3_mostAt_b98 N μ)
  else
  if x0 = 82 then
    (f_X3_mostAt_b104 N μ)
  else
  if x0 = 83 then
    (f_X3_mostAt_b104 N μ)
  else
  if x0 = 84 then
    (f_X3_mostAt_b104 N μ)
  else
  if x0 = 85 then
    (f_X3_mostAt_b104 N μ)
  else
  if x0 = 86 then
    (f_X3_mostAt_b101 N μ)
  else
  f_X3_mostAt_b104 N μ
set_option maxHeartbeats 4000000 in
set_option maxRecDepth 100000 in
theorem k_X3_mostAt_b95 (C : gCx p s m args meth c cX3_mostAt 1 (some .int) "mostAt" RX3) (N : Nat) {r : Int} {μ' : Mm} : ∀ (μ : Mm), f_X3_mostAt_b95 N μ = some (r, μ') → ∀ (H : Heap) (locs : List Loc) (ls : Array Slot), MS E μ s H locs → lv_has ls 1 [] → W p l e ({ frames := 0, cells := 0, slots := 0, locals := 0 } : Room) s m args below meth c H locs 0 0 (MQ below (gQ E (some (vi r)) (R32 r) μ') args s 0 0 (gA E)) (F0 m 95 ls []) := by
  intro μ h H locs ls hM hl
  unfold f_X3_mostAt_b95 at h
  refine m_bipush (pc := 95) C dX3_mostAt_95 rfl ?_
  cases h
  exact m_iret (pc := 97) C hM rk_29 dX3_mostAt_97
set_option maxHeartbeats 4000000 in
set_option maxRecDepth 100000 in
theorem k_X3_mostAt_b104 (C : gCx p s m args meth c cX3_mostAt 1 (some .int) "mostAt" RX3) (N : Nat) {r : Int} {μ' : Mm} : ∀ (μ : Mm), f_X3_mostAt_b104 N μ = some (r, μ') → ∀ (H : Heap) (locs : List Loc) (ls : Array Slot), MS E μ s H locs → lv_has ls 1 [] → W p l e ({ frames := 0, cells := 0, slots := 0, locals := 0 } : Room) s m args below meth c H locs 0 0 (MQ below (gQ E (some (vi r)) (R32 r) μ') args s 0 0 (gA E)) (F0 m 104 ls []) := by
  intro μ h H locs ls hM hl
  unfold f_X3_mostAt_b104 at h
  refine m_bipush (pc := 104) C dX3_mostAt_104 rfl ?_
  cases h
  exact m_iret (pc := 106) C hM rk_100 dX3_mostAt_106
set_option maxHeartbeats 4000000 in
set_option maxRecDepth 100000 in
theorem k_X3_mostAt_b90 (C : gCx p s m args meth c cX3_mostAt 1 (some .int) "mostAt" RX3) (N : Nat) {r : Int} {μ' : Mm} : ∀ (μ : Mm), f_X3_mostAt_b90 N μ = some (r, μ') → ∀ (H : Heap) (locs : List Loc) (ls : Array Slot), MS E μ s H locs → lv_has ls 1 [] → W p l e ({ frames := 0, cells := 0, slots := 0, locals := 0 } : Room) s m args below meth c H locs 0 0 (MQ below (gQ E (some (vi r)) (R32 r) μ') args s 0 0 (gA E)) (F0 m 90 ls []) := by
  intro μ h H locs ls hM hl
  unfold f_X3_mostAt_b90 at h
  refine m_iconst (pc := 90) C dX3_mostAt_90 ?_
  cases h
  exact m_iret (pc := 91) C hM rk_5 dX3_mostAt_91
set_option maxHeartbeats 4000000 in
set_option maxRecDepth 100000 in
theorem k_X3_mostAt_b92 (C : gCx p s m args meth c cX3_mostAt 1 (some .int) "mostAt" RX3) (N : Nat) {r : Int} {μ' : Mm} : ∀ (μ : Mm), f_X3_mostAt_b92 N μ = some (r, μ') → ∀ (H : Heap) (locs : List Loc) (ls : Array Slot), MS E μ s H locs → lv_has ls 1 [] → W p l e ({ frames := 0, cells := 0, slots := 0, locals := 0 } : Room) s m args below meth c H locs 0 0 (MQ below (gQ E (some (vi r)) (R32 r) μ') args s 0 0 (gA E)) (F0 m 92 ls []) := by
  intro μ h H locs ls hM hl
  unfold f_X3_mostAt_b92 at h
  refine m_bipush (pc := 92) C dX3_mostAt_92 rfl ?_
  cases h
  exact m_iret (pc := 94) C hM rk_29 dX3_mostAt_94
set_option maxHeartbeats 4000000 in
set_option maxRecDepth 100000 in
theorem k_X3_mostAt_b88 (C : gCx p s m args meth c cX3_mostAt 1 (some .int) "mostAt" RX3) (N : Nat) {r : Int} {μ' : Mm} : ∀ (μ : Mm), f_X3_mostAt_b88 N μ = some (r, μ') → ∀ (H : Heap) (locs : List Loc) (ls : Array Slot), MS E μ s H locs → lv_has ls 1 [] → W p l e ({ frames := 0, cells := 0, slots := 0, locals := 0 } : Room) s m args below meth c H locs 0 0 (MQ below (gQ E (some (vi r)) (R32 r) μ') args s 0 0 (gA E)) (F0 m 88 ls []) := by
  intro μ h H locs ls hM hl
  unfold f_X3_mostAt_b88 at h
  refine m_iconst (pc := 88) C dX3_mostAt_88 ?_
  cases h
  exact m_iret (pc := 89) C hM rk_4 dX3_mostAt_89
set_option maxHeartbeats 4000000 in
set_option maxRecDepth 100000 in
theorem k_X3_mostAt_b98 (C : gCx p s m args meth c cX3_mostAt 1 (some .int) "mostAt" RX3) (N : Nat) {r : Int} {μ' : Mm} : ∀ (μ : Mm), f_X3_mostAt_b98 N μ = some (r, μ') → ∀ (H : Heap) (locs : List Loc) (ls : Array Slot), MS E μ s H locs → lv_has ls 1 [] → W p l e ({ frames := 0, cells := 0, slots := 0, locals := 0 } : Room) s m args below meth c H locs 0 0 (MQ below (gQ E (some (vi r)) (R32 r) μ') args s 0 0 (gA E)) (F0 m 98 ls []) := by
  intro μ h H locs ls hM hl
  unfold f_X3_mostAt_b98 at h
  refine m_ldc (n := 1000000) (pc := 98) C bw_5_0 rfl dX3_mostAt_98 ?_
  cases h
  exact m_iret (pc := 100) C hM rk_1000000 dX3_mostAt_100
set_option maxHeartbeats 4000000 in
set_option maxRecDepth 100000 in
theorem k_X3_mostAt_b101 (C : gCx p s m args meth c cX3_mostAt 1 (some .int) "mostAt" RX3) (N : Nat) {r : Int} {μ' : Mm} : ∀ (μ : Mm), f_X3_mostAt_b101 N μ = some (r, μ') → ∀ (H : Heap) (locs : List Loc) (ls : Array Slot), MS E μ s H locs → lv_has ls 1 [] → W p l e ({ frames := 0, cells := 0, slots := 0, locals := 0 } : Room) s m args below meth c H locs 0 0 (MQ below (gQ E (some (vi r)) (R32 r) μ') args s 0 0 (gA E)) (F0 m 101 ls []) := by
  intro μ h H locs ls hM hl
  unfold f_X3_mostAt_b101 at h
  refine m_ldc (n := 10000000) (pc := 101) C bw_5_1 rfl dX3_mostAt_101 ?_
  cases h
  exact m_iret (pc := 103) C hM rk_10000000 dX3_mostAt_103
set_option maxHeartbeats 4000000 in
set_option maxRecDepth 100000 in
theorem c_X3_mostAt (l : Launch) (E : gE) (N : Nat) (x0 : Int) (μ μ' : Mm) (r : Int) (h : f_X3_mostAt N x0 μ = some (r, μ')) (rx0 : R32 x0) : gMet l E yX3_mostAt cX3_mostAt 1 (some .int) 0 0 [vi x0] (some (vi r)) (R32 r) μ μ' 0 0 := by
  refine g_ofW [1] rfl (by decide) (by decide) (fun p e s m below meth c ls C hM hl => ?_)
  replace C : gCx p s m _ meth c cX3_mostAt 1 (some .int) "mostAt" RX3 := C
  replace hl : lv_has ls 1 [(0, vi x0)] := hl
  unfold f_X3_mostAt at h
  refine m_iload_n (pc := 0) C dX3_mostAt_0 rfl (lv_at hl 0 rfl) ?_
  by_cases c1 : x0 = 69
  · have h := if_t h c1
    refine m_tab (pc := 1) (tgt := 95) C rx0 c1 dX3_mostAt_1 (by decide) (by decide) rfl (by decide) ?_
    exact k_X3_mostAt_b95 C N _ h _ _ _ hM (lv_sub hl [] rfl)
  replace h := if_f h c1
  by_cases c2 : x0 = 70
  · have h := if_t h c2
    refine m_tab (pc := 1) (tgt := 104) C rx0 c2 dX3_mostAt_1 (by decide) (by decide) rfl (by decide) ?_
    exact k_X3_mostAt_b104 C N _ h _ _ _ hM (lv_sub hl [] rfl)
  replace h := if_f h c2
  by_cases c3 : x0 = 71
  · have h := if_t h c3
    refine m_tab (pc := 1) (tgt := 104) C rx0 c3 dX3_mostAt_1 (by decide) (by decide) rfl (by decide) ?_
    exact k_X3_mostAt_b104 C N _ h _ _ _ hM (lv_sub hl [] rfl)
  replace h := if_f h c3
  by_cases c4 : x0 = 72
  · have h := if_t h c4
    refine m_tab (pc := 1) (tgt := 104) C rx0 c4 dX3_mostAt_1 (by decide) (by decide) rfl (by decide) ?_
    exact k_X3_mostAt_b104 C N _ h _ _ _ hM (lv_sub hl [] rfl)
  replace h := if_f h c4
  by_cases c5 : x0 = 73
  · have h := if_t h c5
    refine m_tab (pc := 1) (tgt := 104) C rx0 c5 dX3_mostAt_1 (by decide) (by decide) rfl (by decide) ?_
    exact k_X3_mostAt_b104 C N _ h _ _ _ hM (lv_sub hl [] rfl)
  replace h := if_f h c5
  by_cases c6 : x0 = 74
  · have h := if_t h c6
    refine m_tab (pc := 1) (tgt := 104) C rx0 c6 dX3_mostAt_1 (by decide) (by decide) rfl (by decide) ?_
    exact k_X3_mostAt_b104 C N _ h _ _ _ hM (lv_sub hl [] rfl)
  replace h := if_f h c6
  by_cases c7 : x0 = 75
  · have h := if_t h c7
    refine m_tab (pc := 1) (tgt := 90) C rx0 c7 dX3_mostAt_1 (by decide) (by decide) rfl (by decide) ?_
    exact k_X3_mostAt_b90 C N _ h _ _ _ hM (lv_sub hl [] rfl)
  replace h := if_f h c7
  by_cases c8 : x0 = 76
  · have h := if_t h c8
    refine m_tab (pc := 1) (tgt := 92) C rx0 c8 dX3_mostAt_1 (by decide) (by decide) rfl (by decide) ?_
    exact k_X3_mostAt_b92 C N _ h _ _ _ hM (lv_sub hl [] rfl)
  replace h := if_f h c8
  by_cases c9 : x0 = 77
  · have h := if_t h c9
    refine m_tab (pc := 1) (tgt := 104) C rx0 c9 dX3_mostAt_1 (by decide) (by decide) rfl (by decide) ?_
    exact k_X3_mostAt_b104 C N _ h _ _ _ hM (lv_sub hl [] rfl)
  replace h := if_f h c9
  by_cases c10 : x0 = 78
  · have h := if_t h c10
    refine m_tab (pc := 1) (tgt := 104) C rx0 c10 dX3_mostAt_1 (by decide) (by decide) rfl (by decide) ?_
    exact k_X3_mostAt_b104 C N _ h _ _ _ hM (lv_sub hl [] rfl)
  replace h := if_f h c10
  by_cases c11 : x0 = 79
  · have h := if_t h c11
    refine m_tab (pc := 1) (tgt := 88) C rx0 c11 dX3_mostAt_1 (by decide) (by decide) rfl (by decide) ?_
    exact k_X3_mostAt_b88 C N _ h _ _ _ hM (lv_sub hl [] rfl)
  replace h := if_f h c11
  by_cases c12 : x0 = 80
  · have h := if_t h c12
    refine m_tab (pc := 1) (tgt := 104) C rx0 c12 dX3_mostAt_1 (by decide) (by decide) rfl (by decide) ?_
    exact k_X3_mostAt_b104 C N _ h _ _ _ hM (lv_sub hl [] rfl)
  replace h := if_f h c12
  by_cases c13 : x0 = 81
  · have h := if_t h c13
    refine m_tab (pc := 1) (tgt := 98) C rx0 c13 dX3_mostAt_1 (by decide) (by decide) rfl (by decide) ?_
    exact k_X3_mostAt_b98 C N _ h _ _ _ hM (lv_sub hl [] rfl)
  replace h := if_f h c13
  by_cases c14 : x0 = 82
  · have h := if_t h c14
    refine m_tab (pc := 1) (tgt := 104) C rx0 c14 dX3_mostAt_1 (by decide) (by decide) rfl (by decide) ?_
    exact k_X3_mostAt_b104 C N _ h _ _ _ hM (lv_sub hl [] rfl)
  replace h := if_f h c14
  by_cases c15 : x0 = 83
  · have h := if_t h c15
    refine m_tab (pc := 1) (tgt := 104) C rx0 c15 dX3_mostAt_1 (by decide) (by decide) rfl (by decide) ?_
    exact k_X3_mostAt_b104 C N _ h _ _ _ hM (lv_sub hl [] rfl)
  replace h := if_f h c15
  by_cases c16 : x0 = 84
  · have h := if_t h c16
    refine m_tab (pc := 1) (tgt := 104) C rx0 c16 dX3_mostAt_1 (by decide) (by decide) rfl (by decide) ?_
    exact k_X3_mostAt_b104 C N _ h _ _ _ hM (lv_sub hl [] rfl)
  replace h := if_f h c16
  by_cases c17 : x0 = 85
  · have h := if_t h c17
    refine m_tab (pc := 1) (tgt := 104) C rx0 c17 dX3_mostAt_1 (by decide) (by decide) rfl (by decide) ?_
    exact k_X3_mostAt_b104 C N _ h _ _ _ hM (lv_sub hl [] rfl)
  replace h := if_f h c17
  by_cases c18 : x0 = 86
  · have h := if_t h c18
    refine m_tab (pc := 1) (tgt := 101) C rx0 c18 dX3_mostAt_1 (by decide) (by decide) rfl (by decide) ?_
    exact k_X3_mostAt_b101 C N _ h _ _ _ hM (lv_sub hl [] rfl)
  replace h := if_f h c18
  refine m_tabD (pc := 1) (tgt := 104) C rx0 dX3_mostAt_1 (by omega) (by decide) ?_
  exact k_X3_mostAt_b104 C N _ h _ _ _ hM (lv_sub hl [] rfl)
theorem hd_X3_mostAt : yX3_mostAt.cls ≠ "java/lang/invoke/MethodHandle" ∧ yX3_mostAt.cls ≠ "java/lang/invoke/VarHandle" ∧ (parseMethodDescriptor yX3_mostAt.desc).map (fun d => d.parameters.length) = some 1 := by decide +kernel

theorem V_X3_mostAt {p : Program} {l : Launch} {e : Env} {R : Room} {s : State} {m : MethodId} {args : Array Value} {below : List Frame} {meth : Method} {c : Code} {H : Heap} {locs : List Loc} {cells slots : Nat} {Q : State → Prop} {cc : ByteArray} {pc nL : Nat} {ls : Array Slot} {rest : List Value} {ret : Option FieldType} {nmm own : String} {E : gE} {μ μ1 : Mm} {index : Nat} (C : gCx p s m args meth c cc nL ret nmm own) (hM : MS E μ s H locs) {N : Nat} {x0 v : Int} (hc : f_X3_mostAt N x0 μ = some (v, μ1)) (rx0 : R32 x0) (h1 : Cond.methodLink own index yX3_mostAt ∈ bigL) (hR : 1 ≤ R.frames ∧ 20 ≤ R.locals) (hl : ls.size = nL) (hcat : RC rest 8) (hf : cells + 0 ≤ R.cells ∧ slots + 0 ≤ R.slots) (hdg : decode cc pc = .ok (.invokestatic index, 3)) (kk : (R32 v) → ∀ (H1 : Heap) (locs1 : List Loc), MS E μ1 s H1 locs1 → W p l e R s m args below meth c H1 locs1 (cells + 0) (slots + 0) Q (F0 m (pc + 3) ls (vi v :: rest))) : W p l e R s m args below meth c H locs cells slots Q (F0 m pc ls (vi x0 :: rest)) := g_callS C hM (c_X3_mostAt l E N x0 μ μ1 v hc rx0) (gS h1 bw_4_238 bw_1_8 bw_4_239) hd_X3_mostAt hR rfl hl rfl hcat hf hdg kk
/-! X7_outside -/
def f_X7_outside (N : Nat) (x0 x1 x2 : Int) (μ : Mm) : Rs :=
  if x0 < x1 then
    (some (1, μ))
  else
  if x0 ≤ x2 then
    (some (0, μ))
  else
  some (1, μ)
set_option maxHeartbeats 4000000 in
set_option maxRecDepth 100000 in
theorem c_X7_outside (l : Launch) (E : gE) (N : Nat) (x0 x1 x2 : Int) (μ μ' : Mm) (r : Int) (h : f_X7_outside N x0 x1 x2 μ = some (r, μ')) (rx0 : R32 x0) (rx1 : R32 x1) (rx2 : R32 x2) : gMet l E yX7_outside cX7_outside 3 (some .boolean) 0 0 [vi x0, vi x1, vi x2] (some (vi r)) (R32 r) μ μ' 0 0 := by
  refine g_ofW [1, 1, 1] rfl (by decide) (by decide) (fun p e s m below meth c ls C hM hl => ?_)
  replace C : gCx p s m _ meth c cX7_outside 3 (some .boolean) "outside" RX7 := C
  replace hl : lv_has ls 3 [(0, vi x0), (1, vi x1), (2, vi x2)] := hl
  unfold f_X7_outside at h
  refine m_iload_n (pc := 0) C dX7_outside_0 rfl (lv_at hl 0 rfl) ?_
  refine m_iload_n (pc := 1) C dX7_outside_1 rfl (lv_at hl 1 rfl) ?_
  refine m_icmp_lt (tgt := 10) (pc := 2) C rx0 rx1 dX7_outside_2 (by decide) (fun c1 => ?_) (fun c1 => ?_)
  · have h := if_t h c1
    refine m_iconst (pc := 10) C dX7_outside_10 ?_
    refine m_goto (tgt := 15) (pc := 11) C dX7_outside_11 (by decide) ?_
    cases h
    exact m_zret (pc := 15) C rfl hM rk_1 dX7_outside_15
  · have h := if_f h c1
    refine m_iload_n (pc := 5) C dX7_outside_5 rfl (lv_at hl 0 rfl) ?_
    refine m_iload_n (pc := 6) C dX7_outside_6 rfl (lv_at hl 2 rfl) ?_
    refine m_icmp_le (tgt := 14) (pc := 7) C rx0 rx2 dX7_outside_7 (by decide) (fun c2 => ?_) (fun c2 => ?_)
    · have h := if_t h c2
      refine m_iconst (pc := 14) C dX7_outside_14 ?_
      cases h
      exact m_zret (pc := 15) C rfl hM rk_0 dX7_outside_15
    · have h := if_f h c2
      refine m_iconst (pc := 10) C dX7_outside_10 ?_
      refine m_goto (tgt := 15) (pc := 11) C dX7_outside_11 (by decide) ?_
      cases h
      exact m_zret (pc := 15) C rfl hM rk_1 dX7_outside_15
theorem hd_X7_outside : yX7_outside.cls ≠ "java/lang/invoke/MethodHandle" ∧ yX7_outside.cls ≠ "java/lang/invoke/VarHandle" ∧ (parseMethodDescriptor yX7_outside.desc).map (fun d => d.parameters.length) = some 3 := by decide +kernel

theorem V_X7_outside {p : Program} {l : Launch} {e : Env} {R : Room} {s : State} {m : MethodId} {args : Array Value} {below : List Frame} {meth : Method} {c : Code} {H : Heap} {locs : List Loc} {cells slots : Nat} {Q : State → Prop} {cc : ByteArray} {pc nL : Nat} {ls : Array Slot} {rest : List Value} {ret : Option FieldType} {nmm own : String} {E : gE} {μ μ1 : Mm} {index : Nat} (C : gCx p s m args meth c cc nL ret nmm own) (hM : MS E μ s H locs) {N : Nat} {x0 x1 x2 v : Int} (hc : f_X7_outside N x0 x1 x2 μ = some (v, μ1)) (rx0 : R32 x0) (rx1 : R32 x1) (rx2 : R32 x2) (h1 : Cond.methodLink own index yX7_outside ∈ bigL) (hR : 1 ≤ R.frames ∧ 22 ≤ R.locals) (hl : ls.size = nL) (hcat : RC rest 8) (hf : cells + 0 ≤ R.cells ∧ slots + 0 ≤ R.slots) (hdg : decode cc pc = .ok (.invokestatic index, 3)) (kk : (R32 v) → ∀ (H1 : Heap) (locs1 : List Loc), MS E μ1 s H1 locs1 → W p l e R s m args below meth c H1 locs1 (cells + 0) (slots + 0) Q (F0 m (pc + 3) ls (vi v :: rest))) : W p l e R s m args below meth c H locs cells slots Q (F0 m pc ls (vi x2 :: vi x1 :: vi x0 :: rest)) := g_callS C hM (c_X7_outside l E N x0 x1 x2 μ μ1 v hc rx0 rx1 rx2) (gS h1 bw_2_90 bw_1_1 bw_2_91) hd_X7_outside hR rfl hl rfl hcat hf hdg kk
theorem VN4_X7_outside {p : Program} {l : Launch} {e : Env} {R : Room} {s : State} {m : MethodId} {args : Array Value} {below : List Frame} {meth : Method} {c : Code} {H : Heap} {locs : List Loc} {cells slots : Nat} {Q : State → Prop} {cc : ByteArray} {pc nL : Nat} {ls : Array Slot} {rest : List Value} {ret : Option FieldType} {nmm : String} {E : gE} {μ μ1 : Mm} (C : gCx p s m args meth c cc nL ret nmm RX3) (hM : MS E μ s H locs) {N : Nat} {x0 x1 x2 v : Int} (hc : f_X7_outside N x0 x1 x2 μ = some (v, μ1)) (rx0 : R32 x0) (rx1 : R32 x1) (rx2 : R32 x2) (hR : 1 ≤ R.frames ∧ 22 ≤ R.locals) (hl : ls.size = nL) (hcat : RC rest 8) (hf : cells + 0 ≤ R.cells ∧ slots + 0 ≤ R.slots) (hdg : decode cc pc = .ok (.invokestatic 81, 3)) (kk : (R32 v) → ∀ (H1 : Heap) (locs1 : List Loc), MS E μ1 s H1 locs1 → W p l e R s m args below meth c H1 locs1 (cells + 0) (slots + 0) Q (F0 m (pc + 3) ls (vi v :: rest))) : W p l e R s m args below meth c H locs cells slots Q (F0 m pc ls (vi x2 :: vi x1 :: vi x0 :: rest)) := g_callSN C hM (c_X7_outside l E N x0 x1 x2 μ μ1 v hc rx0 rx1 rx2) hM.1.1.2.2.2.2.2.1 bw_2_90 bw_1_1 bw_2_91 hd_X7_outside hR rfl hl rfl hcat hf hdg kk
/-! X3_numberBetween -/
def f_X3_numberBetween_b21 (N : Nat) : Nat → Int → Int → Int → Int → Int → Mm → Rs
  | 0, _, _, _, _, _, _ => none
  | n + 1, x0, x2, x3, x4, x5, μ =>
    if x2 ≤ x5 then
      (bd (f_X3_leastAt N x3 μ) fun a2 μ3 =>
       bd (f_X3_mostAt N x3 μ3) fun a4 μ5 =>
       bd (f_X7_outside N x4 a2 a4 μ5) fun a6 μ7 =>
       if a6 = 0 then
         (some (x4, μ7))
       else
       some ((-1), μ7))
    else
    ck (μ x0 (-2) = 5) <|
    ck (μ (μ x0 0) (-2) = 22 ∧ (0 : Int) ≤ x5 ∧ x5 < μ (μ x0 0) (-1)) <|
    if (μ (μ x0 0) x5) < 48 then
      (some ((-1), μ))
    else
    ck (μ x0 (-2) = 5) <|
    ck (μ (μ x0 0) (-2) = 22 ∧ (0 : Int) ≤ x5 ∧ x5 < μ (μ x0 0) (-1)) <|
    if (μ (μ x0 0) x5) ≤ 57 then
      (nm (w32 (x4 * 10)) fun a15 =>
       ck (μ x0 (-2) = 5) <|
       ck (μ (μ x0 0) (-2) = 22 ∧ (0 : Int) ≤ x5 ∧ x5 < μ (μ x0 0) (-1)) <|
       nm (w32 ((μ (μ x0 0) x5) - 48)) fun a18 =>
       nm (w32 (a15 + a18)) fun a19 =>
       nm (w32 (x5 + 1)) fun a20 =>
       f_X3_numberBetween_b21 N n x0 x2 x3 a19 a20 μ)
    else
    some ((-1), μ)
def f_X3_numberBetween (N : Nat) (x0 x1 x2 x3 : Int) (μ : Mm) : Rs :=
  if x2 ≤ x1 then
    (some ((-1), μ))
  else
  nm (w32 (x2 - x1)) fun a2 =>
  if a2 ≤ 8 then
    (f_X3_numberBetween_b21 N N x0 x2 x3 0 x1 μ)
  else
  some ((-1), μ)
set_option maxHeartbeats 4000000 in
set_option maxRecDepth 100000 in
theorem k_X3_numberBetween_b21 (C : gCx p s m args meth c cX3_numberBetween 6 (some .int) "numberBetween" RX3) (N : Nat) {r : Int} {μ' : Mm} : ∀ (n : Nat), ∀ (x0 x2 x3 x4 x5 : Int) (μ : Mm), f_X3_numberBetween_b21 N n x0 x2 x3 x4 x5 μ = some (r, μ') → R32 x2 → R32 x3 → R32 x4 → R32 x5 → ∀ (H : Heap) (locs : List Loc) (ls : Array Slot), MS E μ s H locs → lv_has ls 6 [(0, vr E x0), (2, vi x2), (3, vi x3), (4, vi x4), (5, vi x5)] → W p l e ({ frames := 1, cells := 0, slots := 0, locals := 22 } : Room) s m args below meth c H locs 0 0 (MQ below (gQ E (some (vi r)) (R32 r) μ') args s 0 0 (gA E)) (F0 m 21 ls []) := by
  intro n
  induction n with
  | zero => intro x0 x2 x3 x4 x5 μ h; simp [f_X3_numberBetween_b21] at h
  | succ n ih =>
    intro x0 x2 x3 x4 x5 μ h rx2 rx3 rx4 rx5 H locs ls hM hl
    rw [f_X3_numberBetween_b21] at h
    refine m_iload (pc := 21) C dX3_numberBetween_21 (lv_at hl 4 rfl) ?_
    refine m_iload_n (pc := 23) C dX3_numberBetween_23 rfl (lv_at hl 1 rfl) ?_
    refine m_icmp_ge (tgt := 77) (pc := 24) C rx5 rx2 dX3_numberBetween_24 (by decide) (fun c1 => ?_) (fun c1 => ?_)
    · have h := if_t h c1
      refine m_iload (pc := 77) C dX3_numberBetween_77 (lv_at hl 3 rfl) ?_
      refine m_iload_n (pc := 79) C dX3_numberBetween_79 rfl (lv_at hl 2 rfl) ?_
      obtain ⟨a2, μ3, ca2, h⟩ := bd_some h
      refine V_X3_leastAt (pc := 80) C hM ca2 rx3 bw_4_234 ⟨Nat.le_of_ble_eq_true rfl, Nat.le_of_ble_eq_true rfl⟩ hl.1 (rcI rc0) ⟨Nat.le_refl _, Nat.le_refl _⟩ dX3_numberBetween_80 (fun ra2 H locs hM => ?_)
      refine m_iload_n (pc := 83) C dX3_numberBetween_83 rfl (lv_at hl 2 rfl) ?_
      obtain ⟨a4, μ5, ca4, h⟩ := bd_some h
      refine V_X3_mostAt (pc := 84) C hM ca4 rx3 bw_4_237 ⟨Nat.le_of_ble_eq_true rfl, Nat.le_of_ble_eq_true rfl⟩ hl.1 (rcI (rcI rc0)) ⟨Nat.le_refl _, Nat.le_refl _⟩ dX3_numberBetween_84 (fun ra4 H locs hM => ?_)
      obtain ⟨a6, μ7, ca6, h⟩ := bd_some h
      refine VN4_X7_outside (pc := 87) C hM ca6 rx4 ra2 ra4 ⟨Nat.le_of_ble_eq_true rfl, Nat.le_of_ble_eq_true rfl⟩ hl.1 rc0 ⟨Nat.le_refl _, Nat.le_refl _⟩ dX3_numberBetween_87 (fun ra6 H locs hM => ?_)
      refine m_if_eq (tgt := 97) (pc := 90) C ra6 dX3_numberBetween_90 (by decide) (fun c8 => ?_) (fun c8 => ?_)
      · have h := if_t h c8
        refine m_iload (pc := 97) C dX3_numberBetween_97 (lv_at hl 3 rfl) ?_
        cases h
        exact m_iret (pc := 99) C hM rx4 dX3_numberBetween_99
      · have h := if_f h c8
        refine m_iconst (pc := 93) C dX3_numberBetween_93 ?_
        refine m_goto (tgt := 99) (pc := 94) C dX3_numberBetween_94 (by decide) ?_
        cases h
        exact m_iret (pc := 99) C hM rk_m1 dX3_numberBetween_99
    · have h := if_f h c1
      refine m_aload_n (pc := 27) C dX3_numberBetween_27 rfl (lv_at hl 0 rfl) ?_
      obtain ⟨q9, h⟩ := ck_some h
      refine G_X3_text (pc := 28) C hM bw_2_10 q9 dX3_numberBetween_28 ?_
      refine m_iload (pc := 31) C dX3_numberBetween_31 (lv_at hl 4 rfl) ?_
      obtain ⟨q10, h⟩ := ck_some h
      have gq10 := Ar_cald hM q10.1 q10.2.1 q10.2.2
      refine m_cald (pc := 33) C hM q10.1 q10.2.1 q10.2.2 dX3_numberBetween_33 ?_
      refine m_bipush (pc := 34) C dX3_numberBetween_34 rfl ?_
      refine m_icmp_lt (tgt := 51) (pc := 36) C gq10 rk_48 dX3_numberBetween_36 (by decide) (fun c11 => ?_) (fun c11 => ?_)
      · have h := if_t h c11
        refine m_iconst (pc := 51) C dX3_numberBetween_51 ?_
        cases h
        exact m_iret (pc := 52) C hM rk_m1 dX3_numberBetween_52
      · have h := if_f h c11
        refine m_aload_n (pc := 39) C dX3_numberBetween_39 rfl (lv_at hl 0 rfl) ?_
        obtain ⟨q12, h⟩ := ck_some h
        refine G_X3_text (pc := 40) C hM bw_2_10 q12 dX3_numberBetween_40 ?_
        refine m_iload (pc := 43) C dX3_numberBetween_43 (lv_at hl 4 rfl) ?_
        obtain ⟨q13, h⟩ := ck_some h
        have gq13 := Ar_cald hM q13.1 q13.2.1 q13.2.2
        refine m_cald (pc := 45) C hM q13.1 q13.2.1 q13.2.2 dX3_numberBetween_45 ?_
        refine m_bipush (pc := 46) C dX3_numberBetween_46 rfl ?_
        refine m_icmp_le (tgt := 53) (pc := 48) C gq13 rk_57 dX3_numberBetween_48 (by decide) (fun c14 => ?_) (fun c14 => ?_)
        · have h := if_t h c14
          refine m_iload (pc := 53) C dX3_numberBetween_53 (lv_at hl 3 rfl) ?_
          refine m_bipush (pc := 55) C dX3_numberBetween_55 rfl ?_
          obtain ⟨a15, ea15, h⟩ := nm_some h
          have ra15 : R32 a15 := by rw [ea15]; exact w32_R _
          refine m_imul (pc := 57) C dX3_numberBetween_57 ea15 ?_
          refine m_aload_n (pc := 58) C dX3_numberBetween_58 rfl (lv_at hl 0 rfl) ?_
          obtain ⟨q16, h⟩ := ck_some h
          refine G_X3_text (pc := 59) C hM bw_2_10 q16 dX3_numberBetween_59 ?_
          refine m_iload (pc := 62) C dX3_numberBetween_62 (lv_at hl 4 rfl) ?_
          obtain ⟨q17, h⟩ := ck_some h
          have gq17 := Ar_cald hM q17.1 q17.2.1 q17.2.2
          refine m_cald (pc := 64) C hM q17.1 q17.2.1 q17.2.2 dX3_numberBetween_64 ?_
          refine m_bipush (pc := 65) C dX3_numberBetween_65 rfl ?_
          obtain ⟨a18, ea18, h⟩ := nm_some h
          have ra18 : R32 a18 := by rw [ea18]; exact w32_R _
          refine m_isub (pc := 67) C dX3_numberBetween_67 ea18 ?_
          obtain ⟨a19, ea19, h⟩ := nm_some h
          have ra19 : R32 a19 := by rw [ea19]; exact w32_R _
          refine m_iadd (pc := 68) C dX3_numberBetween_68 ea19 ?_
          refine m_istore (pc := 69) C dX3_numberBetween_69 hl (by decide) (lvK1 0 rfl (Nat.ne_of_beq_eq_false rfl) (Nat.ne_of_beq_eq_false rfl) (lvK1 1 rfl (Nat.ne_of_beq_eq_false rfl) (Nat.ne_of_beq_eq_false rfl) (lvK2 2 rfl (Nat.ne_of_beq_eq_false rfl) rfl (lvK1 4 rfl (Nat.ne_of_beq_eq_false rfl) (Nat.ne_of_beq_eq_false rfl) lvK0)))) (fun ls hl => ?_)
          obtain ⟨a20, ea20, h⟩ := nm_some h
          have ra20 : R32 a20 := by rw [ea20]; exact w32_R _
          refine m_iinc (k := 4) (pc := 71) C dX3_numberBetween_71 hl rfl (by decide) ea20 (lvK2 0 rfl (Nat.ne_of_beq_eq_false rfl) rfl (lvK1 1 rfl (Nat.ne_of_beq_eq_false rfl) (Nat.ne_of_beq_eq_false rfl) (lvK1 2 rfl (Nat.ne_of_beq_eq_false rfl) (Nat.ne_of_beq_eq_false rfl) (lvK1 3 rfl (Nat.ne_of_beq_eq_false rfl) (Nat.ne_of_beq_eq_false rfl) lvK0)))) (fun ls hl => ?_)
          refine m_goto (tgt := 21) (pc := 74) C dX3_numberBetween_74 (by decide) ?_
          exact ih _ _ _ _ _ _ h rx2 rx3 ra19 ra20 _ _ _ hM (lv_sub hl [2, 3, 4, 1, 0] rfl)
        · have h := if_f h c14
          refine m_iconst (pc := 51) C dX3_numberBetween_51 ?_
          cases h
          exact m_iret (pc := 52) C hM rk_m1 dX3_numberBetween_52
set_option maxHeartbeats 4000000 in
set_option maxRecDepth 100000 in
theorem c_X3_numberBetween (l : Launch) (E : gE) (N : Nat) (x0 x1 x2 x3 : Int) (μ μ' : Mm) (r : Int) (h : f_X3_numberBetween N x0 x1 x2 x3 μ = some (r, μ')) (rx1 : R32 x1) (rx2 : R32 x2) (rx3 : R32 x3) : gMet l E yX3_numberBetween cX3_numberBetween 6 (some .int) 1 22 [vr E x0, vi x1, vi x2, vi x3] (some (vi r)) (R32 r) μ μ' 0 0 := by
  refine g_ofW [1, 1, 1, 1] (by first | (simp only [List.map_cons, List.map_nil, vr_cat]; done) | (simp only [List.map_cons, List.map_nil, vr_cat]; rfl)) (by decide) (by decide) (fun p e s m below meth c ls C hM hl => ?_)
  replace C : gCx p s m _ meth c cX3_numberBetween 6 (some .int) "numberBetween" RX3 := C
  replace hl : lv_has ls 6 [(0, vr E x0), (1, vi x1), (2, vi x2), (3, vi x3)] := hl
  unfold f_X3_numberBetween at h
  refine m_iload_n (pc := 0) C dX3_numberBetween_0 rfl (lv_at hl 2 rfl) ?_
  refine m_iload_n (pc := 1) C dX3_numberBetween_1 rfl (lv_at hl 1 rfl) ?_
  refine m_icmp_le (tgt := 13) (pc := 2) C rx2 rx1 dX3_numberBetween_2 (by decide) (fun c1 => ?_) (fun c1 => ?_)
  · have h := if_t h c1
    refine m_iconst (pc := 13) C dX3_numberBetween_13 ?_
    cases h
    exact m_iret (pc := 14) C hM rk_m1 dX3_numberBetween_14
  · have h := if_f h c1
    refine m_iload_n (pc := 5) C dX3_numberBetween_5 rfl (lv_at hl 2 rfl) ?_
    refine m_iload_n (pc := 6) C dX3_numberBetween_6 rfl (lv_at hl 1 rfl) ?_
    obtain ⟨a2, ea2, h⟩ := nm_some h
    have ra2 : R32 a2 := by rw [ea2]; exact w32_R _
    refine m_isub (pc := 7) C dX3_numberBetween_7 ea2 ?_
    refine m_bipush (pc := 8) C dX3_numberBetween_8 rfl ?_
    refine m_icmp_le (tgt := 15) (pc := 10) C ra2 rk_8 dX3_numberBetween_10 (by decide) (fun c3 => ?_) (fun c3 => ?_)
    · have h := if_t h c3
      refine m_iconst (pc := 15) C dX3_numberBetween_15 ?_
      refine m_istore (pc := 16) C dX3_numberBetween_16 hl (by decide) (lvK1 0 rfl (Nat.ne_of_beq_eq_false rfl) (Nat.ne_of_beq_eq_false rfl) (lvK1 1 rfl (Nat.ne_of_beq_eq_false rfl) (Nat.ne_of_beq_eq_false rfl) (lvK1 2 rfl (Nat.ne_of_beq_eq_false rfl) (Nat.ne_of_beq_eq_false rfl) (lvK2 3 rfl (Nat.ne_of_beq_eq_false rfl) rfl lvK0)))) (fun ls hl => ?_)
      refine m_iload_n (pc := 18) C dX3_numberBetween_18 rfl (lv_at hl 2 rfl) ?_
      refine m_istore (pc := 19) C dX3_numberBetween_19 hl (by decide) (lvK2 0 rfl (Nat.ne_of_beq_eq_false rfl) rfl (lvK1 1 rfl (Nat.ne_of_beq_eq_false rfl) (Nat.ne_of_beq_eq_false rfl) (lvK1 3 rfl (Nat.ne_of_beq_eq_false rfl) (Nat.ne_of_beq_eq_false rfl) (lvK1 4 rfl (Nat.ne_of_beq_eq_false rfl) (Nat.ne_of_beq_eq_false rfl) lvK0)))) (fun ls hl => ?_)
      exact k_X3_numberBetween_b21 C N N _ _ _ _ _ _ h rx2 rx3 rk_0 rx1 _ _ _ hM (lv_sub hl [2, 3, 4, 1, 0] rfl)
    · have h := if_f h c3
      refine m_iconst (pc := 13) C dX3_numberBetween_13 ?_
      cases h
      exact m_iret (pc := 14) C hM rk_m1 dX3_numberBetween_14
theorem hd_X3_numberBetween : yX3_numberBetween.cls ≠ "java/lang/invoke/MethodHandle" ∧ yX3_numberBetween.cls ≠ "java/lang/invoke/VarHandle" ∧ (parseMethodDescriptor yX3_numberBetween.desc).map (fun d => d.parameters.length) = some 3 := by decide +kernel

theorem V_X3_numberBetween {p : Program} {l : Launch} {e : Env} {R : Room} {s : State} {m : MethodId} {args : Array Value} {below : List Frame} {meth : Method} {c : Code} {H : Heap} {locs : List Loc} {cells slots : Nat} {Q : State → Prop} {cc : ByteArray} {pc nL : Nat} {ls : Array Slot} {rest : List Value} {ret : Option FieldType} {nmm own : String} {E : gE} {μ μ1 : Mm} {index : Nat} (C : gCx p s m args meth c cc nL ret nmm own) (hM : MS E μ s H locs) {N : Nat} {x0 x1 x2 x3 v : Int} (hc : f_X3_numberBetween N x0 x1 x2 x3 μ = some (v, μ1)) (rx1 : R32 x1) (rx2 : R32 x2) (rx3 : R32 x3) (hck : μ x0 (-2) = 5) (h1 : Cond.methodLink own index yX3_numberBetween ∈ bigL) (hR : 2 ≤ R.frames ∧ 47 ≤ R.locals) (hl : ls.size = nL) (hcat : RC rest 8) (hf : cells + 0 ≤ R.cells ∧ slots + 0 ≤ R.slots) (hdg : decode cc pc = .ok (.invokevirtual index, 3)) (kk : (R32 v) → ∀ (H1 : Heap) (locs1 : List Loc), MS E μ1 s H1 locs1 → W p l e R s m args below meth c H1 locs1 (cells + 0) (slots + 0) Q (F0 m (pc + 3) ls (vi v :: rest))) : W p l e R s m args below meth c H locs cells slots Q (F0 m pc ls (vi x3 :: vi x2 :: vi x1 :: vr E x0 :: rest)) := g_callV C KF_X3 hM (c_X3_numberBetween l E N x0 x1 x2 x3 μ μ1 v hc rx1 rx2 rx3) hck (gV h1 bw_4_232 bs_17 bw_1_8 bw_4_233) ⟨rfl, hd_X3_numberBetween⟩ hR rfl hl rfl hcat hf hdg kk
/-! X3_readOrder -/
def f_X3_readOrder_b145 (N : Nat) (x0 : Int) (μ : Mm) : Rs :=
  ck (μ x0 (-2) = 5) <|
  bd (f_X3_atEnd N x0 μ) fun a2 μ3 =>
  if ¬ a2 = 0 then
    (some (1, μ3))
  else
  ck (μ3 x0 (-2) = 5) <|
  ck (μ3 x0 (-2) = 5) <|
  ck (μ3 (μ3 x0 0) (-2) = 22 ∧ (0 : Int) ≤ (μ3 x0 2) ∧ (μ3 x0 2) < μ3 (μ3 x0 0) (-1)) <|
  if ¬ (μ3 (μ3 x0 0) (μ3 x0 2)) = 59 then
    (some (0, μ3))
  else
  some (1, μ3)
def f_X3_readOrder_b47 (N : Nat) : Nat → Int → Int → Int → Mm → Rs
  | 0, _, _, _, _ => none
  | n + 1, x0, x2, x3, μ =>
    ck (μ x2 (-2) = 11) <|
    bd (f_J0_length_8abf5 N x2 μ) fun a2 μ3 =>
    if a2 ≤ x3 then
      (f_X3_readOrder_b145 N x0 μ3)
    else
    if 4 ≤ x3 then
      (f_X3_readOrder_b145 N x0 μ3)
    else
    ck (μ3 x0 (-2) = 5) <|
    bd (f_X3_atEnd N x0 μ3) fun a7 μ8 =>
    if ¬ a7 = 0 then
      (some (0, μ8))
    else
    ck (μ8 x0 (-2) = 5) <|
    ck (μ8 x0 (-2) = 5) <|
    ck (μ8 (μ8 x0 0) (-2) = 22 ∧ (0 : Int) ≤ (μ8 x0 2) ∧ (μ8 x0 2) < μ8 (μ8 x0 0) (-1)) <|
    if (μ8 (μ8 x0 0) (μ8 x0 2)) = 32 then
      (ck (μ8 x0 (-2) = 5) <|
       nm (w32 ((μ8 x0 2) + 1)) fun a15 =>
       ck (μ8 x0 (-2) = 5) <|
       nm (mset μ8 x0 2 a15) fun μ17 =>
       ck (μ17 x0 (-2) = 5) <|
       ck (μ17 x0 (-2) = 5) <|
       bd (f_X3_endOfToken N x0 (μ17 x0 2) μ17) fun a20 μ21 =>
       ck (μ21 x0 (-2) = 5) <|
       ck (μ21 x0 (-2) = 5) <|
       ck (μ21 x2 (-2) = 11) <|
       bd (f_J0_charAt_5068e N x2 x3 μ21) fun a25 μ26 =>
       ck (μ26 x0 (-2) = 5) <|
       bd (f_X3_numberBetween N x0 (μ21 x0 2) a20 a25 μ26) fun a28 μ29 =>
       ck (μ29 (μ21 x0 4) (-2) = 23 ∧ (0 : Int) ≤ x3 ∧ x3 < μ29 (μ21 x0 4) (-1)) <|
       nm (mset μ29 (μ21 x0 4) x3 a28) fun μ31 =>
       ck (μ31 x0 (-2) = 5) <|
       ck (μ31 (μ31 x0 4) (-2) = 23 ∧ (0 : Int) ≤ x3 ∧ x3 < μ31 (μ31 x0 4) (-1)) <|
       if ¬ (μ31 (μ31 x0 4) x3) = ((-1)) then
         (ck (μ31 x0 (-2) = 5) <|
          nm (mset μ31 x0 2 a20) fun μ36 =>
          nm (w32 (x3 + 1)) fun a37 =>
          f_X3_readOrder_b47 N n x0 x2 a37 μ36)
       else
       some (0, μ31))
    else
    some (0, μ8)
def f_X3_readOrder (N : Nat) (x0 : Int) (μ : Mm) : Rs :=
  ck (μ x0 (-2) = 5) <|
  ck (μ x0 (-2) = 5) <|
  bd (f_X3_endOfToken N x0 (μ x0 2) μ) fun a3 μ4 =>
  ck (μ4 x0 (-2) = 5) <|
  ck (μ4 x0 (-2) = 5) <|
  bd (f_X3_wordBetween N x0 (μ4 x0 2) a3 μ4) fun a7 μ8 =>
  ck (μ8 x0 (-2) = 5) <|
  nm (mset μ8 x0 3 a7) fun μ10 =>
  ck (μ10 x0 (-2) = 5) <|
  if ¬ (μ10 x0 3) = ((-1)) then
    (ck (μ10 x0 (-2) = 5) <|
     nm (mset μ10 x0 2 a3) fun μ14 =>
     ck (μ14 x0 (-2) = 5) <|
     bd (f_X3_placesOf N (μ14 x0 3) μ14) fun a16 μ17 =>
     f_X3_readOrder_b47 N N x0 a16 0 μ17)
  else
  some (0, μ10)
set_option maxHeartbeats 4000000 in
set_option maxRecDepth 100000 in
theorem k_X3_readOrder_b145 (C : gCx p s m args meth c cX3_readOrder 4 (some .boolean) "readOrder" RX3) (N : Nat) {r : Int} {μ' : Mm} : ∀ (x0 : Int) (μ : Mm), f_X3_readOrder_b145 N x0 μ = some (r, μ') → ∀ (H : Heap) (locs : List Loc) (ls : Array Slot), MS E μ s H locs → lv_has ls 4 [(0, vr E x0)] → W p l e ({ frames := 6, cells := 0, slots := 0, locals := 132 } : Room) s m args below meth c H locs 0 0 (MQ below (gQ E (some (vi r)) (R32 r) μ') args s 0 0 (gA E)) (F0 m 145 ls []) := by
  intro x0 μ h H locs ls hM hl
  unfold f_X3_readOrder_b145 at h
  refine m_aload_n (pc := 145) C dX3_readOrder_145 rfl (lv_at hl 0 rfl) ?_
  obtain ⟨q1, h⟩ := ck_some h
  obtain ⟨a2, μ3, ca2, h⟩ := bd_some h
  refine V_X3_atEnd (pc := 146) C hM ca2 q1 bw_4_226 ⟨Nat.le_of_ble_eq_true rfl, Nat.le_of_ble_eq_true rfl⟩ hl.1 rc0 ⟨Nat.le_refl _, Nat.le_refl _⟩ dX3_readOrder_146 (fun ra2 H locs hM => ?_)
  refine m_if_ne (tgt := 166) (pc := 149) C ra2 dX3_readOrder_149 (by decide) (fun c4 => ?_) (fun c4 => ?_)
  · have h := if_t h c4
    refine m_iconst (pc := 166) C dX3_readOrder_166 ?_
    refine m_goto (tgt := 171) (pc := 167) C dX3_readOrder_167 (by decide) ?_
    cases h
    exact m_zret (pc := 171) C rfl hM rk_1 dX3_readOrder_171
  · have h := if_f h c4
    refine m_aload_n (pc := 152) C dX3_readOrder_152 rfl (lv_at hl 0 rfl) ?_
    obtain ⟨q5, h⟩ := ck_some h
    refine G_X3_text (pc := 153) C hM bw_2_10 q5 dX3_readOrder_153 ?_
    refine m_aload_n (pc := 156) C dX3_readOrder_156 rfl (lv_at hl 0 rfl) ?_
    obtain ⟨q6, h⟩ := ck_some h
    have gq6 := Gr_X3_position hM q6
    refine G_X3_position (pc := 157) C hM bw_2_13 q6 dX3_readOrder_157 ?_
    obtain ⟨q7, h⟩ := ck_some h
    have gq7 := Ar_cald hM q7.1 q7.2.1 q7.2.2
    refine m_cald (pc := 160) C hM q7.1 q7.2.1 q7.2.2 dX3_readOrder_160 ?_
    refine m_bipush (pc := 161) C dX3_readOrder_161 rfl ?_
    refine m_icmp_ne (tgt := 170) (pc := 163) C gq7 rk_59 dX3_readOrder_163 (by decide) (fun c8 => ?_) (fun c8 => ?_)
    · have h := if_t h c8
      refine m_iconst (pc := 170) C dX3_readOrder_170 ?_
      cases h
      exact m_zret (pc := 171) C rfl hM rk_0 dX3_readOrder_171
    · have h := if_f h c8
      refine m_iconst (pc := 166) C dX3_readOrder_166 ?_
      refine m_goto (tgt := 171) (pc := 167) C dX3_readOrder_167 (by decide) ?_
      cases h
      exact m_zret (pc := 171) C rfl hM rk_1 dX3_readOrder_171
set_option maxHeartbeats 4000000 in
set_option maxRecDepth 100000 in
theorem k_X3_readOrder_b47 (C : gCx p s m args meth c cX3_readOrder 4 (some .boolean) "readOrder" RX3) (N : Nat) {r : Int} {μ' : Mm} : ∀ (n : Nat), ∀ (x0 x2 x3 : Int) (μ : Mm), f_X3_readOrder_b47 N n x0 x2 x3 μ = some (r, μ') → R32 x3 → ∀ (H : Heap) (locs : List Loc) (ls : Array Slot), MS E μ s H locs → lv_has ls 4 [(0, vr E x0), (2, vr E x2), (3, vi x3)] → W p l e ({ frames := 6, cells := 0, slots := 0, locals := 132 } : Room) s m args below meth c H locs 0 0 (MQ below (gQ E (some (vi r)) (R32 r) μ') args s 0 0 (gA E)) (F0 m 47 ls []) := by
  intro n
  induction n with
  | zero => intro x0 x2 x3 μ h; simp [f_X3_readOrder_b47] at h
  | succ n ih =>
    intro x0 x2 x3 μ h rx3 H locs ls hM hl
    rw [f_X3_readOrder_b47] at h
    refine m_iload_n (pc := 47) C dX3_readOrder_47 rfl (lv_at hl 2 rfl) ?_
    refine m_aload_n (pc := 48) C dX3_readOrder_48 rfl (lv_at hl 1 rfl) ?_
    obtain ⟨q1, h⟩ := ck_some h
    obtain ⟨a2, μ3, ca2, h⟩ := bd_some h
    refine V_J0_length_8abf5 (pc := 49) C hM ca2 q1 bw_4_193 ⟨Nat.le_of_ble_eq_true rfl, Nat.le_of_ble_eq_true rfl⟩ hl.1 (rcI rc0) ⟨Nat.le_refl _, Nat.le_refl _⟩ dX3_readOrder_49 (fun ra2 H locs hM => ?_)
    refine m_icmp_ge (tgt := 145) (pc := 52) C rx3 ra2 dX3_readOrder_52 (by decide) (fun c4 => ?_) (fun c4 => ?_)
    · have h := if_t h c4
      exact k_X3_readOrder_b145 C N _ _ h _ _ _ hM (lv_sub hl [0] rfl)
    · have h := if_f h c4
      refine m_iload_n (pc := 55) C dX3_readOrder_55 rfl (lv_at hl 2 rfl) ?_
      refine m_iconst (pc := 56) C dX3_readOrder_56 ?_
      refine m_icmp_ge (tgt := 145) (pc := 57) C rx3 rk_4 dX3_readOrder_57 (by decide) (fun c5 => ?_) (fun c5 => ?_)
      · have h := if_t h c5
        exact k_X3_readOrder_b145 C N _ _ h _ _ _ hM (lv_sub hl [0] rfl)
      · have h := if_f h c5
        refine m_aload_n (pc := 60) C dX3_readOrder_60 rfl (lv_at hl 0 rfl) ?_
        obtain ⟨q6, h⟩ := ck_some h
        obtain ⟨a7, μ8, ca7, h⟩ := bd_some h
        refine V_X3_atEnd (pc := 61) C hM ca7 q6 bw_4_226 ⟨Nat.le_of_ble_eq_true rfl, Nat.le_of_ble_eq_true rfl⟩ hl.1 rc0 ⟨Nat.le_refl _, Nat.le_refl _⟩ dX3_readOrder_61 (fun ra7 H locs hM => ?_)
        refine m_if_ne (tgt := 81) (pc := 64) C ra7 dX3_readOrder_64 (by decide) (fun c9 => ?_) (fun c9 => ?_)
        · have h := if_t h c9
          refine m_iconst (pc := 81) C dX3_readOrder_81 ?_
          cases h
          exact m_zret (pc := 82) C rfl hM rk_0 dX3_readOrder_82
        · have h := if_f h c9
          refine m_aload_n (pc := 67) C dX3_readOrder_67 rfl (lv_at hl 0 rfl) ?_
          obtain ⟨q10, h⟩ := ck_some h
          refine G_X3_text (pc := 68) C hM bw_2_10 q10 dX3_readOrder_68 ?_
          refine m_aload_n (pc := 71) C dX3_readOrder_71 rfl (lv_at hl 0 rfl) ?_
          obtain ⟨q11, h⟩ := ck_some h
          have gq11 := Gr_X3_position hM q11
          refine G_X3_position (pc := 72) C hM bw_2_13 q11 dX3_readOrder_72 ?_
          obtain ⟨q12, h⟩ := ck_some h
          have gq12 := Ar_cald hM q12.1 q12.2.1 q12.2.2
          refine m_cald (pc := 75) C hM q12.1 q12.2.1 q12.2.2 dX3_readOrder_75 ?_
          refine m_bipush (pc := 76) C dX3_readOrder_76 rfl ?_
          refine m_icmp_eq (tgt := 83) (pc := 78) C gq12 rk_32 dX3_readOrder_78 (by decide) (fun c13 => ?_) (fun c13 => ?_)
          · have h := if_t h c13
            refine m_aload_n (pc := 83) C dX3_readOrder_83 rfl (lv_at hl 0 rfl) ?_
            refine m_dup (pc := 84) C (vr_cat _ _) dX3_readOrder_84 ?_
            obtain ⟨q14, h⟩ := ck_some h
            have gq14 := Gr_X3_position hM q14
            refine G_X3_position (pc := 85) C hM bw_2_13 q14 dX3_readOrder_85 ?_
            refine m_iconst (pc := 88) C dX3_readOrder_88 ?_
            obtain ⟨a15, ea15, h⟩ := nm_some h
            have ra15 : R32 a15 := by rw [ea15]; exact w32_R _
            refine m_iadd (pc := 89) C dX3_readOrder_89 ea15 ?_
            obtain ⟨q16, h⟩ := ck_some h
            obtain ⟨μ17, eμ17, h⟩ := nm_some h
            refine P_X3_position (pc := 90) C hM bw_2_13 q16 ra15 eμ17 dX3_readOrder_90 (fun H locs hM => ?_)
            refine m_aload_n (pc := 93) C dX3_readOrder_93 rfl (lv_at hl 0 rfl) ?_
            refine m_aload_n (pc := 94) C dX3_readOrder_94 rfl (lv_at hl 0 rfl) ?_
            obtain ⟨q18, h⟩ := ck_some h
            have gq18 := Gr_X3_position hM q18
            refine G_X3_position (pc := 95) C hM bw_2_13 q18 dX3_readOrder_95 ?_
            obtain ⟨q19, h⟩ := ck_some h
            obtain ⟨a20, μ21, ca20, h⟩ := bd_some h
            refine V_X3_endOfToken (pc := 98) C hM ca20 gq18 q19 bw_4_170 ⟨Nat.le_of_ble_eq_true rfl, Nat.le_of_ble_eq_true rfl⟩ hl.1 rc0 ⟨Nat.le_refl _, Nat.le_refl _⟩ dX3_readOrder_98 (fun ra20 H locs hM => ?_)
            refine m_istore_n (pc := 101) C dX3_readOrder_101 rfl hl (by decide) (lvK2 0 rfl (Nat.ne_of_beq_eq_false rfl) (vr_cat _ _) (lvK1 1 rfl (Nat.ne_of_beq_eq_false rfl) (Nat.ne_of_beq_eq_false rfl) (lvK1 2 rfl (Nat.ne_of_beq_eq_false rfl) (Nat.ne_of_beq_eq_false rfl) lvK0))) (fun ls hl => ?_)
            refine m_aload_n (pc := 102) C dX3_readOrder_102 rfl (lv_at hl 1 rfl) ?_
            obtain ⟨q22, h⟩ := ck_some h
            refine G_X3_numbers (pc := 103) C hM bw_2_16 q22 dX3_readOrder_103 ?_
            refine m_iload_n (pc := 106) C dX3_readOrder_106 rfl (lv_at hl 3 rfl) ?_
            refine m_aload_n (pc := 107) C dX3_readOrder_107 rfl (lv_at hl 1 rfl) ?_
            refine m_aload_n (pc := 108) C dX3_readOrder_108 rfl (lv_at hl 1 rfl) ?_
            obtain ⟨q23, h⟩ := ck_some h
            have gq23 := Gr_X3_position hM q23
            refine G_X3_position (pc := 109) C hM bw_2_13 q23 dX3_readOrder_109 ?_
            refine m_iload_n (pc := 112) C dX3_readOrder_112 rfl (lv_at hl 0 rfl) ?_
            refine m_aload_n (pc := 113) C dX3_readOrder_113 rfl (lv_at hl 2 rfl) ?_
            refine m_iload_n (pc := 114) C dX3_readOrder_114 rfl (lv_at hl 3 rfl) ?_
            obtain ⟨q24, h⟩ := ck_some h
            obtain ⟨a25, μ26, ca25, h⟩ := bd_some h
            refine V_J0_charAt_5068e (pc := 115) C hM ca25 rx3 q24 bw_4_202 ⟨Nat.le_of_ble_eq_true rfl, Nat.le_of_ble_eq_true rfl⟩ hl.1 (rcI (rcI (rcR (rcI (rcR rc0))))) ⟨Nat.le_refl _, Nat.le_refl _⟩ dX3_readOrder_115 (fun ra25 H locs hM => ?_)
            obtain ⟨q27, h⟩ := ck_some h
            obtain ⟨a28, μ29, ca28, h⟩ := bd_some h
            refine V_X3_numberBetween (pc := 118) C hM ca28 gq23 ra20 ra25 q27 bw_4_230 ⟨Nat.le_of_ble_eq_true rfl, Nat.le_of_ble_eq_true rfl⟩ hl.1 (rcI (rcR rc0)) ⟨Nat.le_refl _, Nat.le_refl _⟩ dX3_readOrder_118 (fun ra28 H locs hM => ?_)
            obtain ⟨q30, h⟩ := ck_some h
            obtain ⟨μ31, eμ31, h⟩ := nm_some h
            refine m_iast (pc := 121) C hM q30.1 q30.2.1  q30.2.2 ra28 eμ31 dX3_readOrder_121 (fun H locs hM => ?_)
            refine m_aload_n (pc := 122) C dX3_readOrder_122 rfl (lv_at hl 1 rfl) ?_
            obtain ⟨q32, h⟩ := ck_some h
            refine G_X3_numbers (pc := 123) C hM bw_2_16 q32 dX3_readOrder_123 ?_
            refine m_iload_n (pc := 126) C dX3_readOrder_126 rfl (lv_at hl 3 rfl) ?_
            obtain ⟨q33, h⟩ := ck_some h
            have gq33 := Ar_iald hM q33.1 q33.2.1 q33.2.2
            refine m_iald (pc := 127) C hM q33.1 q33.2.1 q33.2.2 dX3_readOrder_127 ?_
            refine m_iconst (pc := 128) C dX3_readOrder_128 ?_
            refine m_icmp_ne (tgt := 134) (pc := 129) C gq33 rk_m1 dX3_readOrder_129 (by decide) (fun c34 => ?_) (fun c34 => ?_)
            · have h := if_t h c34
              refine m_aload_n (pc := 134) C dX3_readOrder_134 rfl (lv_at hl 1 rfl) ?_
              refine m_iload_n (pc := 135) C dX3_readOrder_135 rfl (lv_at hl 0 rfl) ?_
              obtain ⟨q35, h⟩ := ck_some h
              obtain ⟨μ36, eμ36, h⟩ := nm_some h
              refine P_X3_position (pc := 136) C hM bw_2_13 q35 ra20 eμ36 dX3_readOrder_136 (fun H locs hM => ?_)
              obtain ⟨a37, ea37, h⟩ := nm_some h
              have ra37 : R32 a37 := by rw [ea37]; exact w32_R _
              refine m_iinc (k := 3) (pc := 139) C dX3_readOrder_139 hl rfl (by decide) ea37 (lvK1 1 rfl (Nat.ne_of_beq_eq_false rfl) (Nat.ne_of_beq_eq_false rfl) (lvK2 2 rfl (Nat.ne_of_beq_eq_false rfl) (vr_cat _ _) lvK0)) (fun ls hl => ?_)
              refine m_goto (tgt := 47) (pc := 142) C dX3_readOrder_142 (by decide) ?_
              exact ih _ _ _ _ h ra37 _ _ _ hM (lv_sub hl [1, 2, 0] rfl)
            · have h := if_f h c34
              refine m_iconst (pc := 132) C dX3_readOrder_132 ?_
              cases h
              exact m_zret (pc := 133) C rfl hM rk_0 dX3_readOrder_133
          · have h := if_f h c13
            refine m_iconst (pc := 81) C dX3_readOrder_81 ?_
            cases h
            exact m_zret (pc := 82) C rfl hM rk_0 dX3_readOrder_82
set_option maxHeartbeats 4000000 in
set_option maxRecDepth 100000 in
theorem c_X3_readOrder (l : Launch) (E : gE) (N : Nat) (x0 : Int) (μ μ' : Mm) (r : Int) (h : f_X3_readOrder N x0 μ = some (r, μ')) : gMet l E yX3_readOrder cX3_readOrder 4 (some .boolean) 6 132 [vr E x0] (some (vi r)) (R32 r) μ μ' 0 0 := by
  refine g_ofW [1] (by first | (simp only [List.map_cons, List.map_nil, vr_cat]; done) | (simp only [List.map_cons, List.map_nil, vr_cat]; rfl)) (by decide) (by decide) (fun p e s m below meth c ls C hM hl => ?_)
  replace C : gCx p s m _ meth c cX3_readOrder 4 (some .boolean) "readOrder" RX3 := C
  replace hl : lv_has ls 4 [(0, vr E x0)] := hl
  unfold f_X3_readOrder at h
  refine m_aload_n (pc := 0) C dX3_readOrder_0 rfl (lv_at hl 0 rfl) ?_
  refine m_aload_n (pc := 1) C dX3_readOrder_1 rfl (lv_at hl 0 rfl) ?_
  obtain ⟨q1, h⟩ := ck_some h
  have gq1 := Gr_X3_position hM q1
  refine G_X3_position (pc := 2) C hM bw_2_13 q1 dX3_readOrder_2 ?_
  obtain ⟨q2, h⟩ := ck_some h
  obtain ⟨a3, μ4, ca3, h⟩ := bd_some h
  refine V_X3_endOfToken (pc := 5) C hM ca3 gq1 q2 bw_4_170 ⟨Nat.le_of_ble_eq_true rfl, Nat.le_of_ble_eq_true rfl⟩ hl.1 rc0 ⟨Nat.le_refl _, Nat.le_refl _⟩ dX3_readOrder_5 (fun ra3 H locs hM => ?_)
  refine m_istore_n (pc := 8) C dX3_readOrder_8 rfl hl (by decide) (lvK2 0 rfl (Nat.ne_of_beq_eq_false rfl) (vr_cat _ _) lvK0) (fun ls hl => ?_)
  refine m_aload_n (pc := 9) C dX3_readOrder_9 rfl (lv_at hl 1 rfl) ?_
  refine m_aload_n (pc := 10) C dX3_readOrder_10 rfl (lv_at hl 1 rfl) ?_
  refine m_aload_n (pc := 11) C dX3_readOrder_11 rfl (lv_at hl 1 rfl) ?_
  obtain ⟨q5, h⟩ := ck_some h
  have gq5 := Gr_X3_position hM q5
  refine G_X3_position (pc := 12) C hM bw_2_13 q5 dX3_readOrder_12 ?_
  refine m_iload_n (pc := 15) C dX3_readOrder_15 rfl (lv_at hl 0 rfl) ?_
  obtain ⟨q6, h⟩ := ck_some h
  obtain ⟨a7, μ8, ca7, h⟩ := bd_some h
  refine V_X3_wordBetween (pc := 16) C hM ca7 gq5 ra3 q6 bw_4_174 ⟨Nat.le_of_ble_eq_true rfl, Nat.le_of_ble_eq_true rfl⟩ hl.1 (rcR rc0) ⟨Nat.le_refl _, Nat.le_refl _⟩ dX3_readOrder_16 (fun ra7 H locs hM => ?_)
  obtain ⟨q9, h⟩ := ck_some h
  obtain ⟨μ10, eμ10, h⟩ := nm_some h
  refine P_X3_word (pc := 19) C hM bw_2_14 q9 ra7 eμ10 dX3_readOrder_19 (fun H locs hM => ?_)
  refine m_aload_n (pc := 22) C dX3_readOrder_22 rfl (lv_at hl 1 rfl) ?_
  obtain ⟨q11, h⟩ := ck_some h
  have gq11 := Gr_X3_word hM q11
  refine G_X3_word (pc := 23) C hM bw_2_14 q11 dX3_readOrder_23 ?_
  refine m_iconst (pc := 26) C dX3_readOrder_26 ?_
  refine m_icmp_ne (tgt := 32) (pc := 27) C gq11 rk_m1 dX3_readOrder_27 (by decide) (fun c12 => ?_) (fun c12 => ?_)
  · have h := if_t h c12
    refine m_aload_n (pc := 32) C dX3_readOrder_32 rfl (lv_at hl 1 rfl) ?_
    refine m_iload_n (pc := 33) C dX3_readOrder_33 rfl (lv_at hl 0 rfl) ?_
    obtain ⟨q13, h⟩ := ck_some h
    obtain ⟨μ14, eμ14, h⟩ := nm_some h
    refine P_X3_position (pc := 34) C hM bw_2_13 q13 ra3 eμ14 dX3_readOrder_34 (fun H locs hM => ?_)
    refine m_aload_n (pc := 37) C dX3_readOrder_37 rfl (lv_at hl 1 rfl) ?_
    obtain ⟨q15, h⟩ := ck_some h
    have gq15 := Gr_X3_word hM q15
    refine G_X3_word (pc := 38) C hM bw_2_14 q15 dX3_readOrder_38 ?_
    obtain ⟨a16, μ17, ca16, h⟩ := bd_some h
    refine V_X3_placesOf (pc := 41) C hM ca16 gq15 bw_4_218 ⟨Nat.le_of_ble_eq_true rfl, Nat.le_of_ble_eq_true rfl⟩ hl.1 rc0 ⟨Nat.le_refl _, Nat.le_refl _⟩ dX3_readOrder_41 (fun _ H locs hM => ?_)
    refine m_astore_n (pc := 44) C dX3_readOrder_44 rfl hl (by decide) (lvK1 1 rfl (Nat.ne_of_beq_eq_false rfl) (Nat.ne_of_beq_eq_false rfl) lvK0) (fun ls hl => ?_)
    refine m_iconst (pc := 45) C dX3_readOrder_45 ?_
    refine m_istore_n (pc := 46) C dX3_readOrder_46 rfl hl (by decide) (lvK2 0 rfl (Nat.ne_of_beq_eq_false rfl) (vr_cat _ _) (lvK1 1 rfl (Nat.ne_of_beq_eq_false rfl) (Nat.ne_of_beq_eq_false rfl) lvK0)) (fun ls hl => ?_)
    exact k_X3_readOrder_b47 C N N _ _ _ _ h rk_0 _ _ _ hM (lv_sub hl [2, 1, 0] rfl)
  · have h := if_f h c12
    refine m_iconst (pc := 30) C dX3_readOrder_30 ?_
    cases h
    exact m_zret (pc := 31) C rfl hM rk_0 dX3_readOrder_31
theorem hd_X3_readOrder : yX3_readOrder.cls ≠ "java/lang/invoke/MethodHandle" ∧ yX3_readOrder.cls ≠ "java/lang/invoke/VarHandle" ∧ (parseMethodDescriptor yX3_readOrder.desc).map (fun d => d.parameters.length) = some 0 := by decide +kernel

theorem V_X3_readOrder {p : Program} {l : Launch} {e : Env} {R : Room} {s : State} {m : MethodId} {args : Array Value} {below : List Frame} {meth : Method} {c : Code} {H : Heap} {locs : List Loc} {cells slots : Nat} {Q : State → Prop} {cc : ByteArray} {pc nL : Nat} {ls : Array Slot} {rest : List Value} {ret : Option FieldType} {nmm own : String} {E : gE} {μ μ1 : Mm} {index : Nat} (C : gCx p s m args meth c cc nL ret nmm own) (hM : MS E μ s H locs) {N : Nat} {x0 v : Int} (hc : f_X3_readOrder N x0 μ = some (v, μ1)) (hck : μ x0 (-2) = 5) (h1 : Cond.methodLink own index yX3_readOrder ∈ bigL) (hR : 7 ≤ R.frames ∧ 155 ≤ R.locals) (hl : ls.size = nL) (hcat : RC rest 8) (hf : cells + 0 ≤ R.cells ∧ slots + 0 ≤ R.slots) (hdg : decode cc pc = .ok (.invokevirtual index, 3)) (kk : (R32 v) → ∀ (H1 : Heap) (locs1 : List Loc), MS E μ1 s H1 locs1 → W p l e R s m args below meth c H1 locs1 (cells + 0) (slots + 0) Q (F0 m (pc + 3) ls (vi v :: rest))) : W p l e R s m args below meth c H locs cells slots Q (F0 m pc ls (vr E x0 :: rest)) := g_callV C KF_X3 hM (c_X3_readOrder l E N x0 μ μ1 v hc) hck (gV h1 bw_4_167 bw_4_168 bw_1_8 bw_4_169) ⟨rfl, hd_X3_readOrder⟩ hR rfl hl rfl hcat hf hdg kk
/-! X3_skipSeparator -/
def f_X3_skipSeparator (N : Nat) (x0 : Int) (μ : Mm) : Rs :=
  ck (μ x0 (-2) = 5) <|
  nm (w32 ((μ x0 2) + 1)) fun a2 =>
  ck (μ x0 (-2) = 5) <|
  nm (mset μ x0 2 a2) fun μ4 =>
  some (0, μ4)
set_option maxHeartbeats 4000000 in
set_option maxRecDepth 100000 in
theorem c_X3_skipSeparator (l : Launch) (E : gE) (N : Nat) (x0 : Int) (μ μ' : Mm) (r : Int) (h : f_X3_skipSeparator N x0 μ = some (r, μ')) : gMet l E yX3_skipSeparator cX3_skipSeparator 1 none 0 0 [vr E x0] none True μ μ' 0 0 := by
  refine g_ofW [1] (by first | (simp only [List.map_cons, List.map_nil, vr_cat]; done) | (simp only [List.map_cons, List.map_nil, vr_cat]; rfl)) (by decide) (by decide) (fun p e s m below meth c ls C hM hl => ?_)
  replace C : gCx p s m _ meth c cX3_skipSeparator 1 none "skipSeparator" RX3 := C
  replace hl : lv_has ls 1 [(0, vr E x0)] := hl
  unfold f_X3_skipSeparator at h
  refine m_aload_n (pc := 0) C dX3_skipSeparator_0 rfl (lv_at hl 0 rfl) ?_
  refine m_dup (pc := 1) C (vr_cat _ _) dX3_skipSeparator_1 ?_
  obtain ⟨q1, h⟩ := ck_some h
  have gq1 := Gr_X3_position hM q1
  refine G_X3_position (pc := 2) C hM bw_2_13 q1 dX3_skipSeparator_2 ?_
  refine m_iconst (pc := 5) C dX3_skipSeparator_5 ?_
  obtain ⟨a2, ea2, h⟩ := nm_some h
  have ra2 : R32 a2 := by rw [ea2]; exact w32_R _
  refine m_iadd (pc := 6) C dX3_skipSeparator_6 ea2 ?_
  obtain ⟨q3, h⟩ := ck_some h
  obtain ⟨μ4, eμ4, h⟩ := nm_some h
  refine P_X3_position (pc := 7) C hM bw_2_13 q3 ra2 eμ4 dX3_skipSeparator_7 (fun H locs hM => ?_)
  cases h
  exact m_vret (pc := 10) C hM trivial dX3_skipSeparator_10
theorem hd_X3_skipSeparator : yX3_skipSeparator.cls ≠ "java/lang/invoke/MethodHandle" ∧ yX3_skipSeparator.cls ≠ "java/lang/invoke/VarHandle" ∧ (parseMethodDescriptor yX3_skipSeparator.desc).map (fun d => d.parameters.length) = some 0 := by decide +kernel

theorem V_X3_skipSeparator {p : Program} {l : Launch} {e : Env} {R : Room} {s : State} {m : MethodId} {args : Array Value} {below : List Frame} {meth : Method} {c : Code} {H : Heap} {locs : List Loc} {cells slots : Nat} {Q : State → Prop} {cc : ByteArray} {pc nL : Nat} {ls : Array Slot} {rest : List Value} {ret : Option FieldType} {nmm own : String} {E : gE} {μ μ1 : Mm} {index : Nat} (C : gCx p s m args meth c cc nL ret nmm own) (hM : MS E μ s H locs) {N : Nat} {x0 v : Int} (hc : f_X3_skipSeparator N x0 μ = some (v, μ1)) (hck : μ x0 (-2) = 5) (h1 : Cond.methodLink own index yX3_skipSeparator ∈ bigL) (hR : 1 ≤ R.frames ∧ 20 ≤ R.locals) (hl : ls.size = nL) (hcat : RC rest 8) (hf : cells + 0 ≤ R.cells ∧ slots + 0 ≤ R.slots) (hdg : decode cc pc = .ok (.invokevirtual index, 3)) (kk : True → ∀ (H1 : Heap) (locs1 : List Loc), MS E μ1 s H1 locs1 → W p l e R s m args below meth c H1 locs1 (cells + 0) (slots + 0) Q (F0 m (pc + 3) ls rest)) : W p l e R s m args below meth c H locs cells slots Q (F0 m pc ls (vr E x0 :: rest)) := g_callV C KF_X3 hM (c_X3_skipSeparator l E N x0 μ μ1 v hc) hck (gV h1 bw_5_4 bw_5_5 bw_1_8 bw_5_6) ⟨rfl, hd_X3_skipSeparator⟩ hR rfl hl rfl hcat hf hdg kk
/-! X3_findFault -/
def f_X3_findFault_b6 (N : Nat) : Nat → Int → Int → Mm → Rs
  | 0, _, _, _ => none
  | n + 1, x0, x1, μ =>
    ck (μ x0 (-2) = 5) <|
    if (μ x0 1) < x1 then
      (ck (μ x0 (-2) = 5) <|
       some (μ x0 2, μ))
    else
    ck (μ x0 (-2) = 5) <|
    bd (f_X3_readOrder N x0 μ) fun a5 μ6 =>
    if ¬ a5 = 0 then
      (ck (μ6 x0 (-2) = 5) <|
       bd (f_X3_atEnd N x0 μ6) fun a9 μ10 =>
       if a9 = 0 then
         (ck (μ10 x0 (-2) = 5) <|
          bd (f_X3_skipSeparator N x0 μ10) fun a13 μ14 =>
          nm (w32 (x1 + 1)) fun a15 =>
          f_X3_findFault_b6 N n x0 a15 μ14)
       else
       some ((-1), μ10))
    else
    ck (μ6 x0 (-2) = 5) <|
    some (μ6 x0 2, μ6)
def f_X3_findFault (N : Nat) (x0 : Int) (μ : Mm) : Rs :=
  ck (μ x0 (-2) = 5) <|
  bd (f_X3_goToStart N x0 μ) fun a2 μ3 =>
  f_X3_findFault_b6 N N x0 0 μ3
set_option maxHeartbeats 4000000 in
set_option maxRecDepth 100000 in
theorem k_X3_findFault_b6 (C : gCx p s m args meth c cX3_findFault 2 (some .int) "findFault" RX3) (N : Nat) {r : Int} {μ' : Mm} : ∀ (n : Nat), ∀ (x0 x1 : Int) (μ : Mm), f_X3_findFault_b6 N n x0 x1 μ = some (r, μ') → R32 x1 → ∀ (H : Heap) (locs : List Loc) (ls : Array Slot), MS E μ s H locs → lv_has ls 2 [(0, vr E x0), (1, vi x1)] → W p l e ({ frames := 7, cells := 0, slots := 0, locals := 155 } : Room) s m args below meth c H locs 0 0 (MQ below (gQ E (some (vi r)) (R32 r) μ') args s 0 0 (gA E)) (F0 m 6 ls []) := by
  intro n
  induction n with
  | zero => intro x0 x1 μ h; simp [f_X3_findFault_b6] at h
  | succ n ih =>
    intro x0 x1 μ h rx1 H locs ls hM hl
    rw [f_X3_findFault_b6] at h
    refine m_iload_n (pc := 6) C dX3_findFault_6 rfl (lv_at hl 1 rfl) ?_
    refine m_aload_n (pc := 7) C dX3_findFault_7 rfl (lv_at hl 0 rfl) ?_
    obtain ⟨q1, h⟩ := ck_some h
    have gq1 := Gr_X3_length hM q1
    refine G_X3_length (pc := 8) C hM bw_2_11 q1 dX3_findFault_8 ?_
    refine m_icmp_gt (tgt := 45) (pc := 11) C rx1 gq1 dX3_findFault_11 (by decide) (fun c2 => ?_) (fun c2 => ?_)
    · have h := if_t h c2
      refine m_aload_n (pc := 45) C dX3_findFault_45 rfl (lv_at hl 0 rfl) ?_
      obtain ⟨q3, h⟩ := ck_some h
      have gq3 := Gr_X3_position hM q3
      refine G_X3_position (pc := 46) C hM bw_2_13 q3 dX3_findFault_46 ?_
      cases h
      exact m_iret (pc := 49) C hM gq3 dX3_findFault_49
    · have h := if_f h c2
      refine m_aload_n (pc := 14) C dX3_findFault_14 rfl (lv_at hl 0 rfl) ?_
      obtain ⟨q4, h⟩ := ck_some h
      obtain ⟨a5, μ6, ca5, h⟩ := bd_some h
      refine V_X3_readOrder (pc := 15) C hM ca5 q4 bw_4_166 ⟨Nat.le_of_ble_eq_true rfl, Nat.le_of_ble_eq_true rfl⟩ hl.1 rc0 ⟨Nat.le_refl _, Nat.le_refl _⟩ dX3_findFault_15 (fun ra5 H locs hM => ?_)
      refine m_if_ne (tgt := 26) (pc := 18) C ra5 dX3_findFault_18 (by decide) (fun c7 => ?_) (fun c7 => ?_)
      · have h := if_t h c7
        refine m_aload_n (pc := 26) C dX3_findFault_26 rfl (lv_at hl 0 rfl) ?_
        obtain ⟨q8, h⟩ := ck_some h
        obtain ⟨a9, μ10, ca9, h⟩ := bd_some h
        refine V_X3_atEnd (pc := 27) C hM ca9 q8 bw_4_226 ⟨Nat.le_of_ble_eq_true rfl, Nat.le_of_ble_eq_true rfl⟩ hl.1 rc0 ⟨Nat.le_refl _, Nat.le_refl _⟩ dX3_findFault_27 (fun ra9 H locs hM => ?_)
        refine m_if_eq (tgt := 35) (pc := 30) C ra9 dX3_findFault_30 (by decide) (fun c11 => ?_) (fun c11 => ?_)
        · have h := if_t h c11
          refine m_aload_n (pc := 35) C dX3_findFault_35 rfl (lv_at hl 0 rfl) ?_
          obtain ⟨q12, h⟩ := ck_some h
          obtain ⟨a13, μ14, ca13, h⟩ := bd_some h
          refine V_X3_skipSeparator (pc := 36) C hM ca13 q12 bw_5_3 ⟨Nat.le_of_ble_eq_true rfl, Nat.le_of_ble_eq_true rfl⟩ hl.1 rc0 ⟨Nat.le_refl _, Nat.le_refl _⟩ dX3_findFault_36 (fun _ H locs hM => ?_)
          obtain ⟨a15, ea15, h⟩ := nm_some h
          have ra15 : R32 a15 := by rw [ea15]; exact w32_R _
          refine m_iinc (k := 1) (pc := 39) C dX3_findFault_39 hl rfl (by decide) ea15 (lvK2 0 rfl (Nat.ne_of_beq_eq_false rfl) (vr_cat _ _) lvK0) (fun ls hl => ?_)
          refine m_goto (tgt := 6) (pc := 42) C dX3_findFault_42 (by decide) ?_
          exact ih _ _ _ h ra15 _ _ _ hM (lv_sub hl [1, 0] rfl)
        · have h := if_f h c11
          refine m_iconst (pc := 33) C dX3_findFault_33 ?_
          cases h
          exact m_iret (pc := 34) C hM rk_m1 dX3_findFault_34
      · have h := if_f h c7
        refine m_aload_n (pc := 21) C dX3_findFault_21 rfl (lv_at hl 0 rfl) ?_
        obtain ⟨q16, h⟩ := ck_some h
        have gq16 := Gr_X3_position hM q16
        refine G_X3_position (pc := 22) C hM bw_2_13 q16 dX3_findFault_22 ?_
        cases h
        exact m_iret (pc := 25) C hM gq16 dX3_findFault_25
set_option maxHeartbeats 4000000 in
set_option maxRecDepth 100000 in
theorem c_X3_findFault (l : Launch) (E : gE) (N : Nat) (x0 : Int) (μ μ' : Mm) (r : Int) (h : f_X3_findFault N x0 μ = some (r, μ')) : gMet l E yX3_findFault cX3_findFault 2 (some .int) 7 155 [vr E x0] (some (vi r)) (R32 r) μ μ' 0 0 := by
  refine g_ofW [1] (by first | (simp only [List.map_cons, List.map_nil, vr_cat]; done) | (simp only [List.map_cons, List.map_nil, vr_cat]; rfl)) (by decide) (by decide) (fun p e s m below meth c ls C hM hl => ?_)
  replace C : gCx p s m _ meth c cX3_findFault 2 (some .int) "findFault" RX3 := C
  replace hl : lv_has ls 2 [(0, vr E x0)] := hl
  unfold f_X3_findFault at h
  refine m_aload_n (pc := 0) C dX3_findFault_0 rfl (lv_at hl 0 rfl) ?_
  obtain ⟨q1, h⟩ := ck_some h
  obtain ⟨a2, μ3, ca2, h⟩ := bd_some h
  refine V_X3_goToStart (pc := 1) C hM ca2 q1 bw_4_162 ⟨Nat.le_of_ble_eq_true rfl, Nat.le_of_ble_eq_true rfl⟩ hl.1 rc0 ⟨Nat.le_refl _, Nat.le_refl _⟩ dX3_findFault_1 (fun _ H locs hM => ?_)
  refine m_iconst (pc := 4) C dX3_findFault_4 ?_
  refine m_istore_n (pc := 5) C dX3_findFault_5 rfl hl (by decide) (lvK2 0 rfl (Nat.ne_of_beq_eq_false rfl) (vr_cat _ _) lvK0) (fun ls hl => ?_)
  exact k_X3_findFault_b6 C N N _ _ _ h rk_0 _ _ _ hM (lv_sub hl [1, 0] rfl)
theorem hd_X3_findFault : yX3_findFault.cls ≠ "java/lang/invoke/MethodHandle" ∧ yX3_findFault.cls ≠ "java/lang/invoke/VarHandle" ∧ (parseMethodDescriptor yX3_findFault.desc).map (fun d => d.parameters.length) = some 0 := by decide +kernel

theorem V_X3_findFault {p : Program} {l : Launch} {e : Env} {R : Room} {s : State} {m : MethodId} {args : Array Value} {below : List Frame} {meth : Method} {c : Code} {H : Heap} {locs : List Loc} {cells slots : Nat} {Q : State → Prop} {cc : ByteArray} {pc nL : Nat} {ls : Array Slot} {rest : List Value} {ret : Option FieldType} {nmm own : String} {E : gE} {μ μ1 : Mm} {index : Nat} (C : gCx p s m args meth c cc nL ret nmm own) (hM : MS E μ s H locs) {N : Nat} {x0 v : Int} (hc : f_X3_findFault N x0 μ = some (v, μ1)) (hck : μ x0 (-2) = 5) (h1 : Cond.methodLink own index yX3_findFault ∈ bigL) (hR : 8 ≤ R.frames ∧ 176 ≤ R.locals) (hl : ls.size = nL) (hcat : RC rest 8) (hf : cells + 0 ≤ R.cells ∧ slots + 0 ≤ R.slots) (hdg : decode cc pc = .ok (.invokevirtual index, 3)) (kk : (R32 v) → ∀ (H1 : Heap) (locs1 : List Loc), MS E μ1 s H1 locs1 → W p l e R s m args below meth c H1 locs1 (cells + 0) (slots + 0) Q (F0 m (pc + 3) ls (vi v :: rest))) : W p l e R s m args below meth c H locs cells slots Q (F0 m pc ls (vr E x0 :: rest)) := g_callV C KF_X3 hM (c_X3_findFault l E N x0 μ μ1 v hc) hck (gV h1 bw_4_159 bw_4_160 bw_1_8 bw_4_161) ⟨rfl, hd_X3_findFault⟩ hR rfl hl rfl hcat hf hdg kk
/-! X4_payIn -/
def f_X4_payIn (N : Nat) (x0 x1 : Int) (μ : Mm) : Rs :=
  ck (μ x0 (-2) = 6) <|
  nm (min (μ x0 2) x1) fun a2 =>
  ck (μ x0 (-2) = 6) <|
  nm (w32 ((μ x0 2) - a2)) fun a4 =>
  ck (μ x0 (-2) = 6) <|
  nm (mset μ x0 2 a4) fun μ6 =>
  ck (μ6 x0 (-2) = 6) <|
  nm (w32 (x1 - a2)) fun a8 =>
  nm (w64 ((μ6 x0 0) + a8)) fun a9 =>
  ck (μ6 x0 (-2) = 6) <|
  nm (mset μ6 x0 0 a9) fun μ11 =>
  some (0, μ11)
set_option maxHeartbeats 4000000 in
set_option maxRecDepth 100000 in
theorem c_X4_payIn (l : Launch) (E : gE) (N : Nat) (x0 x1 : Int) (μ μ' : Mm) (r : Int) (h : f_X4_payIn N x0 x1 μ = some (r, μ')) (rx1 : R32 x1) : gMet l E yX4_payIn cX4_payIn 3 none 1 21 [vr E x0, vi x1] none True μ μ' 0 0 := by
  refine g_ofW [1, 1] (by first | (simp only [List.map_cons, List.map_nil, vr_cat]; done) | (simp only [List.map_cons, List.map_nil, vr_cat]; rfl)) (by decide) (by decide) (fun p e s m below meth c ls C hM hl => ?_)
  replace C : gCx p s m _ meth c cX4_payIn 3 none "payIn" RX4 := C
  replace hl : lv_has ls 3 [(0, vr E x0), (1, vi x1)] := hl
  unfold f_X4_payIn at h
  refine m_aload_n (pc := 0) C dX4_payIn_0 rfl (lv_at hl 0 rfl) ?_
  obtain ⟨q1, h⟩ := ck_some h
  have gq1 := Gr_X4_debt hM q1
  refine G_X4_debt (pc := 1) C hM bw_1_77 q1 dX4_payIn_1 ?_
  refine m_iload_n (pc := 4) C dX4_payIn_4 rfl (lv_at hl 1 rfl) ?_
  obtain ⟨a2, ea2, h⟩ := nm_some h
  have ra2 : R32 a2 := by rw [ea2]; exact R32_min gq1 rx1
  refine m_mmin (pc := 5) C gq1 rx1 bw_4_129 hl.1 rc0 ⟨Nat.le_of_ble_eq_true rfl, Nat.le_of_ble_eq_true rfl⟩ ⟨Nat.le_refl _, Nat.le_refl _⟩ ea2 dX4_payIn_5 ?_
  refine m_istore_n (pc := 8) C dX4_payIn_8 rfl hl (by decide) (lvK1 0 rfl (Nat.ne_of_beq_eq_false rfl) (Nat.ne_of_beq_eq_false rfl) (lvK2 1 rfl (Nat.ne_of_beq_eq_false rfl) rfl lvK0)) (fun ls hl => ?_)
  refine m_aload_n (pc := 9) C dX4_payIn_9 rfl (lv_at hl 1 rfl) ?_
  refine m_dup (pc := 10) C (vr_cat _ _) dX4_payIn_10 ?_
  obtain ⟨q3, h⟩ := ck_some h
  have gq3 := Gr_X4_debt hM q3
  refine G_X4_debt (pc := 11) C hM bw_1_77 q3 dX4_payIn_11 ?_
  refine m_iload_n (pc := 14) C dX4_payIn_14 rfl (lv_at hl 0 rfl) ?_
  obtain ⟨a4, ea4, h⟩ := nm_some h
  have ra4 : R32 a4 := by rw [ea4]; exact w32_R _
  refine m_isub (pc := 15) C dX4_payIn_15 ea4 ?_
  obtain ⟨q5, h⟩ := ck_some h
  obtain ⟨μ6, eμ6, h⟩ := nm_some h
  refine P_X4_debt (pc := 16) C hM bw_1_77 q5 ra4 eμ6 dX4_payIn_16 (fun H locs hM => ?_)
  refine m_aload_n (pc := 19) C dX4_payIn_19 rfl (lv_at hl 1 rfl) ?_
  refine m_dup (pc := 20) C (vr_cat _ _) dX4_payIn_20 ?_
  obtain ⟨q7, h⟩ := ck_some h
  have gq7 := Gr_X4_cash hM q7
  refine G_X4_cash (pc := 21) C hM bw_1_73 q7 dX4_payIn_21 ?_
  refine m_iload_n (pc := 24) C dX4_payIn_24 rfl (lv_at hl 2 rfl) ?_
  refine m_iload_n (pc := 25) C dX4_payIn_25 rfl (lv_at hl 0 rfl) ?_
  obtain ⟨a8, ea8, h⟩ := nm_some h
  have ra8 : R32 a8 := by rw [ea8]; exact w32_R _
  refine m_isub (pc := 26) C dX4_payIn_26 ea8 ?_
  refine m_i2l (pc := 27) C ra8 dX4_payIn_27 ?_
  obtain ⟨a9, ea9, h⟩ := nm_some h
  have ra9 : R64 a9 := by rw [ea9]; exact w64_R _
  refine m_ladd (pc := 28) C dX4_payIn_28 ea9 ?_
  obtain ⟨q10, h⟩ := ck_some h
  obtain ⟨μ11, eμ11, h⟩ := nm_some h
  refine P_X4_cash (pc := 29) C hM bw_1_73 q10 ra9 eμ11 dX4_payIn_29 (fun H locs hM => ?_)
  cases h
  exact m_vret (pc := 32) C hM trivial dX4_payIn_32
theorem hd_X4_payIn : yX4_payIn.cls ≠ "java/lang/invoke/MethodHandle" ∧ yX4_payIn.cls ≠ "java/lang/invoke/VarHandle" ∧ (parseMethodDescriptor yX4_payIn.desc).map (fun d => d.parameters.length) = some 1 := by decide +kernel

theorem V_X4_payIn {p : Program} {l : Launch} {e : Env} {R : Room} {s : State} {m : MethodId} {args : Array Value} {below : List Frame} {meth : Method} {c : Code} {H : Heap} {locs : List Loc} {cells slots : Nat} {Q : State → Prop} {cc : ByteArray} {pc nL : Nat} {ls : Array Slot} {rest : List Value} {ret : Option FieldType} {nmm own : String} {E : gE} {μ μ1 : Mm} {index : Nat} (C : gCx p s m args meth c cc nL ret nmm own) (hM : MS E μ s H locs) {N : Nat} {x0 x1 v : Int} (hc : f_X4_payIn N x0 x1 μ = some (v, μ1)) (rx1 : R32 x1) (hck : μ x0 (-2) = 6) (h1 : Cond.methodLink own index yX4_payIn ∈ bigL) (hR : 2 ≤ R.frames ∧ 43 ≤ R.locals) (hl : ls.size = nL) (hcat : RC rest 8) (hf : cells + 0 ≤ R.cells ∧ slots + 0 ≤ R.slots) (hdg : decode cc pc = .ok (.invokevirtual index, 3)) (kk : True → ∀ (H1 : Heap) (locs1 : List Loc), MS E μ1 s H1 locs1 → W p l e R s m args below meth c H1 locs1 (cells + 0) (slots + 0) Q (F0 m (pc + 3) ls rest)) : W p l e R s m args below meth c H locs cells slots Q (F0 m pc ls (vi x1 :: vr E x0 :: rest)) := g_callV C KF_X4 hM (c_X4_payIn l E N x0 x1 μ μ1 v hc rx1) hck (gV h1 bw_4_126 bw_4_127 bw_1_4 bw_4_128) ⟨rfl, hd_X4_payIn⟩ hR rfl hl rfl hcat hf hdg kk
/-! X4_answerFor -/
def f_X4_answerFor_b16 (N : Nat) (x0 x1 y0 : Int) (μ : Mm) : Rs :=
  ck (μ x0 (-2) = 6) <|
  nm (w32 ((μ x0 1) - y0)) fun a2 =>
  ck (μ x0 (-2) = 6) <|
  nm (mset μ x0 1 a2) fun μ4 =>
  ck (μ4 x0 (-2) = 6) <|
  nm (w32 (x1 - y0)) fun a6 =>
  nm (w32 ((μ4 x0 2) + a6)) fun a7 =>
  ck (μ4 x0 (-2) = 6) <|
  nm (mset μ4 x0 2 a7) fun μ9 =>
  ck (μ9 x0 (-2) = 6) <|
  nm (w32 ((μ9 x0 3) + x1)) fun a11 =>
  ck (μ9 x0 (-2) = 6) <|
  nm (mset μ9 x0 3 a11) fun μ13 =>
  some (0, μ13)
def f_X4_answerFor (N : Nat) (x0 x1 : Int) (μ : Mm) : Rs :=
  ck (μ x0 (-2) = 6) <|
  if x1 ≤ (μ x0 1) then
    (f_X4_answerFor_b16 N x0 x1 x1 μ)
  else
  ck (μ x0 (-2) = 6) <|
  f_X4_answerFor_b16 N x0 x1 (μ x0 1) μ
set_option maxHeartbeats 4000000 in
set_option maxRecDepth 100000 in
theorem k_X4_answerFor_b16 (C : gCx p s m args meth c cX4_answerFor 3 none "answerFor" RX4) (N : Nat) {r : Int} {μ' : Mm} : ∀ (x0 x1 y0 : Int) (μ : Mm), f_X4_answerFor_b16 N x0 x1 y0 μ = some (r, μ') → R32 x1 → R32 y0 → ∀ (H : Heap) (locs : List Loc) (ls : Array Slot), MS E μ s H locs → lv_has ls 3 [(0, vr E x0), (1, vi x1)] → W p l e ({ frames := 0, cells := 0, slots := 0, locals := 0 } : Room) s m args below meth c H locs 0 0 (MQ below (gQ E none True μ') args s 0 0 (gA E)) (F0 m 16 ls [vi y0]) := by
  intro x0 x1 y0 μ h rx1 ry0 H locs ls hM hl
  unfold f_X4_answerFor_b16 at h
  refine m_istore_n (pc := 16) C dX4_answerFor_16 rfl hl (by decide) (lvK1 0 rfl (Nat.ne_of_beq_eq_false rfl) (Nat.ne_of_beq_eq_false rfl) (lvK2 1 rfl (Nat.ne_of_beq_eq_false rfl) rfl lvK0)) (fun ls hl => ?_)
  refine m_aload_n (pc := 17) C dX4_answerFor_17 rfl (lv_at hl 1 rfl) ?_
  refine m_dup (pc := 18) C (vr_cat _ _) dX4_answerFor_18 ?_
  obtain ⟨q1, h⟩ := ck_some h
  have gq1 := Gr_X4_guarantee hM q1
  refine G_X4_guarantee (pc := 19) C hM bw_1_75 q1 dX4_answerFor_19 ?_
  refine m_iload_n (pc := 22) C dX4_answerFor_22 rfl (lv_at hl 0 rfl) ?_
  obtain ⟨a2, ea2, h⟩ := nm_some h
  have ra2 : R32 a2 := by rw [ea2]; exact w32_R _
  refine m_isub (pc := 23) C dX4_answerFor_23 ea2 ?_
  obtain ⟨q3, h⟩ := ck_some h
  obtain ⟨μ4, eμ4, h⟩ := nm_some h
  refine P_X4_guarantee (pc := 24) C hM bw_1_75 q3 ra2 eμ4 dX4_answerFor_24 (fun H locs hM => ?_)
  refine m_aload_n (pc := 27) C dX4_answerFor_27 rfl (lv_at hl 1 rfl) ?_
  refine m_dup (pc := 28) C (vr_cat _ _) dX4_answerFor_28 ?_
  obtain ⟨q5, h⟩ := ck_some h
  have gq5 := Gr_X4_debt hM q5
  refine G_X4_debt (pc := 29) C hM bw_1_77 q5 dX4_answerFor_29 ?_
  refine m_iload_n (pc := 32) C dX4_answerFor_32 rfl (lv_at hl 2 rfl) ?_
  refine m_iload_n (pc := 33) C dX4_answerFor_33 rfl (lv_at hl 0 rfl) ?_
  obtain ⟨a6, ea6, h⟩ := nm_some h
  have ra6 : R32 a6 := by rw [ea6]; exact w32_R _
  refine m_isub (pc := 34) C dX4_answerFor_34 ea6 ?_
  obtain ⟨a7, ea7, h⟩ := nm_some h
  have ra7 : R32 a7 := by rw [ea7]; exact w32_R _
  refine m_iadd (pc := 35) C dX4_answerFor_35 ea7 ?_
  obtain ⟨q8, h⟩ := ck_some h
  obtain ⟨μ9, eμ9, h⟩ := nm_some h
  refine P_X4_debt (pc := 36) C hM bw_1_77 q8 ra7 eμ9 dX4_answerFor_36 (fun H locs hM => ?_)
  refine m_aload_n (pc := 39) C dX4_answerFor_39 rfl (lv_at hl 1 rfl) ?_
  refine m_dup (pc := 40) C (vr_cat _ _) dX4_answerFor_40 ?_
  obtain ⟨q10, h⟩ := ck_some h
  have gq10 := Gr_X4_called hM q10
  refine G_X4_called (pc := 41) C hM bw_1_79 q10 dX4_answerFor_41 ?_
  refine m_iload_n (pc := 44) C dX4_answerFor_44 rfl (lv_at hl 2 rfl) ?_
  obtain ⟨a11, ea11, h⟩ := nm_some h
  have ra11 : R32 a11 := by rw [ea11]; exact w32_R _
  refine m_iadd (pc := 45) C dX4_answerFor_45 ea11 ?_
  obtain ⟨q12, h⟩ := ck_some h
  obtain ⟨μ13, eμ13, h⟩ := nm_some h
  refine P_X4_called (pc := 46) C hM bw_1_79 q12 ra11 eμ13 dX4_answerFor_46 (fun H locs hM => ?_)
  cases h
  exact m_vret (pc := 49) C hM trivial dX4_answerFor_49
set_option maxHeartbeats 4000000 in
set_option maxRecDepth 100000 in
theorem c_X4_answerFor (l : Launch) (E : gE) (N : Nat) (x0 x1 : Int) (μ μ' : Mm) (r : Int) (h : f_X4_answerFor N x0 x1 μ = some (r, μ')) (rx1 : R32 x1) : gMet l E yX4_answerFor cX4_answerFor 3 none 0 0 [vr E x0, vi x1] none True μ μ' 0 0 := by
  refine g_ofW [1, 1] (by first | (simp only [List.map_cons, List.map_nil, vr_cat]; done) | (simp only [List.map_cons, List.map_nil, vr_cat]; rfl)) (by decide) (by decide) (fun p e s m below meth c ls C hM hl => ?_)
  replace C : gCx p s m _ meth c cX4_answerFor 3 none "answerFor" RX4 := C
  replace hl : lv_has ls 3 [(0, vr E x0), (1, vi x1)] := hl
  unfold f_X4_answerFor at h
  refine m_aload_n (pc := 0) C dX4_answerFor_0 rfl (lv_at hl 0 rfl) ?_
  obtain ⟨q1, h⟩ := ck_some h
  have gq1 := Gr_X4_guarantee hM q1
  refine G_X4_guarantee (pc := 1) C hM bw_1_75 q1 dX4_answerFor_1 ?_
  refine m_iload_n (pc := 4) C dX4_answerFor_4 rfl (lv_at hl 1 rfl) ?_
  refine m_icmp_ge (tgt := 15) (pc := 5) C gq1 rx1 dX4_answerFor_5 (by decide) (fun c2 => ?_) (fun c2 => ?_)
  · have h := if_t h c2
    refine m_iload_n (pc := 15) C dX4_answerFor_15 rfl (lv_at hl 1 rfl) ?_
    exact k_X4_answerFor_b16 C N _ _ _ _ h rx1 rx1 _ _ _ hM (lv_sub hl [0, 1] rfl)
  · have h := if_f h c2
    refine m_aload_n (pc := 8) C dX4_answerFor_8 rfl (lv_at hl 0 rfl) ?_
    obtain ⟨q3, h⟩ := ck_some h
    have gq3 := Gr_X4_guarantee hM q3
    refine G_X4_guarantee (pc := 9) C hM bw_1_75 q3 dX4_answerFor_9 ?_
    refine m_goto (tgt := 16) (pc := 12) C dX4_answerFor_12 (by decide) ?_
    exact k_X4_answerFor_b16 C N _ _ _ _ h rx1 gq3 _ _ _ hM (lv_sub hl [0, 1] rfl)
theorem hd_X4_answerFor : yX4_answerFor.cls ≠ "java/lang/invoke/MethodHandle" ∧ yX4_answerFor.cls ≠ "java/lang/invoke/VarHandle" ∧ (parseMethodDescriptor yX4_answerFor.desc).map (fun d => d.parameters.length) = some 1 := by decide +kernel

theorem V_X4_answerFor {p : Program} {l : Launch} {e : Env} {R : Room} {s : State} {m : MethodId} {args : Array Value} {below : List Frame} {meth : Method} {c : Code} {H : Heap} {locs : List Loc} {cells slots : Nat} {Q : State → Prop} {cc : ByteArray} {pc nL : Nat} {ls : Array Slot} {rest : List Value} {ret : Option FieldType} {nmm own : String} {E : gE} {μ μ1 : Mm} {index : Nat} (C : gCx p s m args meth c cc nL ret nmm own) (hM : MS E μ s H locs) {N : Nat} {x0 x1 v : Int} (hc : f_X4_answerFor N x0 x1 μ = some (v, μ1)) (rx1 : R32 x1) (hck : μ x0 (-2) = 6) (h1 : Cond.methodLink own index yX4_answerFor ∈ bigL) (hR : 1 ≤ R.frames ∧ 22 ≤ R.locals) (hl : ls.size = nL) (hcat : RC rest 8) (hf : cells + 0 ≤ R.cells ∧ slots + 0 ≤ R.slots) (hdg : decode cc pc = .ok (.invokevirtual index, 3)) (kk : True → ∀ (H1 : Heap) (locs1 : List Loc), MS E μ1 s H1 locs1 → W p l e R s m args below meth c H1 locs1 (cells + 0) (slots + 0) Q (F0 m (pc + 3) ls rest)) : W p l e R s m args below meth c H locs cells slots Q (F0 m pc ls (vi x1 :: vr E x0 :: rest)) := g_callV C KF_X4 hM (c_X4_answerFor l E N x0 x1 μ μ1 v hc rx1) hck (gV h1 bw_2_189 bw_2_190 bw_1_4 bw_2_191) ⟨rfl, hd_X4_answerFor⟩ hR rfl hl rfl hcat hf hdg kk
end G02
