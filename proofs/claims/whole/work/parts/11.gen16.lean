section G16
variable {p : Program} {l : Launch} {e : Env} {R : Room} {s : State} {m : MethodId} {args : Array Value} {below : List Frame} {meth : Method} {c : Code} {E : gE}
/-! X8_stored -/
def f_X8_stored_b5 (N : Nat) : Nat → Int → Int → Int → Int → Mm → Rs
  | 0, _, _, _, _, _ => none
  | n + 1, x0, x1, x2, x4, μ =>
    ck (μ x0 (-2) = 10) <|
    ck (μ (μ x0 0) (-2) = 24 ∧ (0 : Int) ≤ 2 ∧ 2 < μ (μ x0 0) (-1)) <|
    if (μ (μ x0 0) 2) ≤ x4 then
      (some (x2, μ))
    else
    ck (μ x0 (-2) = 10) <|
    bd (f_X8_lotAt N x4 μ) fun a5 μ6 =>
    ck (μ6 (μ x0 0) (-2) = 24 ∧ (0 : Int) ≤ a5 ∧ a5 < μ6 (μ x0 0) (-1)) <|
    if ¬ (μ6 (μ x0 0) a5) = x1 then
      (nm (w64 (x2 + 0)) fun a9 =>
       nm (w32 (x4 + 1)) fun a10 =>
       f_X8_stored_b5 N n x0 x1 a9 a10 μ6)
    else
    ck (μ6 x0 (-2) = 10) <|
    bd (f_X8_units N x0 x4 μ6) fun a12 μ13 =>
    if a12 ≤ 0 then
      (nm (w64 (x2 + 0)) fun a15 =>
       nm (w32 (x4 + 1)) fun a16 =>
       f_X8_stored_b5 N n x0 x1 a15 a16 μ13)
    else
    nm (w64 (x2 + 1)) fun a17 =>
    nm (w32 (x4 + 1)) fun a18 =>
    f_X8_stored_b5 N n x0 x1 a17 a18 μ13
def f_X8_stored (N : Nat) (x0 x1 : Int) (μ : Mm) : Rs :=
  f_X8_stored_b5 N N x0 x1 0 0 μ
set_option maxHeartbeats 4000000 in
set_option maxRecDepth 100000 in
theorem k_X8_stored_b5 (C : gCx p s m args meth c cX8_stored 5 (some .long) "stored" RX8) (N : Nat) {r : Int} {μ' : Mm} : ∀ (n : Nat), ∀ (x0 x1 x2 x4 : Int) (μ : Mm), f_X8_stored_b5 N n x0 x1 x2 x4 μ = some (r, μ') → R32 x1 → R64 x2 → R32 x4 → ∀ (H : Heap) (locs : List Loc) (ls : Array Slot), MS E μ s H locs → lv_has ls 5 [(0, vr E x0), (1, vi x1), (2, vl x2), (4, vi x4)] → W p l e ({ frames := 2, cells := 0, slots := 0, locals := 41 } : Room) s m args below meth c H locs 0 0 (MQ below (gQ E (some (vl r)) (R64 r) μ') args s 0 0 (gA E)) (F0 m 5 ls []) := by
  intro n
  induction n with
  | zero => intro x0 x1 x2 x4 μ h; simp [f_X8_stored_b5] at h
  | succ n ih =>
    intro x0 x1 x2 x4 μ h rx1 rx2 rx4 H locs ls hM hl
    rw [f_X8_stored_b5] at h
    refine m_iload (pc := 5) C dX8_stored_5 (lv_at hl 3 rfl) ?_
    refine m_i2l (pc := 7) C rx4 dX8_stored_7 ?_
    refine m_aload_n (pc := 8) C dX8_stored_8 rfl (lv_at hl 0 rfl) ?_
    obtain ⟨q1, h⟩ := ck_some h
    refine G_X8_now (pc := 9) C hM bw_4_227 q1 dX8_stored_9 ?_
    refine m_iconst (pc := 12) C dX8_stored_12 ?_
    obtain ⟨q2, h⟩ := ck_some h
    have gq2 := Ar_lald hM q2.1 q2.2.1 q2.2.2
    refine m_lald (pc := 13) C hM q2.1 q2.2.1 q2.2.2 dX8_stored_13 ?_
    refine m_lcmp_ge (tgt := 59) (pc := 14) C (R32.to64 rx4) gq2 dX8_stored_14 dX8_stored_15 (by decide) (fun c3 => ?_) (fun c3 => ?_)
    · have h := if_t h c3
      refine m_lload_n (pc := 59) C dX8_stored_59 rfl (lv_at hl 2 rfl) ?_
      cases h
      exact m_lret (pc := 60) C hM rx2 dX8_stored_60
    · have h := if_f h c3
      refine m_lload_n (pc := 18) C dX8_stored_18 rfl (lv_at hl 2 rfl) ?_
      refine m_aload_n (pc := 19) C dX8_stored_19 rfl (lv_at hl 0 rfl) ?_
      obtain ⟨q4, h⟩ := ck_some h
      refine G_X8_now (pc := 20) C hM bw_4_227 q4 dX8_stored_20 ?_
      refine m_iload (pc := 23) C dX8_stored_23 (lv_at hl 3 rfl) ?_
      obtain ⟨a5, μ6, ca5, h⟩ := bd_some h
      refine V_X8_lotAt (pc := 25) C hM ca5 rx4 bw_5_87 ⟨Nat.le_of_ble_eq_true rfl, Nat.le_of_ble_eq_true rfl⟩ hl.1 (rcR (rcL rc0)) ⟨Nat.le_refl _, Nat.le_refl _⟩ dX8_stored_25 (fun ra5 H locs hM => ?_)
      obtain ⟨q7, h⟩ := ck_some h
      have gq7 := Ar_lald hM q7.1 q7.2.1 q7.2.2
      refine m_lald (pc := 28) C hM q7.1 q7.2.1 q7.2.2 dX8_stored_28 ?_
      refine m_iload_n (pc := 29) C dX8_stored_29 rfl (lv_at hl 1 rfl) ?_
      refine m_i2l (pc := 30) C rx1 dX8_stored_30 ?_
      refine m_lcmp_ne (tgt := 50) (pc := 31) C gq7 (R32.to64 rx1) dX8_stored_31 dX8_stored_32 (by decide) (fun c8 => ?_) (fun c8 => ?_)
      · have h := if_t h c8
        refine m_lconst (v := 0) (pc := 50) C dX8_stored_50 rfl ?_
        obtain ⟨a9, ea9, h⟩ := nm_some h
        have ra9 : R64 a9 := by rw [ea9]; exact w64_R _
        refine m_ladd (pc := 51) C dX8_stored_51 ea9 ?_
        refine m_lstore_n (pc := 52) C dX8_stored_52 rfl hl (by decide) (lvK1 0 rfl (Nat.ne_of_beq_eq_false rfl) (Nat.ne_of_beq_eq_false rfl) (lvK2 1 rfl (Nat.ne_of_beq_eq_false rfl) rfl (lvK1 3 rfl (Nat.ne_of_beq_eq_false rfl) (Nat.ne_of_beq_eq_false rfl) lvK0))) (lvN1 (Nat.ne_of_beq_eq_false rfl) (lvN1 (Nat.ne_of_beq_eq_false rfl) (lvN1 (Nat.ne_of_beq_eq_false rfl) lvN0))) (fun ls hl => ?_)
        obtain ⟨a10, ea10, h⟩ := nm_some h
        have ra10 : R32 a10 := by rw [ea10]; exact w32_R _
        refine m_iinc (k := 3) (pc := 53) C dX8_stored_53 hl rfl (by decide) ea10 (lvK1 0 rfl (Nat.ne_of_beq_eq_false rfl) (Nat.ne_of_beq_eq_false rfl) (lvK1 1 rfl (Nat.ne_of_beq_eq_false rfl) (Nat.ne_of_beq_eq_false rfl) (lvK1 2 rfl (Nat.ne_of_beq_eq_false rfl) (Nat.ne_of_beq_eq_false rfl) lvK0))) (fun ls hl => ?_)
        refine m_goto (tgt := 5) (pc := 56) C dX8_stored_56 (by decide) ?_
        exact ih _ _ _ _ _ h rx1 ra9 ra10 _ _ _ hM (lv_sub hl [2, 3, 1, 0] rfl)
      · have h := if_f h c8
        refine m_aload_n (pc := 35) C dX8_stored_35 rfl (lv_at hl 0 rfl) ?_
        refine m_iload (pc := 36) C dX8_stored_36 (lv_at hl 3 rfl) ?_
        obtain ⟨q11, h⟩ := ck_some h
        obtain ⟨a12, μ13, ca12, h⟩ := bd_some h
        refine V_X8_units (pc := 38) C hM ca12 rx4 q11 bw_5_94 ⟨Nat.le_of_ble_eq_true rfl, Nat.le_of_ble_eq_true rfl⟩ hl.1 (rcL rc0) ⟨Nat.le_refl _, Nat.le_refl _⟩ dX8_stored_38 (fun ra12 H locs hM => ?_)
        refine m_lconst (v := 0) (pc := 41) C dX8_stored_41 rfl ?_
        refine m_lcmp_le (tgt := 50) (pc := 42) C ra12 rl_0 dX8_stored_42 dX8_stored_43 (by decide) (fun c14 => ?_) (fun c14 => ?_)
        · have h := if_t h c14
          refine m_lconst (v := 0) (pc := 50) C dX8_stored_50 rfl ?_
          obtain ⟨a15, ea15, h⟩ := nm_some h
          have ra15 : R64 a15 := by rw [ea15]; exact w64_R _
          refine m_ladd (pc := 51) C dX8_stored_51 ea15 ?_
          refine m_lstore_n (pc := 52) C dX8_stored_52 rfl hl (by decide) (lvK1 0 rfl (Nat.ne_of_beq_eq_false rfl) (Nat.ne_of_beq_eq_false rfl) (lvK2 1 rfl (Nat.ne_of_beq_eq_false rfl) rfl (lvK1 3 rfl (Nat.ne_of_beq_eq_false rfl) (Nat.ne_of_beq_eq_false rfl) lvK0))) (lvN1 (Nat.ne_of_beq_eq_false rfl) (lvN1 (Nat.ne_of_beq_eq_false rfl) (lvN1 (Nat.ne_of_beq_eq_false rfl) lvN0))) (fun ls hl => ?_)
          obtain ⟨a16, ea16, h⟩ := nm_some h
          have ra16 : R32 a16 := by rw [ea16]; exact w32_R _
          refine m_iinc (k := 3) (pc := 53) C dX8_stored_53 hl rfl (by decide) ea16 (lvK1 0 rfl (Nat.ne_of_beq_eq_false rfl) (Nat.ne_of_beq_eq_false rfl) (lvK1 1 rfl (Nat.ne_of_beq_eq_false rfl) (Nat.ne_of_beq_eq_false rfl) (lvK1 2 rfl (Nat.ne_of_beq_eq_false rfl) (Nat.ne_of_beq_eq_false rfl) lvK0))) (fun ls hl => ?_)
          refine m_goto (tgt := 5) (pc := 56) C dX8_stored_56 (by decide) ?_
          exact ih _ _ _ _ _ h rx1 ra15 ra16 _ _ _ hM (lv_sub hl [2, 3, 1, 0] rfl)
        · have h := if_f h c14
          refine m_lconst (v := 1) (pc := 46) C dX8_stored_46 rfl ?_
          refine m_goto (tgt := 51) (pc := 47) C dX8_stored_47 (by decide) ?_
          obtain ⟨a17, ea17, h⟩ := nm_some h
          have ra17 : R64 a17 := by rw [ea17]; exact w64_R _
          refine m_ladd (pc := 51) C dX8_stored_51 ea17 ?_
          refine m_lstore_n (pc := 52) C dX8_stored_52 rfl hl (by decide) (lvK1 0 rfl (Nat.ne_of_beq_eq_false rfl) (Nat.ne_of_beq_eq_false rfl) (lvK2 1 rfl (Nat.ne_of_beq_eq_false rfl) rfl (lvK1 3 rfl (Nat.ne_of_beq_eq_false rfl) (Nat.ne_of_beq_eq_false rfl) lvK0))) (lvN1 (Nat.ne_of_beq_eq_false rfl) (lvN1 (Nat.ne_of_beq_eq_false rfl) (lvN1 (Nat.ne_of_beq_eq_false rfl) lvN0))) (fun ls hl => ?_)
          obtain ⟨a18, ea18, h⟩ := nm_some h
          have ra18 : R32 a18 := by rw [ea18]; exact w32_R _
          refine m_iinc (k := 3) (pc := 53) C dX8_stored_53 hl rfl (by decide) ea18 (lvK1 0 rfl (Nat.ne_of_beq_eq_false rfl) (Nat.ne_of_beq_eq_false rfl) (lvK1 1 rfl (Nat.ne_of_beq_eq_false rfl) (Nat.ne_of_beq_eq_false rfl) (lvK1 2 rfl (Nat.ne_of_beq_eq_false rfl) (Nat.ne_of_beq_eq_false rfl) lvK0))) (fun ls hl => ?_)
          refine m_goto (tgt := 5) (pc := 56) C dX8_stored_56 (by decide) ?_
          exact ih _ _ _ _ _ h rx1 ra17 ra18 _ _ _ hM (lv_sub hl [2, 3, 1, 0] rfl)
set_option maxHeartbeats 4000000 in
set_option maxRecDepth 100000 in
theorem c_X8_stored (l : Launch) (E : gE) (N : Nat) (x0 x1 : Int) (μ μ' : Mm) (r : Int) (h : f_X8_stored N x0 x1 μ = some (r, μ')) (rx1 : R32 x1) : gMet l E yX8_stored cX8_stored 5 (some .long) 2 41 [vr E x0, vi x1] (some (vl r)) (R64 r) μ μ' 0 0 := by
  refine g_ofW [1, 1] (by first | (simp only [List.map_cons, List.map_nil, vr_cat]; done) | (simp only [List.map_cons, List.map_nil, vr_cat]; rfl)) (by decide) (by decide) (fun p e s m below meth c ls C hM hl => ?_)
  replace C : gCx p s m _ meth c cX8_stored 5 (some .long) "stored" RX8 := C
  replace hl : lv_has ls 5 [(0, vr E x0), (1, vi x1)] := hl
  unfold f_X8_stored at h
  refine m_lconst (v := 0) (pc := 0) C dX8_stored_0 rfl ?_
  refine m_lstore_n (pc := 1) C dX8_stored_1 rfl hl (by decide) (lvK1 0 rfl (Nat.ne_of_beq_eq_false rfl) (Nat.ne_of_beq_eq_false rfl) (lvK2 1 rfl (Nat.ne_of_beq_eq_false rfl) rfl lvK0)) (lvN1 (Nat.ne_of_beq_eq_false rfl) (lvN1 (Nat.ne_of_beq_eq_false rfl) lvN0)) (fun ls hl => ?_)
  refine m_iconst (pc := 2) C dX8_stored_2 ?_
  refine m_istore (pc := 3) C dX8_stored_3 hl (by decide) (lvK1 0 rfl (Nat.ne_of_beq_eq_false rfl) (Nat.ne_of_beq_eq_false rfl) (lvK1 1 rfl (Nat.ne_of_beq_eq_false rfl) (Nat.ne_of_beq_eq_false rfl) (lvK1 2 rfl (Nat.ne_of_beq_eq_false rfl) (Nat.ne_of_beq_eq_false rfl) lvK0))) (fun ls hl => ?_)
  exact k_X8_stored_b5 C N N _ _ _ _ _ h rx1 rl_0 rk_0 _ _ _ hM (lv_sub hl [2, 3, 1, 0] rfl)
theorem hd_X8_stored : yX8_stored.cls ≠ "java/lang/invoke/MethodHandle" ∧ yX8_stored.cls ≠ "java/lang/invoke/VarHandle" ∧ (parseMethodDescriptor yX8_stored.desc).map (fun d => d.parameters.length) = some 1 := by decide +kernel

theorem V_X8_stored {p : Program} {l : Launch} {e : Env} {R : Room} {s : State} {m : MethodId} {args : Array Value} {below : List Frame} {meth : Method} {c : Code} {H : Heap} {locs : List Loc} {cells slots : Nat} {Q : State → Prop} {cc : ByteArray} {pc nL : Nat} {ls : Array Slot} {rest : List Value} {ret : Option FieldType} {nmm own : String} {E : gE} {μ μ1 : Mm} {index : Nat} (C : gCx p s m args meth c cc nL ret nmm own) (hM : MS E μ s H locs) {N : Nat} {x0 x1 v : Int} (hc : f_X8_stored N x0 x1 μ = some (v, μ1)) (rx1 : R32 x1) (hck : μ x0 (-2) = 10) (h1 : Cond.methodLink own index yX8_stored ∈ bigL) (hR : 3 ≤ R.frames ∧ 65 ≤ R.locals) (hl : ls.size = nL) (hcat : RC rest 8) (hf : cells + 0 ≤ R.cells ∧ slots + 0 ≤ R.slots) (hdg : decode cc pc = .ok (.invokevirtual index, 3)) (kk : (R64 v) → ∀ (H1 : Heap) (locs1 : List Loc), MS E μ1 s H1 locs1 → W p l e R s m args below meth c H1 locs1 (cells + 0) (slots + 0) Q (F0 m (pc + 3) ls (vl v :: rest))) : W p l e R s m args below meth c H locs cells slots Q (F0 m pc ls (vi x1 :: vr E x0 :: rest)) := g_callV C KF_X8 hM (c_X8_stored l E N x0 x1 μ μ1 v hc rx1) hck (gV h1 bw_6_94 bs_65 bw_1_13 bw_6_95) ⟨rfl, hd_X8_stored⟩ hR rfl hl rfl hcat hf hdg kk
/-! X8_owner -/
def f_X8_owner_b56 (N : Nat) (x0 x1 : Int) (μ : Mm) : Rs :=
  ck (μ x0 (-2) = 10) <|
  bd (f_X8_ownerAt N x1 μ) fun a2 μ3 =>
  ck (μ3 (μ x0 0) (-2) = 24 ∧ (0 : Int) ≤ a2 ∧ a2 < μ3 (μ x0 0) (-1)) <|
  some (μ3 (μ x0 0) a2, μ3)
def f_X8_owner_b66 (N : Nat) (x0 x1 : Int) (μ : Mm) : Rs :=
  ck (μ x0 (-2) = 10) <|
  bd (f_X8_ownerAt N x1 μ) fun a2 μ3 =>
  nm (w32 (a2 + 1)) fun a4 =>
  ck (μ3 (μ x0 0) (-2) = 24 ∧ (0 : Int) ≤ a4 ∧ a4 < μ3 (μ x0 0) (-1)) <|
  some (μ3 (μ x0 0) a4, μ3)
def f_X8_owner_b78 (N : Nat) (x0 x1 : Int) (μ : Mm) : Rs :=
  ck (μ x0 (-2) = 10) <|
  bd (f_X8_ownerAt N x1 μ) fun a2 μ3 =>
  nm (w32 (a2 + 2)) fun a4 =>
  ck (μ3 (μ x0 0) (-2) = 24 ∧ (0 : Int) ≤ a4 ∧ a4 < μ3 (μ x0 0) (-1)) <|
  some (μ3 (μ x0 0) a4, μ3)
def f_X8_owner_b90 (N : Nat) (x0 x1 : Int) (μ : Mm) : Rs :=
  ck (μ x0 (-2) = 10) <|
  bd (f_X8_use N x0 x1 μ) fun a2 μ3 =>
  some (a2, μ3)
def f_X8_owner_b96 (N : Nat) (x0 x1 : Int) (μ : Mm) : Rs :=
  ck (μ x0 (-2) = 10) <|
  bd (f_X8_use N x0 x1 μ) fun a2 μ3 =>
  ck (μ3 x0 (-2) = 10) <|
  bd (f_X8_ownerAt N x1 μ3) fun a5 μ6 =>
  nm (w32 (a5 + 1)) fun a7 =>
  ck (μ6 (μ3 x0 0) (-2) = 24 ∧ (0 : Int) ≤ a7 ∧ a7 < μ6 (μ3 x0 0) (-1)) <|
  ck (μ6 x0 (-2) = 10) <|
  bd (f_X8_isCovered N x0 a2 (μ6 (μ3 x0 0) a7) μ6) fun a10 μ11 =>
  if a10 = 0 then
    (some (0, μ11))
  else
  some (1, μ11)
def f_X8_owner_b125 (N : Nat) (x0 x1 : Int) (μ : Mm) : Rs :=
  ck (μ x0 (-2) = 10) <|
  bd (f_X8_stored N x0 x1 μ) fun a2 μ3 =>
  some (a2, μ3)
def f_X8_owner_b131 (N : Nat) (x0 x1 : Int) (μ : Mm) : Rs :=
  ck (μ x0 (-2) = 10) <|
  bd (f_X8_ownerAt N x1 μ) fun a2 μ3 =>
  nm (w32 (a2 + 3)) fun a4 =>
  ck (μ3 (μ x0 0) (-2) = 24 ∧ (0 : Int) ≤ a4 ∧ a4 < μ3 (μ x0 0) (-1)) <|
  some (μ3 (μ x0 0) a4, μ3)
def f_X8_owner_b143 (N : Nat) (μ : Mm) : Rs :=
  some ((-100000002), μ)
def f_X8_owner (N : Nat) (x0 x1 x2 : Int) (μ : Mm) : Rs :=
  ck (μ x0 (-2) = 10) <|
  bd (f_X8_noOwner N x0 x1 μ) fun a2 μ3 =>
  if a2 = 0 then
    (if x2 = 0 then
       (f_X8_owner_b56 N x0 x1 μ3)
     else
     if x2 = 1 then
       (f_X8_owner_b66 N x0 x1 μ3)
     else
     if x2 = 2 then
       (f_X8_owner_b78 N x0 x1 μ3)
     else
     if x2 = 3 then
       (f_X8_owner_b90 N x0 x1 μ3)
     else
     if x2 = 4 then
       (f_X8_owner_b96 N x0 x1 μ3)
     else
     if x2 = 5 then
       (f_X8_owner_b125 N x0 x1 μ3)
     else
     if x2 = 6 then
       (f_X8_owner_b131 N x0 x1 μ3)
     else
     f_X8_owner_b143 N μ3)
  else
  some ((-100000001), μ3)
set_option maxHeartbeats 4000000 in
set_option maxRecDepth 100000 in
theorem k_X8_owner_b56 (C : gCx p s m args meth c cX8_owner 3 (some .long) "owner" RX8) (N : Nat) {r : Int} {μ' : Mm} : ∀ (x0 x1 : Int) (μ : Mm), f_X8_owner_b56 N x0 x1 μ = some (r, μ') → R32 x1 → ∀ (H : Heap) (locs : List Loc) (ls : Array Slot), MS E μ s H locs → lv_has ls 3 [(0, vr E x0), (1, vi x1)] → W p l e ({ frames := 5, cells := 0, slots := 0, locals := 117 } : Room) s m args below meth c H locs 0 0 (MQ below (gQ E (some (vl r)) (R64 r) μ') args s 0 0 (gA E)) (F0 m 56 ls []) := by
  intro x0 x1 μ h rx1 H locs ls hM hl
  unfold f_X8_owner_b56 at h
  refine m_aload_n (pc := 56) C dX8_owner_56 rfl (lv_at hl 0 rfl) ?_
  obtain ⟨q1, h⟩ := ck_some h
  refine G_X8_now (pc := 57) C hM bw_4_227 q1 dX8_owner_57 ?_
  refine m_iload_n (pc := 60) C dX8_owner_60 rfl (lv_at hl 1 rfl) ?_
  obtain ⟨a2, μ3, ca2, h⟩ := bd_some h
  refine V_X8_ownerAt (pc := 61) C hM ca2 rx1 bw_5_65 ⟨Nat.le_of_ble_eq_true rfl, Nat.le_of_ble_eq_true rfl⟩ hl.1 (rcR rc0) ⟨Nat.le_refl _, Nat.le_refl _⟩ dX8_owner_61 (fun ra2 H locs hM => ?_)
  obtain ⟨q4, h⟩ := ck_some h
  have gq4 := Ar_lald hM q4.1 q4.2.1 q4.2.2
  refine m_lald (pc := 64) C hM q4.1 q4.2.1 q4.2.2 dX8_owner_64 ?_
  cases h
  exact m_lret (pc := 65) C hM gq4 dX8_owner_65
set_option maxHeartbeats 4000000 in
set_option maxRecDepth 100000 in
theorem k_X8_owner_b66 (C : gCx p s m args meth c cX8_owner 3 (some .long) "owner" RX8) (N : Nat) {r : Int} {μ' : Mm} : ∀ (x0 x1 : Int) (μ : Mm), f_X8_owner_b66 N x0 x1 μ = some (r, μ') → R32 x1 → ∀ (H : Heap) (locs : List Loc) (ls : Array Slot), MS E μ s H locs → lv_has ls 3 [(0, vr E x0), (1, vi x1)] → W p l e ({ frames := 5, cells := 0, slots := 0, locals := 117 } : Room) s m args below meth c H locs 0 0 (MQ below (gQ E (some (vl r)) (R64 r) μ') args s 0 0 (gA E)) (F0 m 66 ls []) := by
  intro x0 x1 μ h rx1 H locs ls hM hl
  unfold f_X8_owner_b66 at h
  refine m_aload_n (pc := 66) C dX8_owner_66 rfl (lv_at hl 0 rfl) ?_
  obtain ⟨q1, h⟩ := ck_some h
  refine G_X8_now (pc := 67) C hM bw_4_227 q1 dX8_owner_67 ?_
  refine m_iload_n (pc := 70) C dX8_owner_70 rfl (lv_at hl 1 rfl) ?_
  obtain ⟨a2, μ3, ca2, h⟩ := bd_some h
  refine V_X8_ownerAt (pc := 71) C hM ca2 rx1 bw_5_65 ⟨Nat.le_of_ble_eq_true rfl, Nat.le_of_ble_eq_true rfl⟩ hl.1 (rcR rc0) ⟨Nat.le_refl _, Nat.le_refl _⟩ dX8_owner_71 (fun ra2 H locs hM => ?_)
  refine m_iconst (pc := 74) C dX8_owner_74 ?_
  obtain ⟨a4, ea4, h⟩ := nm_some h
  have ra4 : R32 a4 := by rw [ea4]; exact w32_R _
  refine m_iadd (pc := 75) C dX8_owner_75 ea4 ?_
  obtain ⟨q5, h⟩ := ck_some h
  have gq5 := Ar_lald hM q5.1 q5.2.1 q5.2.2
  refine m_lald (pc := 76) C hM q5.1 q5.2.1 q5.2.2 dX8_owner_76 ?_
  cases h
  exact m_lret (pc := 77) C hM gq5 dX8_owner_77
set_option maxHeartbeats 4000000 in
set_option maxRecDepth 100000 in
theorem k_X8_owner_b78 (C : gCx p s m args meth c cX8_owner 3 (some .long) "owner" RX8) (N : Nat) {r : Int} {μ' : Mm} : ∀ (x0 x1 : Int) (μ : Mm), f_X8_owner_b78 N x0 x1 μ = some (r, μ') → R32 x1 → ∀ (H : Heap) (locs : List Loc) (ls : Array Slot), MS E μ s H locs → lv_has ls 3 [(0, vr E x0), (1, vi x1)] → W p l e ({ frames := 5, cells := 0, slots := 0, locals := 117 } : Room) s m args below meth c H locs 0 0 (MQ below (gQ E (some (vl r)) (R64 r) μ') args s 0 0 (gA E)) (F0 m 78 ls []) := by
  intro x0 x1 μ h rx1 H locs ls hM hl
  unfold f_X8_owner_b78 at h
  refine m_aload_n (pc := 78) C dX8_owner_78 rfl (lv_at hl 0 rfl) ?_
  obtain ⟨q1, h⟩ := ck_some h
  refine G_X8_now (pc := 79) C hM bw_4_227 q1 dX8_owner_79 ?_
  refine m_iload_n (pc := 82) C dX8_owner_82 rfl (lv_at hl 1 rfl) ?_
  obtain ⟨a2, μ3, ca2, h⟩ := bd_some h
  refine V_X8_ownerAt (pc := 83) C hM ca2 rx1 bw_5_65 ⟨Nat.le_of_ble_eq_true rfl, Nat.le_of_ble_eq_true rfl⟩ hl.1 (rcR rc0) ⟨Nat.le_refl _, Nat.le_refl _⟩ dX8_owner_83 (fun ra2 H locs hM => ?_)
  refine m_iconst (pc := 86) C dX8_owner_86 ?_
  obtain ⟨a4, ea4, h⟩ := nm_some h
  have ra4 : R32 a4 := by rw [ea4]; exact w32_R _
  refine m_iadd (pc := 87) C dX8_owner_87 ea4 ?_
  obtain ⟨q5, h⟩ := ck_some h
  have gq5 := Ar_lald hM q5.1 q5.2.1 q5.2.2
  refine m_lald (pc := 88) C hM q5.1 q5.2.1 q5.2.2 dX8_owner_88 ?_
  cases h
  exact m_lret (pc := 89) C hM gq5 dX8_owner_89
set_option maxHeartbeats 4000000 in
set_option maxRecDepth 100000 in
theorem k_X8_owner_b90 (C : gCx p s m args meth c cX8_owner 3 (some .long) "owner" RX8) (N : Nat) {r : Int} {μ' : Mm} : ∀ (x0 x1 : Int) (μ : Mm), f_X8_owner_b90 N x0 x1 μ = some (r, μ') → R32 x1 → ∀ (H : Heap) (locs : List Loc) (ls : Array Slot), MS E μ s H locs → lv_has ls 3 [(0, vr E x0), (1, vi x1)] → W p l e ({ frames := 5, cells := 0, slots := 0, locals := 117 } : Room) s m args below meth c H locs 0 0 (MQ below (gQ E (some (vl r)) (R64 r) μ') args s 0 0 (gA E)) (F0 m 90 ls []) := by
  intro x0 x1 μ h rx1 H locs ls hM hl
  unfold f_X8_owner_b90 at h
  refine m_aload_n (pc := 90) C dX8_owner_90 rfl (lv_at hl 0 rfl) ?_
  refine m_iload_n (pc := 91) C dX8_owner_91 rfl (lv_at hl 1 rfl) ?_
  obtain ⟨q1, h⟩ := ck_some h
  obtain ⟨a2, μ3, ca2, h⟩ := bd_some h
  refine V_X8_use (pc := 92) C hM ca2 rx1 q1 bw_5_83 ⟨Nat.le_of_ble_eq_true rfl, Nat.le_of_ble_eq_true rfl⟩ hl.1 rc0 ⟨Nat.le_refl _, Nat.le_refl _⟩ dX8_owner_92 (fun ra2 H locs hM => ?_)
  cases h
  exact m_lret (pc := 95) C hM ra2 dX8_owner_95
set_option maxHeartbeats 4000000 in
set_option maxRecDepth 100000 in
theorem k_X8_owner_b96 (C : gCx p s m args meth c cX8_owner 3 (some .long) "owner" RX8) (N : Nat) {r : Int} {μ' : Mm} : ∀ (x0 x1 : Int) (μ : Mm), f_X8_owner_b96 N x0 x1 μ = some (r, μ') → R32 x1 → ∀ (H : Heap) (locs : List Loc) (ls : Array Slot), MS E μ s H locs → lv_has ls 3 [(0, vr E x0), (1, vi x1)] → W p l e ({ frames := 5, cells := 0, slots := 0, locals := 117 } : Room) s m args below meth c H locs 0 0 (MQ below (gQ E (some (vl r)) (R64 r) μ') args s 0 0 (gA E)) (F0 m 96 ls []) := by
  intro x0 x1 μ h rx1 H locs ls hM hl
  unfold f_X8_owner_b96 at h
  refine m_aload_n (pc := 96) C dX8_owner_96 rfl (lv_at hl 0 rfl) ?_
  refine m_aload_n (pc := 97) C dX8_owner_97 rfl (lv_at hl 0 rfl) ?_
  refine m_iload_n (pc := 98) C dX8_owner_98 rfl (lv_at hl 1 rfl) ?_
  obtain ⟨q1, h⟩ := ck_some h
  obtain ⟨a2, μ3, ca2, h⟩ := bd_some h
  refine V_X8_use (pc := 99) C hM ca2 rx1 q1 bw_5_83 ⟨Nat.le_of_ble_eq_true rfl, Nat.le_of_ble_eq_true rfl⟩ hl.1 (rcR rc0) ⟨Nat.le_refl _, Nat.le_refl _⟩ dX8_owner_99 (fun ra2 H locs hM => ?_)
  refine m_aload_n (pc := 102) C dX8_owner_102 rfl (lv_at hl 0 rfl) ?_
  obtain ⟨q4, h⟩ := ck_some h
  refine G_X8_now (pc := 103) C hM bw_4_227 q4 dX8_owner_103 ?_
  refine m_iload_n (pc := 106) C dX8_owner_106 rfl (lv_at hl 1 rfl) ?_
  obtain ⟨a5, μ6, ca5, h⟩ := bd_some h
  refine V_X8_ownerAt (pc := 107) C hM ca5 rx1 bw_5_65 ⟨Nat.le_of_ble_eq_true rfl, Nat.le_of_ble_eq_true rfl⟩ hl.1 (rcR (rcL (rcR rc0))) ⟨Nat.le_refl _, Nat.le_refl _⟩ dX8_owner_107 (fun ra5 H locs hM => ?_)
  refine m_iconst (pc := 110) C dX8_owner_110 ?_
  obtain ⟨a7, ea7, h⟩ := nm_some h
  have ra7 : R32 a7 := by rw [ea7]; exact w32_R _
  refine m_iadd (pc := 111) C dX8_owner_111 ea7 ?_
  obtain ⟨q8, h⟩ := ck_some h
  have gq8 := Ar_lald hM q8.1 q8.2.1 q8.2.2
  refine m_lald (pc := 112) C hM q8.1 q8.2.1 q8.2.2 dX8_owner_112 ?_
  obtain ⟨q9, h⟩ := ck_some h
  obtain ⟨a10, μ11, ca10, h⟩ := bd_some h
  refine V_X8_isCovered (pc := 113) C hM ca10 ra2 gq8 q9 bw_5_117 ⟨Nat.le_of_ble_eq_true rfl, Nat.le_of_ble_eq_true rfl⟩ hl.1 rc0 ⟨Nat.le_refl _, Nat.le_refl _⟩ dX8_owner_113 (fun ra10 H locs hM => ?_)
  refine m_if_eq (tgt := 123) (pc := 116) C ra10 dX8_owner_116 (by decide) (fun c12 => ?_) (fun c12 => ?_)
  · have h := if_t h c12
    refine m_lconst (v := 0) (pc := 123) C dX8_owner_123 rfl ?_
    cases h
    exact m_lret (pc := 124) C hM rl_0 dX8_owner_124
  · have h := if_f h c12
    refine m_lconst (v := 1) (pc := 119) C dX8_owner_119 rfl ?_
    refine m_goto (tgt := 124) (pc := 120) C dX8_owner_120 (by decide) ?_
    cases h
    exact m_lret (pc := 124) C hM rl_1 dX8_owner_124
set_option maxHeartbeats 4000000 in
set_option maxRecDepth 100000 in
theorem k_X8_owner_b125 (C : gCx p s m args meth c cX8_owner 3 (some .long) "owner" RX8) (N : Nat) {r : Int} {μ' : Mm} : ∀ (x0 x1 : Int) (μ : Mm), f_X8_owner_b125 N x0 x1 μ = some (r, μ') → R32 x1 → ∀ (H : Heap) (locs : List Loc) (ls : Array Slot), MS E μ s H locs → lv_has ls 3 [(0, vr E x0), (1, vi x1)] → W p l e ({ frames := 5, cells := 0, slots := 0, locals := 117 } : Room) s m args below meth c H locs 0 0 (MQ below (gQ E (some (vl r)) (R64 r) μ') args s 0 0 (gA E)) (F0 m 125 ls []) := by
  intro x0 x1 μ h rx1 H locs ls hM hl
  unfold f_X8_owner_b125 at h
  refine m_aload_n (pc := 125) C dX8_owner_125 rfl (lv_at hl 0 rfl) ?_
  refine m_iload_n (pc := 126) C dX8_owner_126 rfl (lv_at hl 1 rfl) ?_
  obtain ⟨q1, h⟩ := ck_some h
  obtain ⟨a2, μ3, ca2, h⟩ := bd_some h
  refine V_X8_stored (pc := 127) C hM ca2 rx1 q1 bw_6_92 ⟨Nat.le_of_ble_eq_true rfl, Nat.le_of_ble_eq_true rfl⟩ hl.1 rc0 ⟨Nat.le_refl _, Nat.le_refl _⟩ dX8_owner_127 (fun ra2 H locs hM => ?_)
  cases h
  exact m_lret (pc := 130) C hM ra2 dX8_owner_130
set_option maxHeartbeats 4000000 in
set_option maxRecDepth 100000 in
theorem k_X8_owner_b131 (C : gCx p s m args meth c cX8_owner 3 (some .long) "owner" RX8) (N : Nat) {r : Int} {μ' : Mm} : ∀ (x0 x1 : Int) (μ : Mm), f_X8_owner_b131 N x0 x1 μ = some (r, μ') → R32 x1 → ∀ (H : Heap) (locs : List Loc) (ls : Array Slot), MS E μ s H locs → lv_has ls 3 [(0, vr E x0), (1, vi x1)] → W p l e ({ frames := 5, cells := 0, slots := 0, locals := 117 } : Room) s m args below meth c H locs 0 0 (MQ below (gQ E (some (vl r)) (R64 r) μ') args s 0 0 (gA E)) (F0 m 131 ls []) := by
  intro x0 x1 μ h rx1 H locs ls hM hl
  unfold f_X8_owner_b131 at h
  refine m_aload_n (pc := 131) C dX8_owner_131 rfl (lv_at hl 0 rfl) ?_
  obtain ⟨q1, h⟩ := ck_some h
  refine G_X8_now (pc := 132) C hM bw_4_227 q1 dX8_owner_132 ?_
  refine m_iload_n (pc := 135) C dX8_owner_135 rfl (lv_at hl 1 rfl) ?_
  obtain ⟨a2, μ3, ca2, h⟩ := bd_some h
  refine V_X8_ownerAt (pc := 136) C hM ca2 rx1 bw_5_65 ⟨Nat.le_of_ble_eq_true rfl, Nat.le_of_ble_eq_true rfl⟩ hl.1 (rcR rc0) ⟨Nat.le_refl _, Nat.le_refl _⟩ dX8_owner_136 (fun ra2 H locs hM => ?_)
  refine m_iconst (pc := 139) C dX8_owner_139 ?_
  obtain ⟨a4, ea4, h⟩ := nm_some h
  have ra4 : R32 a4 := by rw [ea4]; exact w32_R _
  refine m_iadd (pc := 140) C dX8_owner_140 ea4 ?_
  obtain ⟨q5, h⟩ := ck_some h
  have gq5 := Ar_lald hM q5.1 q5.2.1 q5.2.2
  refine m_lald (pc := 141) C hM q5.1 q5.2.1 q5.2.2 dX8_owner_141 ?_
  cases h
  exact m_lret (pc := 142) C hM gq5 dX8_owner_142
set_option maxHeartbeats 4000000 in
set_option maxRecDepth 100000 in
theorem k_X8_owner_b143 (C : gCx p s m args meth c cX8_owner 3 (some .long) "owner" RX8) (N : Nat) {r : Int} {μ' : Mm} : ∀ (μ : Mm), f_X8_owner_b143 N μ = some (r, μ') → ∀ (H : Heap) (locs : List Loc) (ls : Array Slot), MS E μ s H locs → lv_has ls 3 [] → W p l e ({ frames := 5, cells := 0, slots := 0, locals := 117 } : Room) s m args below meth c H locs 0 0 (MQ below (gQ E (some (vl r)) (R64 r) μ') args s 0 0 (gA E)) (F0 m 143 ls []) := by
  intro μ h H locs ls hM hl
  unfold f_X8_owner_b143 at h
  refine m_ldc2 (n := -100000002) (pc := 143) C bw_6_96 rfl dX8_owner_143 ?_
  cases h
  exact m_lret (pc := 146) C hM rl_m100000002 dX8_owner_146
set_option maxHeartbeats 4000000 in
set_option maxRecDepth 100000 in
theorem c_X8_owner (l : Launch) (E : gE) (N : Nat) (x0 x1 x2 : Int) (μ μ' : Mm) (r : Int) (h : f_X8_owner N x0 x1 x2 μ = some (r, μ')) (rx1 : R32 x1) (rx2 : R32 x2) : gMet l E yX8_owner cX8_owner 3 (some .long) 5 117 [vr E x0, vi x1, vi x2] (some (vl r)) (R64 r) μ μ' 0 0 := by
  refine g_ofW [1, 1, 1] (by first | (simp only [List.map_cons, List.map_nil, vr_cat]; done) | (simp only [List.map_cons, List.map_nil, vr_cat]; rfl)) (by decide) (by decide) (fun p e s m below meth c ls C hM hl => ?_)
  replace C : gCx p s m _ meth c cX8_owner 3 (some .long) "owner" RX8 := C
  replace hl : lv_has ls 3 [(0, vr E x0), (1, vi x1), (2, vi x2)] := hl
  unfold f_X8_owner at h
  refine m_aload_n (pc := 0) C dX8_owner_0 rfl (lv_at hl 0 rfl) ?_
  refine m_iload_n (pc := 1) C dX8_owner_1 rfl (lv_at hl 1 rfl) ?_
  obtain ⟨q1, h⟩ := ck_some h
  obtain ⟨a2, μ3, ca2, h⟩ := bd_some h
  refine V_X8_noOwner (pc := 2) C hM ca2 rx1 q1 bw_5_72 ⟨Nat.le_of_ble_eq_true rfl, Nat.le_of_ble_eq_true rfl⟩ hl.1 rc0 ⟨Nat.le_refl _, Nat.le_refl _⟩ dX8_owner_2 (fun ra2 H locs hM => ?_)
  refine m_if_eq (tgt := 12) (pc := 5) C ra2 dX8_owner_5 (by decide) (fun c4 => ?_) (fun c4 => ?_)
  · have h := if_t h c4
    refine m_iload_n (pc := 12) C dX8_owner_12 rfl (lv_at hl 2 rfl) ?_
    by_cases c5 : x2 = 0
    · have h := if_t h c5
      refine m_tab (pc := 13) (tgt := 56) C rx2 c5 dX8_owner_13 (by decide) (by decide) rfl (by decide) ?_
      exact k_X8_owner_b56 C N _ _ _ h rx1 _ _ _ hM (lv_sub hl [0, 1] rfl)
    replace h := if_f h c5
    by_cases c6 : x2 = 1
    · have h := if_t h c6
      refine m_tab (pc := 13) (tgt := 66) C rx2 c6 dX8_owner_13 (by decide) (by decide) rfl (by decide) ?_
      exact k_X8_owner_b66 C N _ _ _ h rx1 _ _ _ hM (lv_sub hl [0, 1] rfl)
    replace h := if_f h c6
    by_cases c7 : x2 = 2
    · have h := if_t h c7
      refine m_tab (pc := 13) (tgt := 78) C rx2 c7 dX8_owner_13 (by decide) (by decide) rfl (by decide) ?_
      exact k_X8_owner_b78 C N _ _ _ h rx1 _ _ _ hM (lv_sub hl [0, 1] rfl)
    replace h := if_f h c7
    by_cases c8 : x2 = 3
    · have h := if_t h c8
      refine m_tab (pc := 13) (tgt := 90) C rx2 c8 dX8_owner_13 (by decide) (by decide) rfl (by decide) ?_
      exact k_X8_owner_b90 C N _ _ _ h rx1 _ _ _ hM (lv_sub hl [0, 1] rfl)
    replace h := if_f h c8
    by_cases c9 : x2 = 4
    · have h := if_t h c9
      refine m_tab (pc := 13) (tgt := 96) C rx2 c9 dX8_owner_13 (by decide) (by decide) rfl (by decide) ?_
      exact k_X8_owner_b96 C N _ _ _ h rx1 _ _ _ hM (lv_sub hl [0, 1] rfl)
    replace h := if_f h c9
    by_cases c10 : x2 = 5
    · have h := if_t h c10
      refine m_tab (pc := 13) (tgt := 125) C rx2 c10 dX8_owner_13 (by decide) (by decide) rfl (by decide) ?_
      exact k_X8_owner_b125 C N _ _ _ h rx1 _ _ _ hM (lv_sub hl [0, 1] rfl)
    replace h := if_f h c10
    by_cases c11 : x2 = 6
    · have h := if_t h c11
      refine m_tab (pc := 13) (tgt := 131) C rx2 c11 dX8_owner_13 (by decide) (by decide) rfl (by decide) ?_
      exact k_X8_owner_b131 C N _ _ _ h rx1 _ _ _ hM (lv_sub hl [0, 1] rfl)
    replace h := if_f h c11
    refine m_tabD (pc := 13) (tgt := 143) C rx2 dX8_owner_13 (by omega) (by decide) ?_
    exact k_X8_owner_b143 C N _ h _ _ _ hM (lv_sub hl [] rfl)
  · have h := if_f h c4
    refine m_ldc2 (n := -100000001) (pc := 8) C bw_6_91 rfl dX8_owner_8 ?_
    cases h
    exact m_lret (pc := 11) C hM rl_m100000001 dX8_owner_11
theorem hd_X8_owner : yX8_owner.cls ≠ "java/lang/invoke/MethodHandle" ∧ yX8_owner.cls ≠ "java/lang/invoke/VarHandle" ∧ (parseMethodDescriptor yX8_owner.desc).map (fun d => d.parameters.length) = some 2 := by decide +kernel

theorem V_X8_owner {p : Program} {l : Launch} {e : Env} {R : Room} {s : State} {m : MethodId} {args : Array Value} {below : List Frame} {meth : Method} {c : Code} {H : Heap} {locs : List Loc} {cells slots : Nat} {Q : State → Prop} {cc : ByteArray} {pc nL : Nat} {ls : Array Slot} {rest : List Value} {ret : Option FieldType} {nmm own : String} {E : gE} {μ μ1 : Mm} {index : Nat} (C : gCx p s m args meth c cc nL ret nmm own) (hM : MS E μ s H locs) {N : Nat} {x0 x1 x2 v : Int} (hc : f_X8_owner N x0 x1 x2 μ = some (v, μ1)) (rx1 : R32 x1) (rx2 : R32 x2) (hck : μ x0 (-2) = 10) (h1 : Cond.methodLink own index yX8_owner ∈ bigL) (hR : 6 ≤ R.frames ∧ 139 ≤ R.locals) (hl : ls.size = nL) (hcat : RC rest 8) (hf : cells + 0 ≤ R.cells ∧ slots + 0 ≤ R.slots) (hdg : decode cc pc = .ok (.invokevirtual index, 3)) (kk : (R64 v) → ∀ (H1 : Heap) (locs1 : List Loc), MS E μ1 s H1 locs1 → W p l e R s m args below meth c H1 locs1 (cells + 0) (slots + 0) Q (F0 m (pc + 3) ls (vl v :: rest))) : W p l e R s m args below meth c H locs cells slots Q (F0 m pc ls (vi x2 :: vi x1 :: vr E x0 :: rest)) := g_callV C KF_X8 hM (c_X8_owner l E N x0 x1 x2 μ μ1 v hc rx1 rx2) hck (gV h1 bw_6_88 bw_6_89 bw_1_13 bw_6_90) ⟨rfl, hd_X8_owner⟩ hR rfl hl rfl hcat hf hdg kk
/-! X8_lot -/
def f_X8_lot_b52 (N : Nat) (x0 x1 : Int) (μ : Mm) : Rs :=
  ck (μ x0 (-2) = 10) <|
  bd (f_X8_units N x0 x1 μ) fun a2 μ3 =>
  nm (w32 a2) fun a4 =>
  some (a4, μ3)
def f_X8_lot_b59 (N : Nat) (x0 x1 : Int) (μ : Mm) : Rs :=
  ck (μ x0 (-2) = 10) <|
  bd (f_X8_suspended N x0 x1 μ) fun a2 μ3 =>
  nm (w32 a2) fun a4 =>
  some (a4, μ3)
def f_X8_lot_b66 (N : Nat) (x0 x1 : Int) (μ : Mm) : Rs :=
  bd (f_X8_lotAt N x1 μ) fun a1 μ2 =>
  nm (w32 (a1 + 8)) fun a3 =>
  ck (μ2 x0 (-2) = 10) <|
  bd (f_X8_number N x0 a3 μ2) fun a5 μ6 =>
  some (a5, μ6)
def f_X8_lot_b78 (N : Nat) (x0 x1 : Int) (μ : Mm) : Rs :=
  bd (f_X8_lotAt N x1 μ) fun a1 μ2 =>
  nm (w32 (a1 + 9)) fun a3 =>
  ck (μ2 x0 (-2) = 10) <|
  bd (f_X8_number N x0 a3 μ2) fun a5 μ6 =>
  some (a5, μ6)
def f_X8_lot_b90 (N : Nat) (x0 x1 : Int) (μ : Mm) : Rs :=
  bd (f_X8_lotAt N x1 μ) fun a1 μ2 =>
  nm (w32 (a1 + 10)) fun a3 =>
  ck (μ2 x0 (-2) = 10) <|
  bd (f_X8_number N x0 a3 μ2) fun a5 μ6 =>
  some (a5, μ6)
def f_X8_lot_b102 (N : Nat) (x0 x1 : Int) (μ : Mm) : Rs :=
  ck (μ x0 (-2) = 10) <|
  bd (f_X8_waiting N x0 x1 1 μ) fun a2 μ3 =>
  nm (w32 a2) fun a4 =>
  some (a4, μ3)
def f_X8_lot_b110 (N : Nat) (x0 x1 x2 : Int) (μ : Mm) : Rs :=
  bd (f_X8_in N x2 0 6 μ) fun a1 μ2 =>
  if a1 = 0 then
    (some ((-100000002), μ2))
  else
  bd (f_X8_lotAt N x1 μ2) fun a4 μ5 =>
  nm (w32 (a4 + x2)) fun a6 =>
  ck (μ5 x0 (-2) = 10) <|
  bd (f_X8_number N x0 a6 μ5) fun a8 μ9 =>
  some (a8, μ9)
def f_X8_lot (N : Nat) (x0 x1 x2 : Int) (μ : Mm) : Rs :=
  ck (μ x0 (-2) = 10) <|
  bd (f_X8_noLot N x0 x1 μ) fun a2 μ3 =>
  if a2 = 0 then
    (if x2 = 7 then
       (f_X8_lot_b52 N x0 x1 μ3)
     else
     if x2 = 8 then
       (f_X8_lot_b59 N x0 x1 μ3)
     else
     if x2 = 9 then
       (f_X8_lot_b66 N x0 x1 μ3)
     else
     if x2 = 10 then
       (f_X8_lot_b78 N x0 x1 μ3)
     else
     if x2 = 11 then
       (f_X8_lot_b90 N x0 x1 μ3)
     else
     if x2 = 12 then
       (f_X8_lot_b102 N x0 x1 μ3)
     else
     f_X8_lot_b110 N x0 x1 x2 μ3)
  else
  some ((-100000001), μ3)
set_option maxHeartbeats 4000000 in
set_option maxRecDepth 100000 in
theorem k_X8_lot_b52 (C : gCx p s m args meth c cX8_lot 3 (some .int) "lot" RX8) (N : Nat) {r : Int} {μ' : Mm} : ∀ (x0 x1 : Int) (μ : Mm), f_X8_lot_b52 N x0 x1 μ = some (r, μ') → R32 x1 → ∀ (H : Heap) (locs : List Loc) (ls : Array Slot), MS E μ s H locs → lv_has ls 3 [(0, vr E x0), (1, vi x1)] → W p l e ({ frames := 4, cells := 0, slots := 0, locals := 93 } : Room) s m args below meth c H locs 0 0 (MQ below (gQ E (some (vi r)) (R32 r) μ') args s 0 0 (gA E)) (F0 m 52 ls []) := by
  intro x0 x1 μ h rx1 H locs ls hM hl
  unfold f_X8_lot_b52 at h
  refine m_aload_n (pc := 52) C dX8_lot_52 rfl (lv_at hl 0 rfl) ?_
  refine m_iload_n (pc := 53) C dX8_lot_53 rfl (lv_at hl 1 rfl) ?_
  obtain ⟨q1, h⟩ := ck_some h
  obtain ⟨a2, μ3, ca2, h⟩ := bd_some h
  refine V_X8_units (pc := 54) C hM ca2 rx1 q1 bw_5_94 ⟨Nat.le_of_ble_eq_true rfl, Nat.le_of_ble_eq_true rfl⟩ hl.1 rc0 ⟨Nat.le_refl _, Nat.le_refl _⟩ dX8_lot_54 (fun ra2 H locs hM => ?_)
  obtain ⟨a4, ea4, h⟩ := nm_some h
  have ra4 : R32 a4 := by rw [ea4]; exact w32_R _
  refine m_l2i (pc := 57) C dX8_lot_57 ea4 ?_
  cases h
  exact m_iret (pc := 58) C hM ra4 dX8_lot_58
set_option maxHeartbeats 4000000 in
set_option maxRecDepth 100000 in
theorem k_X8_lot_b59 (C : gCx p s m args meth c cX8_lot 3 (some .int) "lot" RX8) (N : Nat) {r : Int} {μ' : Mm} : ∀ (x0 x1 : Int) (μ : Mm), f_X8_lot_b59 N x0 x1 μ = some (r, μ') → R32 x1 → ∀ (H : Heap) (locs : List Loc) (ls : Array Slot), MS E μ s H locs → lv_has ls 3 [(0, vr E x0), (1, vi x1)] → W p l e ({ frames := 4, cells := 0, slots := 0, locals := 93 } : Room) s m args below meth c H locs 0 0 (MQ below (gQ E (some (vi r)) (R32 r) μ') args s 0 0 (gA E)) (F0 m 59 ls []) := by
  intro x0 x1 μ h rx1 H locs ls hM hl
  unfold f_X8_lot_b59 at h
  refine m_aload_n (pc := 59) C dX8_lot_59 rfl (lv_at hl 0 rfl) ?_
  refine m_iload_n (pc := 60) C dX8_lot_60 rfl (lv_at hl 1 rfl) ?_
  obtain ⟨q1, h⟩ := ck_some h
  obtain ⟨a2, μ3, ca2, h⟩ := bd_some h
  refine V_X8_suspended (pc := 61) C hM ca2 rx1 q1 bw_5_90 ⟨Nat.le_of_ble_eq_true rfl, Nat.le_of_ble_eq_true rfl⟩ hl.1 rc0 ⟨Nat.le_refl _, Nat.le_refl _⟩ dX8_lot_61 (fun ra2 H locs hM => ?_)
  obtain ⟨a4, ea4, h⟩ := nm_some h
  have ra4 : R32 a4 := by rw [ea4]; exact w32_R _
  refine m_l2i (pc := 64) C dX8_lot_64 ea4 ?_
  cases h
  exact m_iret (pc := 65) C hM ra4 dX8_lot_65
set_option maxHeartbeats 4000000 in
set_option maxRecDepth 100000 in
theorem k_X8_lot_b66 (C : gCx p s m args meth c cX8_lot 3 (some .int) "lot" RX8) (N : Nat) {r : Int} {μ' : Mm} : ∀ (x0 x1 : Int) (μ : Mm), f_X8_lot_b66 N x0 x1 μ = some (r, μ') → R32 x1 → ∀ (H : Heap) (locs : List Loc) (ls : Array Slot), MS E μ s H locs → lv_has ls 3 [(0, vr E x0), (1, vi x1)] → W p l e ({ frames := 4, cells := 0, slots := 0, locals := 93 } : Room) s m args below meth c H locs 0 0 (MQ below (gQ E (some (vi r)) (R32 r) μ') args s 0 0 (gA E)) (F0 m 66 ls []) := by
  intro x0 x1 μ h rx1 H locs ls hM hl
  unfold f_X8_lot_b66 at h
  refine m_aload_n (pc := 66) C dX8_lot_66 rfl (lv_at hl 0 rfl) ?_
  refine m_iload_n (pc := 67) C dX8_lot_67 rfl (lv_at hl 1 rfl) ?_
  obtain ⟨a1, μ2, ca1, h⟩ := bd_some h
  refine V_X8_lotAt (pc := 68) C hM ca1 rx1 bw_5_87 ⟨Nat.le_of_ble_eq_true rfl, Nat.le_of_ble_eq_true rfl⟩ hl.1 (rcR rc0) ⟨Nat.le_refl _, Nat.le_refl _⟩ dX8_lot_68 (fun ra1 H locs hM => ?_)
  refine m_bipush (pc := 71) C dX8_lot_71 rfl ?_
  obtain ⟨a3, ea3, h⟩ := nm_some h
  have ra3 : R32 a3 := by rw [ea3]; exact w32_R _
  refine m_iadd (pc := 73) C dX8_lot_73 ea3 ?_
  obtain ⟨q4, h⟩ := ck_some h
  obtain ⟨a5, μ6, ca5, h⟩ := bd_some h
  refine V_X8_number (pc := 74) C hM ca5 ra3 q4 bw_5_47 ⟨Nat.le_of_ble_eq_true rfl, Nat.le_of_ble_eq_true rfl⟩ hl.1 rc0 ⟨Nat.le_refl _, Nat.le_refl _⟩ dX8_lot_74 (fun ra5 H locs hM => ?_)
  cases h
  exact m_iret (pc := 77) C hM ra5 dX8_lot_77
set_option maxHeartbeats 4000000 in
set_option maxRecDepth 100000 in
theorem k_X8_lot_b78 (C : gCx p s m args meth c cX8_lot 3 (some .int) "lot" RX8) (N : Nat) {r : Int} {μ' : Mm} : ∀ (x0 x1 : Int) (μ : Mm), f_X8_lot_b78 N x0 x1 μ = some (r, μ') → R32 x1 → ∀ (H : Heap) (locs : List Loc) (ls : Array Slot), MS E μ s H locs → lv_has ls 3 [(0, vr E x0), (1, vi x1)] → W p l e ({ frames := 4, cells := 0, slots := 0, locals := 93 } : Room) s m args below meth c H locs 0 0 (MQ below (gQ E (some (vi r)) (R32 r) μ') args s 0 0 (gA E)) (F0 m 78 ls []) := by
  intro x0 x1 μ h rx1 H locs ls hM hl
  unfold f_X8_lot_b78 at h
  refine m_aload_n (pc := 78) C dX8_lot_78 rfl (lv_at hl 0 rfl) ?_
  refine m_iload_n (pc := 79) C dX8_lot_79 rfl (lv_at hl 1 rfl) ?_
  obtain ⟨a1, μ2, ca1, h⟩ := bd_some h
  refine V_X8_lotAt (pc := 80) C hM ca1 rx1 bw_5_87 ⟨Nat.le_of_ble_eq_true rfl, Nat.le_of_ble_eq_true rfl⟩ hl.1 (rcR rc0) ⟨Nat.le_refl _, Nat.le_refl _⟩ dX8_lot_80 (fun ra1 H locs hM => ?_)
  refine m_bipush (pc := 83) C dX8_lot_83 rfl ?_
  obtain ⟨a3, ea3, h⟩ := nm_some h
  have ra3 : R32 a3 := by rw [ea3]; exact w32_R _
  refine m_iadd (pc := 85) C dX8_lot_85 ea3 ?_
  obtain ⟨q4, h⟩ := ck_some h
  obtain ⟨a5, μ6, ca5, h⟩ := bd_some h
  refine V_X8_number (pc := 86) C hM ca5 ra3 q4 bw_5_47 ⟨Nat.le_of_ble_eq_true rfl, Nat.le_of_ble_eq_true rfl⟩ hl.1 rc0 ⟨Nat.le_refl _, Nat.le_refl _⟩ dX8_lot_86 (fun ra5 H locs hM => ?_)
  cases h
  exact m_iret (pc := 89) C hM ra5 dX8_lot_89
set_option maxHeartbeats 4000000 in
set_option maxRecDepth 100000 in
theorem k_X8_lot_b90 (C : gCx p s m args meth c cX8_lot 3 (some .int) "lot" RX8) (N : Nat) {r : Int} {μ' : Mm} : ∀ (x0 x1 : Int) (μ : Mm), f_X8_lot_b90 N x0 x1 μ = some (r, μ') → R32 x1 → ∀ (H : Heap) (locs : List Loc) (ls : Array Slot), MS E μ s H locs → lv_has ls 3 [(0, vr E x0), (1, vi x1)] → W p l e ({ frames := 4, cells := 0, slots := 0, locals := 93 } : Room) s m args below meth c H locs 0 0 (MQ below (gQ E (some (vi r)) (R32 r) μ') args s 0 0 (gA E)) (F0 m 90 ls []) := by
  intro x0 x1 μ h rx1 H locs ls hM hl
  unfold f_X8_lot_b90 at h
  refine m_aload_n (pc := 90) C dX8_lot_90 rfl (lv_at hl 0 rfl) ?_
  refine m_iload_n (pc := 91) C dX8_lot_91 rfl (lv_at hl 1 rfl) ?_
  obtain ⟨a1, μ2, ca1, h⟩ := bd_some h
  refine V_X8_lotAt (pc := 92) C hM ca1 rx1 bw_5_87 ⟨Nat.le_of_ble_eq_true rfl, Nat.le_of_ble_eq_true rfl⟩ hl.1 (rcR rc0) ⟨Nat.le_refl _, Nat.le_refl _⟩ dX8_lot_92 (fun ra1 H locs hM => ?_)
  refine m_bipush (pc := 95) C dX8_lot_95 rfl ?_
  obtain ⟨a3, ea3, h⟩ := nm_some h
  have ra3 : R32 a3 := by rw [ea3]; exact w32_R _
  refine m_iadd (pc := 97) C dX8_lot_97 ea3 ?_
  obtain ⟨q4, h⟩ := ck_some h
  obtain ⟨a5, μ6, ca5, h⟩ := bd_some h
  refine V_X8_number (pc := 98) C hM ca5 ra3 q4 bw_5_47 ⟨Nat.le_of_ble_eq_true rfl, Nat.le_of_ble_eq_true rfl⟩ hl.1 rc0 ⟨Nat.le_refl _, Nat.le_refl _⟩ dX8_lot_98 (fun ra5 H locs hM => ?_)
  cases h
  exact m_iret (pc := 101) C hM ra5 dX8_lot_101
set_option maxHeartbeats 4000000 in
set_option maxRecDepth 100000 in
theorem k_X8_lot_b102 (C : gCx p s m args meth c cX8_lot 3 (some .int) "lot" RX8) (N : Nat) {r : Int} {μ' : Mm} : ∀ (x0 x1 : Int) (μ : Mm), f_X8_lot_b102 N x0 x1 μ = some (r, μ') → R32 x1 → ∀ (H : Heap) (locs : List Loc) (ls : Array Slot), MS E μ s H locs → lv_has ls 3 [(0, vr E x0), (1, vi x1)] → W p l e ({ frames := 4, cells := 0, slots := 0, locals := 93 } : Room) s m args below meth c H locs 0 0 (MQ below (gQ E (some (vi r)) (R32 r) μ') args s 0 0 (gA E)) (F0 m 102 ls []) := by
  intro x0 x1 μ h rx1 H locs ls hM hl
  unfold f_X8_lot_b102 at h
  refine m_aload_n (pc := 102) C dX8_lot_102 rfl (lv_at hl 0 rfl) ?_
  refine m_iload_n (pc := 103) C dX8_lot_103 rfl (lv_at hl 1 rfl) ?_
  refine m_iconst (pc := 104) C dX8_lot_104 ?_
  obtain ⟨q1, h⟩ := ck_some h
  obtain ⟨a2, μ3, ca2, h⟩ := bd_some h
  refine V_X8_waiting (pc := 105) C hM ca2 rx1 rk_1 q1 bw_5_106 ⟨Nat.le_of_ble_eq_true rfl, Nat.le_of_ble_eq_true rfl⟩ hl.1 rc0 ⟨Nat.le_refl _, Nat.le_refl _⟩ dX8_lot_105 (fun ra2 H locs hM => ?_)
  obtain ⟨a4, ea4, h⟩ := nm_some h
  have ra4 : R32 a4 := by rw [ea4]; exact w32_R _
  refine m_l2i (pc := 108) C dX8_lot_108 ea4 ?_
  cases h
  exact m_iret (pc := 109) C hM ra4 dX8_lot_109
set_option maxHeartbeats 4000000 in
set_option maxRecDepth 100000 in
theorem k_X8_lot_b110 (C : gCx p s m args meth c cX8_lot 3 (some .int) "lot" RX8) (N : Nat) {r : Int} {μ' : Mm} : ∀ (x0 x1 x2 : Int) (μ : Mm), f_X8_lot_b110 N x0 x1 x2 μ = some (r, μ') → R32 x1 → R32 x2 → ∀ (H : Heap) (locs : List Loc) (ls : Array Slot), MS E μ s H locs → lv_has ls 3 [(0, vr E x0), (1, vi x1), (2, vi x2)] → W p l e ({ frames := 4, cells := 0, slots := 0, locals := 93 } : Room) s m args below meth c H locs 0 0 (MQ below (gQ E (some (vi r)) (R32 r) μ') args s 0 0 (gA E)) (F0 m 110 ls []) := by
  intro x0 x1 x2 μ h rx1 rx2 H locs ls hM hl
  unfold f_X8_lot_b110 at h
  refine m_iload_n (pc := 110) C dX8_lot_110 rfl (lv_at hl 2 rfl) ?_
  refine m_i2l (pc := 111) C rx2 dX8_lot_111 ?_
  refine m_lconst (v := 0) (pc := 112) C dX8_lot_112 rfl ?_
  refine m_ldc2 (n := 6) (pc := 113) C bw_6_101 rfl dX8_lot_113 ?_
  obtain ⟨a1, μ2, ca1, h⟩ := bd_some h
  refine V_X8_in (pc := 116) C hM ca1 (R32.to64 rx2) rl_0 rl_6 bw_5_43 ⟨Nat.le_of_ble_eq_true rfl, Nat.le_of_ble_eq_true rfl⟩ hl.1 rc0 ⟨Nat.le_refl _, Nat.le_refl _⟩ dX8_lot_116 (fun ra1 H locs hM => ?_)
  refine m_if_eq (tgt := 135) (pc := 119) C ra1 dX8_lot_119 (by decide) (fun c3 => ?_) (fun c3 => ?_)
  · have h := if_t h c3
    refine m_ldc (n := -100000002) (pc := 135) C bw_5_77 rfl dX8_lot_135 ?_
    cases h
    exact m_iret (pc := 137) C hM rk_m100000002 dX8_lot_137
  · have h := if_f h c3
    refine m_aload_n (pc := 122) C dX8_lot_122 rfl (lv_at hl 0 rfl) ?_
    refine m_iload_n (pc := 123) C dX8_lot_123 rfl (lv_at hl 1 rfl) ?_
    obtain ⟨a4, μ5, ca4, h⟩ := bd_some h
    refine V_X8_lotAt (pc := 124) C hM ca4 rx1 bw_5_87 ⟨Nat.le_of_ble_eq_true rfl, Nat.le_of_ble_eq_true rfl⟩ hl.1 (rcR rc0) ⟨Nat.le_refl _, Nat.le_refl _⟩ dX8_lot_124 (fun ra4 H locs hM => ?_)
    refine m_iload_n (pc := 127) C dX8_lot_127 rfl (lv_at hl 2 rfl) ?_
    obtain ⟨a6, ea6, h⟩ := nm_some h
    have ra6 : R32 a6 := by rw [ea6]; exact w32_R _
    refine m_iadd (pc := 128) C dX8_lot_128 ea6 ?_
    obtain ⟨q7, h⟩ := ck_some h
    obtain ⟨a8, μ9, ca8, h⟩ := bd_some h
    refine V_X8_number (pc := 129) C hM ca8 ra6 q7 bw_5_47 ⟨Nat.le_of_ble_eq_true rfl, Nat.le_of_ble_eq_true rfl⟩ hl.1 rc0 ⟨Nat.le_refl _, Nat.le_refl _⟩ dX8_lot_129 (fun ra8 H locs hM => ?_)
    refine m_goto (tgt := 137) (pc := 132) C dX8_lot_132 (by decide) ?_
    cases h
    exact m_iret (pc := 137) C hM ra8 dX8_lot_137
set_option maxHeartbeats 4000000 in
set_option maxRecDepth 100000 in
theorem c_X8_lot (l : Launch) (E : gE) (N : Nat) (x0 x1 x2 : Int) (μ μ' : Mm) (r : Int) (h : f_X8_lot N x0 x1 x2 μ = some (r, μ')) (rx1 : R32 x1) (rx2 : R32 x2) : gMet l E yX8_lot cX8_lot 3 (some .int) 4 93 [vr E x0, vi x1, vi x2] (some (vi r)) (R32 r) μ μ' 0 0 := by
  refine g_ofW [1, 1, 1] (by first | (simp only [List.map_cons, List.map_nil, vr_cat]; done) | (simp only [List.map_cons, List.map_nil, vr_cat]; rfl)) (by decide) (by decide) (fun p e s m below meth c ls C hM hl => ?_)
  replace C : gCx p s m _ meth c cX8_lot 3 (some .int) "lot" RX8 := C
  replace hl : lv_has ls 3 [(0, vr E x0), (1, vi x1), (2, vi x2)] := hl
  unfold f_X8_lot at h
  refine m_aload_n (pc := 0) C dX8_lot_0 rfl (lv_at hl 0 rfl) ?_
  refine m_iload_n (pc := 1) C dX8_lot_1 rfl (lv_at hl 1 rfl) ?_
  obtain ⟨q1, h⟩ := ck_some h
  obtain ⟨a2, μ3, ca2, h⟩ := bd_some h
  refine V_X8_noLot (pc := 2) C hM ca2 rx1 q1 bw_5_171 ⟨Nat.le_of_ble_eq_true rfl, Nat.le_of_ble_eq_true rfl⟩ hl.1 rc0 ⟨Nat.le_refl _, Nat.le_refl _⟩ dX8_lot_2 (fun ra2 H locs hM => ?_)
  refine m_if_eq (tgt := 11) (pc := 5) C ra2 dX8_lot_5 (by decide) (fun c4 => ?_) (fun c4 => ?_)
  · have h := if_t h c4
    refine m_iload_n (pc := 11) C dX8_lot_11 rfl (lv_at hl 2 rfl) ?_
    by_cases c5 : x2 = 7
    · have h := if_t h c5
      refine m_tab (pc := 12) (tgt := 52) C rx2 c5 dX8_lot_12 (by decide) (by decide) rfl (by decide) ?_
      exact k_X8_lot_b52 C N _ _ _ h rx1 _ _ _ hM (lv_sub hl [0, 1] rfl)
    replace h := if_f h c5
    by_cases c6 : x2 = 8
    · have h := if_t h c6
      refine m_tab (pc := 12) (tgt := 59) C rx2 c6 dX8_lot_12 (by decide) (by decide) rfl (by decide) ?_
      exact k_X8_lot_b59 C N _ _ _ h rx1 _ _ _ hM (lv_sub hl [0, 1] rfl)
    replace h := if_f h c6
    by_cases c7 : x2 = 9
    · have h := if_t h c7
      refine m_tab (pc := 12) (tgt := 66) C rx2 c7 dX8_lot_12 (by decide) (by decide) rfl (by decide) ?_
      exact k_X8_lot_b66 C N _ _ _ h rx1 _ _ _ hM (lv_sub hl [0, 1] rfl)
    replace h := if_f h c7
    by_cases c8 : x2 = 10
    · have h := if_t h c8
      refine m_tab (pc := 12) (tgt := 78) C rx2 c8 dX8_lot_12 (by decide) (by decide) rfl (by decide) ?_
      exact k_X8_lot_b78 C N _ _ _ h rx1 _ _ _ hM (lv_sub hl [0, 1] rfl)
    replace h := if_f h c8
    by_cases c9 : x2 = 11
    · have h := if_t h c9
      refine m_tab (pc := 12) (tgt := 90) C rx2 c9 dX8_lot_12 (by decide) (by decide) rfl (by decide) ?_
      exact k_X8_lot_b90 C N _ _ _ h rx1 _ _ _ hM (lv_sub hl [0, 1] rfl)
    replace h := if_f h c9
    by_cases c10 : x2 = 12
    · have h := if_t h c10
      refine m_tab (pc := 12) (tgt := 102) C rx2 c10 dX8_lot_12 (by decide) (by decide) rfl (by decide) ?_
      exact k_X8_lot_b102 C N _ _ _ h rx1 _ _ _ hM (lv_sub hl [0, 1] rfl)
    replace h := if_f h c10
    refine m_tabD (pc := 12) (tgt := 110) C rx2 dX8_lot_12 (by omega) (by decide) ?_
    exact k_X8_lot_b110 C N _ _ _ _ h rx1 rx2 _ _ _ hM (lv_sub hl [0, 1, 2] rfl)
  · have h := if_f h c4
    refine m_ldc (n := -100000001) (pc := 8) C bw_5_46 rfl dX8_lot_8 ?_
    cases h
    exact m_iret (pc := 10) C hM rk_m100000001 dX8_lot_10
theorem hd_X8_lot : yX8_lot.cls ≠ "java/lang/invoke/MethodHandle" ∧ yX8_lot.cls ≠ "java/lang/invoke/VarHandle" ∧ (parseMethodDescriptor yX8_lot.desc).map (fun d => d.parameters.length) = some 2 := by decide +kernel

theorem V_X8_lot {p : Program} {l : Launch} {e : Env} {R : Room} {s : State} {m : MethodId} {args : Array Value} {below : List Frame} {meth : Method} {c : Code} {H : Heap} {locs : List Loc} {cells slots : Nat} {Q : State → Prop} {cc : ByteArray} {pc nL : Nat} {ls : Array Slot} {rest : List Value} {ret : Option FieldType} {nmm own : String} {E : gE} {μ μ1 : Mm} {index : Nat} (C : gCx p s m args meth c cc nL ret nmm own) (hM : MS E μ s H locs) {N : Nat} {x0 x1 x2 v : Int} (hc : f_X8_lot N x0 x1 x2 μ = some (v, μ1)) (rx1 : R32 x1) (rx2 : R32 x2) (hck : μ x0 (-2) = 10) (h1 : Cond.methodLink own index yX8_lot ∈ bigL) (hR : 5 ≤ R.frames ∧ 115 ≤ R.locals) (hl : ls.size = nL) (hcat : RC rest 8) (hf : cells + 0 ≤ R.cells ∧ slots + 0 ≤ R.slots) (hdg : decode cc pc = .ok (.invokevirtual index, 3)) (kk : (R32 v) → ∀ (H1 : Heap) (locs1 : List Loc), MS E μ1 s H1 locs1 → W p l e R s m args below meth c H1 locs1 (cells + 0) (slots + 0) Q (F0 m (pc + 3) ls (vi v :: rest))) : W p l e R s m args below meth c H locs cells slots Q (F0 m pc ls (vi x2 :: vi x1 :: vr E x0 :: rest)) := g_callV C KF_X8 hM (c_X8_lot l E N x0 x1 x2 μ μ1 v hc rx1 rx2) hck (gV h1 bw_6_98 bw_6_99 bw_1_13 bw_6_100) ⟨rfl, hd_X8_lot⟩ hR rfl hl rfl hcat hf hdg kk
/-! X8_exported -/
def f_X8_exported (N : Nat) (x0 x1 x2 : Int) (μ : Mm) : Rs :=
  ck (μ x0 (-2) = 10) <|
  bd (f_X8_noExport N x0 x1 μ) fun a2 μ3 =>
  if a2 = 0 then
    (bd (f_X8_in N x2 0 4 μ3) fun a5 μ6 =>
     if a5 = 0 then
       (some ((-100000002), μ6))
     else
     bd (f_X8_exportAt N x1 μ6) fun a8 μ9 =>
     nm (w32 (a8 + x2)) fun a10 =>
     ck (μ9 x0 (-2) = 10) <|
     bd (f_X8_number N x0 a10 μ9) fun a12 μ13 =>
     some (a12, μ13))
  else
  some ((-100000001), μ3)
set_option maxHeartbeats 4000000 in
set_option maxRecDepth 100000 in
theorem c_X8_exported (l : Launch) (E : gE) (N : Nat) (x0 x1 x2 : Int) (μ μ' : Mm) (r : Int) (h : f_X8_exported N x0 x1 x2 μ = some (r, μ')) (rx1 : R32 x1) (rx2 : R32 x2) : gMet l E yX8_exported cX8_exported 3 (some .int) 2 46 [vr E x0, vi x1, vi x2] (some (vi r)) (R32 r) μ μ' 0 0 := by
  refine g_ofW [1, 1, 1] (by first | (simp only [List.map_cons, List.map_nil, vr_cat]; done) | (simp only [List.map_cons, List.map_nil, vr_cat]; rfl)) (by decide) (by decide) (fun p e s m below meth c ls C hM hl => ?_)
  replace C : gCx p s m _ meth c cX8_exported 3 (some .int) "exported" RX8 := C
  replace hl : lv_has ls 3 [(0, vr E x0), (1, vi x1), (2, vi x2)] := hl
  unfold f_X8_exported at h
  refine m_aload_n (pc := 0) C dX8_exported_0 rfl (lv_at hl 0 rfl) ?_
  refine m_iload_n (pc := 1) C dX8_exported_1 rfl (lv_at hl 1 rfl) ?_
  obtain ⟨q1, h⟩ := ck_some h
  obtain ⟨a2, μ3, ca2, h⟩ := bd_some h
  refine V_X8_noExport (pc := 2) C hM ca2 rx1 q1 bw_5_231 ⟨Nat.le_of_ble_eq_true rfl, Nat.le_of_ble_eq_true rfl⟩ hl.1 rc0 ⟨Nat.le_refl _, Nat.le_refl _⟩ dX8_exported_2 (fun ra2 H locs hM => ?_)
  refine m_if_eq (tgt := 11) (pc := 5) C ra2 dX8_exported_5 (by decide) (fun c4 => ?_) (fun c4 => ?_)
  · have h := if_t h c4
    refine m_iload_n (pc := 11) C dX8_exported_11 rfl (lv_at hl 2 rfl) ?_
    refine m_i2l (pc := 12) C rx2 dX8_exported_12 ?_
    refine m_lconst (v := 0) (pc := 13) C dX8_exported_13 rfl ?_
    refine m_ldc2 (n := 4) (pc := 14) C bw_6_106 rfl dX8_exported_14 ?_
    obtain ⟨a5, μ6, ca5, h⟩ := bd_some h
    refine V_X8_in (pc := 17) C hM ca5 (R32.to64 rx2) rl_0 rl_4 bw_5_43 ⟨Nat.le_of_ble_eq_true rfl, Nat.le_of_ble_eq_true rfl⟩ hl.1 rc0 ⟨Nat.le_refl _, Nat.le_refl _⟩ dX8_exported_17 (fun ra5 H locs hM => ?_)
    refine m_if_eq (tgt := 36) (pc := 20) C ra5 dX8_exported_20 (by decide) (fun c7 => ?_) (fun c7 => ?_)
    · have h := if_t h c7
      refine m_ldc (n := -100000002) (pc := 36) C bw_5_77 rfl dX8_exported_36 ?_
      cases h
      exact m_iret (pc := 38) C hM rk_m100000002 dX8_exported_38
    · have h := if_f h c7
      refine m_aload_n (pc := 23) C dX8_exported_23 rfl (lv_at hl 0 rfl) ?_
      refine m_iload_n (pc := 24) C dX8_exported_24 rfl (lv_at hl 1 rfl) ?_
      obtain ⟨a8, μ9, ca8, h⟩ := bd_some h
      refine V_X8_exportAt (pc := 25) C hM ca8 rx1 bw_5_114 ⟨Nat.le_of_ble_eq_true rfl, Nat.le_of_ble_eq_true rfl⟩ hl.1 (rcR rc0) ⟨Nat.le_refl _, Nat.le_refl _⟩ dX8_exported_25 (fun ra8 H locs hM => ?_)
      refine m_iload_n (pc := 28) C dX8_exported_28 rfl (lv_at hl 2 rfl) ?_
      obtain ⟨a10, ea10, h⟩ := nm_some h
      have ra10 : R32 a10 := by rw [ea10]; exact w32_R _
      refine m_iadd (pc := 29) C dX8_exported_29 ea10 ?_
      obtain ⟨q11, h⟩ := ck_some h
      obtain ⟨a12, μ13, ca12, h⟩ := bd_some h
      refine V_X8_number (pc := 30) C hM ca12 ra10 q11 bw_5_47 ⟨Nat.le_of_ble_eq_true rfl, Nat.le_of_ble_eq_true rfl⟩ hl.1 rc0 ⟨Nat.le_refl _, Nat.le_refl _⟩ dX8_exported_30 (fun ra12 H locs hM => ?_)
      refine m_goto (tgt := 38) (pc := 33) C dX8_exported_33 (by decide) ?_
      cases h
      exact m_iret (pc := 38) C hM ra12 dX8_exported_38
  · have h := if_f h c4
    refine m_ldc (n := -100000001) (pc := 8) C bw_5_46 rfl dX8_exported_8 ?_
    cases h
    exact m_iret (pc := 10) C hM rk_m100000001 dX8_exported_10
theorem hd_X8_exported : yX8_exported.cls ≠ "java/lang/invoke/MethodHandle" ∧ yX8_exported.cls ≠ "java/lang/invoke/VarHandle" ∧ (parseMethodDescriptor yX8_exported.desc).map (fun d => d.parameters.length) = some 2 := by decide +kernel

theorem V_X8_exported {p : Program} {l : Launch} {e : Env} {R : Room} {s : State} {m : MethodId} {args : Array Value} {below : List Frame} {meth : Method} {c : Code} {H : Heap} {locs : List Loc} {cells slots : Nat} {Q : State → Prop} {cc : ByteArray} {pc nL : Nat} {ls : Array Slot} {rest : List Value} {ret : Option FieldType} {nmm own : String} {E : gE} {μ μ1 : Mm} {index : Nat} (C : gCx p s m args meth c cc nL ret nmm own) (hM : MS E μ s H locs) {N : Nat} {x0 x1 x2 v : Int} (hc : f_X8_exported N x0 x1 x2 μ = some (v, μ1)) (rx1 : R32 x1) (rx2 : R32 x2) (hck : μ x0 (-2) = 10) (h1 : Cond.methodLink own index yX8_exported ∈ bigL) (hR : 3 ≤ R.frames ∧ 68 ≤ R.locals) (hl : ls.size = nL) (hcat : RC rest 8) (hf : cells + 0 ≤ R.cells ∧ slots + 0 ≤ R.slots) (hdg : decode cc pc = .ok (.invokevirtual index, 3)) (kk : (R32 v) → ∀ (H1 : Heap) (locs1 : List Loc), MS E μ1 s H1 locs1 → W p l e R s m args below meth c H1 locs1 (cells + 0) (slots + 0) Q (F0 m (pc + 3) ls (vi v :: rest))) : W p l e R s m args below meth c H locs cells slots Q (F0 m pc ls (vi x2 :: vi x1 :: vr E x0 :: rest)) := g_callV C KF_X8 hM (c_X8_exported l E N x0 x1 x2 μ μ1 v hc rx1 rx2) hck (gV h1 bw_6_103 bw_6_104 bw_1_13 bw_6_105) ⟨rfl, hd_X8_exported⟩ hR rfl hl rfl hcat hf hdg kk
/-! X8_write -/
def f_X8_write (N : Nat) (x0 x1 : Int) (μ : Mm) : Rs :=
  ck (μ x0 (-2) = 10) <|
  ck (μ x0 (-2) = 10) <|
  ck (μ (μ x0 14) (-2) = 23 ∧ (0 : Int) ≤ (μ x0 13) ∧ (μ x0 13) < μ (μ x0 14) (-1)) <|
  nm (mset μ (μ x0 14) (μ x0 13) x1) fun μ4 =>
  ck (μ4 x0 (-2) = 10) <|
  nm (w32 ((μ4 x0 13) + 1)) fun a6 =>
  ck (μ4 x0 (-2) = 10) <|
  nm (mset μ4 x0 13 a6) fun μ8 =>
  some (0, μ8)
set_option maxHeartbeats 4000000 in
set_option maxRecDepth 100000 in
theorem c_X8_write (l : Launch) (E : gE) (N : Nat) (x0 x1 : Int) (μ μ' : Mm) (r : Int) (h : f_X8_write N x0 x1 μ = some (r, μ')) (rx1 : R32 x1) : gMet l E yX8_write cX8_write 2 none 0 0 [vr E x0, vi x1] none True μ μ' 0 0 := by
  refine g_ofW [1, 1] (by first | (simp only [List.map_cons, List.map_nil, vr_cat]; done) | (simp only [List.map_cons, List.map_nil, vr_cat]; rfl)) (by decide) (by decide) (fun p e s m below meth c ls C hM hl => ?_)
  replace C : gCx p s m _ meth c cX8_write 2 none "write" RX8 := C
  replace hl : lv_has ls 2 [(0, vr E x0), (1, vi x1)] := hl
  unfold f_X8_write at h
  refine m_aload_n (pc := 0) C dX8_write_0 rfl (lv_at hl 0 rfl) ?_
  obtain ⟨q1, h⟩ := ck_some h
  refine G_X8_document (pc := 1) C hM bw_5_1 q1 dX8_write_1 ?_
  refine m_aload_n (pc := 4) C dX8_write_4 rfl (lv_at hl 0 rfl) ?_
  obtain ⟨q2, h⟩ := ck_some h
  have gq2 := Gr_X8_written hM q2
  refine G_X8_written (pc := 5) C hM bw_5_0 q2 dX8_write_5 ?_
  refine m_iload_n (pc := 8) C dX8_write_8 rfl (lv_at hl 1 rfl) ?_
  obtain ⟨q3, h⟩ := ck_some h
  obtain ⟨μ4, eμ4, h⟩ := nm_some h
  refine m_iast (pc := 9) C hM q3.1 q3.2.1  q3.2.2 rx1 eμ4 dX8_write_9 (fun H locs hM => ?_)
  refine m_aload_n (pc := 10) C dX8_write_10 rfl (lv_at hl 0 rfl) ?_
  refine m_dup (pc := 11) C (vr_cat _ _) dX8_write_11 ?_
  obtain ⟨q5, h⟩ := ck_some h
  have gq5 := Gr_X8_written hM q5
  refine G_X8_written (pc := 12) C hM bw_5_0 q5 dX8_write_12 ?_
  refine m_iconst (pc := 15) C dX8_write_15 ?_
  obtain ⟨a6, ea6, h⟩ := nm_some h
  have ra6 : R32 a6 := by rw [ea6]; exact w32_R _
  refine m_iadd (pc := 16) C dX8_write_16 ea6 ?_
  obtain ⟨q7, h⟩ := ck_some h
  obtain ⟨μ8, eμ8, h⟩ := nm_some h
  refine P_X8_written (pc := 17) C hM bw_5_0 q7 ra6 eμ8 dX8_write_17 (fun H locs hM => ?_)
  cases h
  exact m_vret (pc := 20) C hM trivial dX8_write_20
theorem hd_X8_write : yX8_write.cls ≠ "java/lang/invoke/MethodHandle" ∧ yX8_write.cls ≠ "java/lang/invoke/VarHandle" ∧ (parseMethodDescriptor yX8_write.desc).map (fun d => d.parameters.length) = some 1 := by decide +kernel

theorem V_X8_write {p : Program} {l : Launch} {e : Env} {R : Room} {s : State} {m : MethodId} {args : Array Value} {below : List Frame} {meth : Method} {c : Code} {H : Heap} {locs : List Loc} {cells slots : Nat} {Q : State → Prop} {cc : ByteArray} {pc nL : Nat} {ls : Array Slot} {rest : List Value} {ret : Option FieldType} {nmm own : String} {E : gE} {μ μ1 : Mm} {index : Nat} (C : gCx p s m args meth c cc nL ret nmm own) (hM : MS E μ s H locs) {N : Nat} {x0 x1 v : Int} (hc : f_X8_write N x0 x1 μ = some (v, μ1)) (rx1 : R32 x1) (hck : μ x0 (-2) = 10) (h1 : Cond.methodLink own index yX8_write ∈ bigL) (hR : 1 ≤ R.frames ∧ 21 ≤ R.locals) (hl : ls.size = nL) (hcat : RC rest 8) (hf : cells + 0 ≤ R.cells ∧ slots + 0 ≤ R.slots) (hdg : decode cc pc = .ok (.invokevirtual index, 3)) (kk : True → ∀ (H1 : Heap) (locs1 : List Loc), MS E μ1 s H1 locs1 → W p l e R s m args below meth c H1 locs1 (cells + 0) (slots + 0) Q (F0 m (pc + 3) ls rest)) : W p l e R s m args below meth c H locs cells slots Q (F0 m pc ls (vi x1 :: vr E x0 :: rest)) := g_callV C KF_X8 hM (c_X8_write l E N x0 x1 μ μ1 v hc rx1) hck (gV h1 bw_6_117 bs_67 bw_1_13 bw_6_118) ⟨rfl, hd_X8_write⟩ hR rfl hl rfl hcat hf hdg kk
/-! X8_writeNumber -/
def f_X8_writeNumber_b21 (N : Nat) : Nat → Int → Int → Int → Mm → Rs
  | 0, _, _, _, _ => none
  | n + 1, x0, x1, x3, μ =>
    if x3 ≤ 0 then
      (some (0, μ))
    else
    ck (x3 ≠ 0) <|
    nm (w64 (Int.tdiv x1 x3)) fun a2 =>
    nm (o_lrem a2 10) fun a4 =>
    nm (w64 (48 + a4)) fun a6 =>
    nm (w32 a6) fun a7 =>
    ck (μ x0 (-2) = 10) <|
    bd (f_X8_write N x0 a7 μ) fun a9 μ10 =>
    nm (w64 (Int.tdiv x3 10)) fun a11 =>
    f_X8_writeNumber_b21 N n x0 x1 a11 μ10
def f_X8_writeNumber_b2 (N : Nat) : Nat → Int → Int → Int → Mm → Rs
  | 0, _, _, _, _ => none
  | n + 1, x0, x1, x3, μ =>
    nm (w64 (Int.tdiv x1 10)) fun a1 =>
    if a1 < x3 then
      (f_X8_writeNumber_b21 N N x0 x1 x3 μ)
    else
    nm (w64 (x3 * 10)) fun a4 =>
    f_X8_writeNumber_b2 N n x0 x1 a4 μ
def f_X8_writeNumber (N : Nat) (x0 x1 : Int) (μ : Mm) : Rs :=
  f_X8_writeNumber_b2 N N x0 x1 1 μ
set_option maxHeartbeats 4000000 in
set_option maxRecDepth 100000 in
theorem k_X8_writeNumber_b21 (C : gCx p s m args meth c cX8_writeNumber 5 none "writeNumber" RX8) (N : Nat) {r : Int} {μ' : Mm} : ∀ (n : Nat), ∀ (x0 x1 x3 : Int) (μ : Mm), f_X8_writeNumber_b21 N n x0 x1 x3 μ = some (r, μ') → R64 x1 → R64 x3 → ∀ (H : Heap) (locs : List Loc) (ls : Array Slot), MS E μ s H locs → lv_has ls 5 [(0, vr E x0), (1, vl x1), (3, vl x3)] → W p l e ({ frames := 1, cells := 0, slots := 0, locals := 21 } : Room) s m args below meth c H locs 0 0 (MQ below (gQ E none True μ') args s 0 0 (gA E)) (F0 m 21 ls []) := by
  intro n
  induction n with
  | zero => intro x0 x1 x3 μ h; simp [f_X8_writeNumber_b21] at h
  | succ n ih =>
    intro x0 x1 x3 μ h rx1 rx3 H locs ls hM hl
    rw [f_X8_writeNumber_b21] at h
    refine m_lload_n (pc := 21) C dX8_writeNumber_21 rfl (lv_at hl 2 rfl) ?_
    refine m_lconst (v := 0) (pc := 22) C dX8_writeNumber_22 rfl ?_
    refine m_lcmp_le (tgt := 52) (pc := 23) C rx3 rl_0 dX8_writeNumber_23 dX8_writeNumber_24 (by decide) (fun c1 => ?_) (fun c1 => ?_)
    · have h := if_t h c1
      cases h
      exact m_vret (pc := 52) C hM trivial dX8_writeNumber_52
    · have h := if_f h c1
      refine m_aload_n (pc := 27) C dX8_writeNumber_27 rfl (lv_at hl 0 rfl) ?_
      refine m_ldc2 (n := 48) (pc := 28) C bw_6_123 rfl dX8_writeNumber_28 ?_
      refine m_lload_n (pc := 31) C dX8_writeNumber_31 rfl (lv_at hl 1 rfl) ?_
      refine m_lload_n (pc := 32) C dX8_writeNumber_32 rfl (lv_at hl 2 rfl) ?_
      obtain ⟨q3, h⟩ := ck_some h
      obtain ⟨a2, ea2, h⟩ := nm_some h
      have ra2 : R64 a2 := by rw [ea2]; exact w64_R _
      refine m_ldiv (pc := 33) C rx1 rx3 q3 dX8_writeNumber_33 ea2 ?_
      refine m_ldc2 (n := 10) (pc := 34) C bw_4_226 rfl dX8_writeNumber_34 ?_
      obtain ⟨a4, ea4, h⟩ := nm_some h
      have ra4 : R64 a4 := by rw [ea4]; exact R64_of _
      refine m_lrem (pc := 37) C rl_10 (by decide) dX8_writeNumber_37 ea4 ?_
      obtain ⟨a6, ea6, h⟩ := nm_some h
      have ra6 : R64 a6 := by rw [ea6]; exact w64_R _
      refine m_ladd (pc := 38) C dX8_writeNumber_38 ea6 ?_
      obtain ⟨a7, ea7, h⟩ := nm_some h
      have ra7 : R32 a7 := by rw [ea7]; exact w32_R _
      refine m_l2i (pc := 39) C dX8_writeNumber_39 ea7 ?_
      obtain ⟨q8, h⟩ := ck_some h
      obtain ⟨a9, μ10, ca9, h⟩ := bd_some h
      refine V_X8_write (pc := 40) C hM ca9 ra7 q8 bw_6_115 ⟨Nat.le_of_ble_eq_true rfl, Nat.le_of_ble_eq_true rfl⟩ hl.1 rc0 ⟨Nat.le_refl _, Nat.le_refl _⟩ dX8_writeNumber_40 (fun _ H locs hM => ?_)
      refine m_lload_n (pc := 43) C dX8_writeNumber_43 rfl (lv_at hl 2 rfl) ?_
      refine m_ldc2 (n := 10) (pc := 44) C bw_4_226 rfl dX8_writeNumber_44 ?_
      obtain ⟨a11, ea11, h⟩ := nm_some h
      have ra11 : R64 a11 := by rw [ea11]; exact w64_R _
      refine m_ldiv (pc := 47) C rx3 rl_10 (by decide) dX8_writeNumber_47 ea11 ?_
      refine m_lstore_n (pc := 48) C dX8_writeNumber_48 rfl hl (by decide) (lvK1 0 rfl (Nat.ne_of_beq_eq_false rfl) (Nat.ne_of_beq_eq_false rfl) (lvK1 1 rfl (Nat.ne_of_beq_eq_false rfl) (Nat.ne_of_beq_eq_false rfl) lvK0)) (lvN1 (Nat.ne_of_beq_eq_false rfl) (lvN1 (Nat.ne_of_beq_eq_false rfl) lvN0)) (fun ls hl => ?_)
      refine m_goto (tgt := 21) (pc := 49) C dX8_writeNumber_49 (by decide) ?_
      exact ih _ _ _ _ h rx1 ra11 _ _ _ hM (lv_sub hl [1, 2, 0] rfl)
set_option maxHeartbeats 4000000 in
set_option maxRecDepth 100000 in
theorem k_X8_writeNumber_b2 (C : gCx p s m args meth c cX8_writeNumber 5 none "writeNumber" RX8) (N : Nat) {r : Int} {μ' : Mm} : ∀ (n : Nat), ∀ (x0 x1 x3 : Int) (μ : Mm), f_X8_writeNumber_b2 N n x0 x1 x3 μ = some (r, μ') → R64 x1 → R64 x3 → ∀ (H : Heap) (locs : List Loc) (ls : Array Slot), MS E μ s H locs → lv_has ls 5 [(0, vr E x0), (1, vl x1), (3, vl x3)] → W p l e ({ frames := 1, cells := 0, slots := 0, locals := 21 } : Room) s m args below meth c H locs 0 0 (MQ below (gQ E none True μ') args s 0 0 (gA E)) (F0 m 2 ls []) := by
  intro n
  induction n with
  | zero => intro x0 x1 x3 μ h; simp [f_X8_writeNumber_b2] at h
  | succ n ih =>
    intro x0 x1 x3 μ h rx1 rx3 H locs ls hM hl
    rw [f_X8_writeNumber_b2] at h
    refine m_lload_n (pc := 2) C dX8_writeNumber_2 rfl (lv_at hl 2 rfl) ?_
    refine m_lload_n (pc := 3) C dX8_writeNumber_3 rfl (lv_at hl 1 rfl) ?_
    refine m_ldc2 (n := 10) (pc := 4) C bw_4_226 rfl dX8_writeNumber_4 ?_
    obtain ⟨a1, ea1, h⟩ := nm_some h
    have ra1 : R64 a1 := by rw [ea1]; exact w64_R _
    refine m_ldiv (pc := 7) C rx1 rl_10 (by decide) dX8_writeNumber_7 ea1 ?_
    refine m_lcmp_gt (tgt := 21) (pc := 8) C rx3 ra1 dX8_writeNumber_8 dX8_writeNumber_9 (by decide) (fun c3 => ?_) (fun c3 => ?_)
    · have h := if_t h c3
      exact k_X8_writeNumber_b21 C N N _ _ _ _ h rx1 rx3 _ _ _ hM (lv_sub hl [0, 1, 2] rfl)
    · have h := if_f h c3
      refine m_lload_n (pc := 12) C dX8_writeNumber_12 rfl (lv_at hl 2 rfl) ?_
      refine m_ldc2 (n := 10) (pc := 13) C bw_4_226 rfl dX8_writeNumber_13 ?_
      obtain ⟨a4, ea4, h⟩ := nm_some h
      have ra4 : R64 a4 := by rw [ea4]; exact w64_R _
      refine m_lmul (pc := 16) C dX8_writeNumber_16 ea4 ?_
      refine m_lstore_n (pc := 17) C dX8_writeNumber_17 rfl hl (by decide) (lvK1 0 rfl (Nat.ne_of_beq_eq_false rfl) (Nat.ne_of_beq_eq_false rfl) (lvK1 1 rfl (Nat.ne_of_beq_eq_false rfl) (Nat.ne_of_beq_eq_false rfl) lvK0)) (lvN1 (Nat.ne_of_beq_eq_false rfl) (lvN1 (Nat.ne_of_beq_eq_false rfl) lvN0)) (fun ls hl => ?_)
      refine m_goto (tgt := 2) (pc := 18) C dX8_writeNumber_18 (by decide) ?_
      exact ih _ _ _ _ h rx1 ra4 _ _ _ hM (lv_sub hl [1, 2, 0] rfl)
set_option maxHeartbeats 4000000 in
set_option maxRecDepth 100000 in
theorem c_X8_writeNumber (l : Launch) (E : gE) (N : Nat) (x0 x1 : Int) (μ μ' : Mm) (r : Int) (h : f_X8_writeNumber N x0 x1 μ = some (r, μ')) (rx1 : R64 x1) : gMet l E yX8_writeNumber cX8_writeNumber 5 none 1 21 [vr E x0, vl x1] none True μ μ' 0 0 := by
  refine g_ofW [1, 2] (by first | (simp only [List.map_cons, List.map_nil, vr_cat]; done) | (simp only [List.map_cons, List.map_nil, vr_cat]; rfl)) (by decide) (by decide) (fun p e s m below meth c ls C hM hl => ?_)
  replace C : gCx p s m _ meth c cX8_writeNumber 5 none "writeNumber" RX8 := C
  replace hl : lv_has ls 5 [(0, vr E x0), (1, vl x1)] := hl
  unfold f_X8_writeNumber at h
  refine m_lconst (v := 1) (pc := 0) C dX8_writeNumber_0 rfl ?_
  refine m_lstore_n (pc := 1) C dX8_writeNumber_1 rfl hl (by decide) (lvK1 0 rfl (Nat.ne_of_beq_eq_false rfl) (Nat.ne_of_beq_eq_false rfl) (lvK1 1 rfl (Nat.ne_of_beq_eq_false rfl) (Nat.ne_of_beq_eq_false rfl) lvK0)) (lvN1 (Nat.ne_of_beq_eq_false rfl) (lvN1 (Nat.ne_of_beq_eq_false rfl) lvN0)) (fun ls hl => ?_)
  exact k_X8_writeNumber_b2 C N N _ _ _ _ h rx1 rl_1 _ _ _ hM (lv_sub hl [1, 2, 0] rfl)
theorem hd_X8_writeNumber : yX8_writeNumber.cls ≠ "java/lang/invoke/MethodHandle" ∧ yX8_writeNumber.cls ≠ "java/lang/invoke/VarHandle" ∧ (parseMethodDescriptor yX8_writeNumber.desc).map (fun d => d.parameters.length) = some 1 := by decide +kernel

theorem V_X8_writeNumber {p : Program} {l : Launch} {e : Env} {R : Room} {s : State} {m : MethodId} {args : Array Value} {below : List Frame} {meth : Method} {c : Code} {H : Heap} {locs : List Loc} {cells slots : Nat} {Q : State → Prop} {cc : ByteArray} {pc nL : Nat} {ls : Array Slot} {rest : List Value} {ret : Option FieldType} {nmm own : String} {E : gE} {μ μ1 : Mm} {index : Nat} (C : gCx p s m args meth c cc nL ret nmm own) (hM : MS E μ s H locs) {N : Nat} {x0 x1 v : Int} (hc : f_X8_writeNumber N x0 x1 μ = some (v, μ1)) (rx1 : R64 x1) (hck : μ x0 (-2) = 10) (h1 : Cond.methodLink own index yX8_writeNumber ∈ bigL) (hR : 2 ≤ R.frames ∧ 45 ≤ R.locals) (hl : ls.size = nL) (hcat : RC rest 8) (hf : cells + 0 ≤ R.cells ∧ slots + 0 ≤ R.slots) (hdg : decode cc pc = .ok (.invokevirtual index, 3)) (kk : True → ∀ (H1 : Heap) (locs1 : List Loc), MS E μ1 s H1 locs1 → W p l e R s m args below meth c H1 locs1 (cells + 0) (slots + 0) Q (F0 m (pc + 3) ls rest)) : W p l e R s m args below meth c H locs cells slots Q (F0 m pc ls (vl x1 :: vr E x0 :: rest)) := g_callV C KF_X8 hM (c_X8_writeNumber l E N x0 x1 μ μ1 v hc rx1) hck (gV h1 bw_6_121 bs_68 bw_1_13 bw_6_122) ⟨rfl, hd_X8_writeNumber⟩ hR rfl hl rfl hcat hf hdg kk
/-! X8_isUrgent -/
def f_X8_isUrgent_b43 (N : Nat) : Nat → Int → Int → Int → Int → Mm → Rs
  | 0, _, _, _, _, _ => none
  | n + 1, x0, x1, x2, x3, μ =>
    ck (μ x0 (-2) = 10) <|
    ck (μ (μ x0 0) (-2) = 24 ∧ (0 : Int) ≤ 3 ∧ 3 < μ (μ x0 0) (-1)) <|
    if (μ (μ x0 0) 3) ≤ x3 then
      (ck ((0 : Int) ≤ x2 ∧ x2 ≤ (1 : Int)) <|
       some (x2, μ))
    else
    if ¬ x2 = 0 then
      (nm (w32 (x3 + 1)) fun a6 =>
       f_X8_isUrgent_b43 N n x0 x1 1 a6 μ)
    else
    ck (μ x0 (-2) = 10) <|
    bd (f_X8_waits N x0 x3 μ) fun a8 μ9 =>
    if a8 = 0 then
      (nm (w32 (x3 + 1)) fun a11 =>
       f_X8_isUrgent_b43 N n x0 x1 0 a11 μ9)
    else
    ck (μ9 x0 (-2) = 10) <|
    bd (f_X8_exportAt N x3 μ9) fun a13 μ14 =>
    ck (μ14 (μ9 x0 0) (-2) = 24 ∧ (0 : Int) ≤ a13 ∧ a13 < μ14 (μ9 x0 0) (-1)) <|
    if ¬ (μ14 (μ9 x0 0) a13) = x1 then
      (nm (w32 (x3 + 1)) fun a17 =>
       f_X8_isUrgent_b43 N n x0 x1 0 a17 μ14)
    else
    ck (μ14 x0 (-2) = 10) <|
    bd (f_X8_exportAt N x3 μ14) fun a19 μ20 =>
    nm (w32 (a19 + 3)) fun a21 =>
    ck (μ20 (μ14 x0 0) (-2) = 24 ∧ (0 : Int) ≤ a21 ∧ a21 < μ20 (μ14 x0 0) (-1)) <|
    ck (μ20 x0 (-2) = 10) <|
    ck (μ20 (μ20 x0 0) (-2) = 24 ∧ (0 : Int) ≤ 0 ∧ 0 < μ20 (μ20 x0 0) (-1)) <|
    nm (w64 ((μ20 (μ20 x0 0) 0) + 7)) fun a25 =>
    if a25 < (μ20 (μ14 x0 0) a21) then
      (nm (w32 (x3 + 1)) fun a27 =>
       f_X8_isUrgent_b43 N n x0 x1 0 a27 μ20)
    else
    nm (w32 (x3 + 1)) fun a28 =>
    f_X8_isUrgent_b43 N n x0 x1 1 a28 μ20
def f_X8_isUrgent (N : Nat) (x0 x1 : Int) (μ : Mm) : Rs :=
  ck (μ x0 (-2) = 10) <|
  bd (f_X8_units N x0 x1 μ) fun a2 μ3 =>
  if a2 ≤ 0 then
    (f_X8_isUrgent_b43 N N x0 x1 0 0 μ3)
  else
  ck (μ3 x0 (-2) = 10) <|
  bd (f_X8_lotAt N x1 μ3) fun a6 μ7 =>
  nm (w32 (a6 + 5)) fun a8 =>
  ck (μ7 (μ3 x0 0) (-2) = 24 ∧ (0 : Int) ≤ a8 ∧ a8 < μ7 (μ3 x0 0) (-1)) <|
  ck (μ7 x0 (-2) = 10) <|
  ck (μ7 (μ7 x0 0) (-2) = 24 ∧ (0 : Int) ≤ 0 ∧ 0 < μ7 (μ7 x0 0) (-1)) <|
  nm (w64 ((μ7 (μ7 x0 0) 0) + 7)) fun a12 =>
  if a12 < (μ7 (μ3 x0 0) a8) then
    (f_X8_isUrgent_b43 N N x0 x1 0 0 μ7)
  else
  f_X8_isUrgent_b43 N N x0 x1 1 0 μ7
set_option maxHeartbeats 4000000 in
set_option maxRecDepth 100000 in
theorem k_X8_isUrgent_b43 (C : gCx p s m args meth c cX8_isUrgent 4 (some .boolean) "isUrgent" RX8) (N : Nat) {r : Int} {μ' : Mm} : ∀ (n : Nat), ∀ (x0 x1 x2 x3 : Int) (μ : Mm), f_X8_isUrgent_b43 N n x0 x1 x2 x3 μ = some (r, μ') → R32 x1 → R32 x2 → R32 x3 → ∀ (H : Heap) (locs : List Loc) (ls : Array Slot), MS E μ s H locs → lv_has ls 4 [(0, vr E x0), (1, vi x1), (2, vi x2), (3, vi x3)] → W p l e ({ frames := 2, cells := 0, slots := 0, locals := 41 } : Room) s m args below meth c H locs 0 0 (MQ below (gQ E (some (vi r)) (R32 r) μ') args s 0 0 (gA E)) (F0 m 43 ls []) := by
  intro n
  induction n with
  | zero => intro x0 x1 x2 x3 μ h; simp [f_X8_isUrgent_b43] at h
  | succ n ih =>
    intro x0 x1 x2 x3 μ h rx1 rx2 rx3 H locs ls hM hl
    rw [f_X8_isUrgent_b43] at h
    refine m_iload_n (pc := 43) C dX8_isUrgent_43 rfl (lv_at hl 3 rfl) ?_
    refine m_i2l (pc := 44) C rx3 dX8_isUrgent_44 ?_
    refine m_aload_n (pc := 45) C dX8_isUrgent_45 rfl (lv_at hl 0 rfl) ?_
    obtain ⟨q1, h⟩ := ck_some h
    refine G_X8_now (pc := 46) C hM bw_4_227 q1 dX8_isUrgent_46 ?_
    refine m_iconst (pc := 49) C dX8_isUrgent_49 ?_
    obtain ⟨q2, h⟩ := ck_some h
    have gq2 := Ar_lald hM q2.1 q2.2.1 q2.2.2
    refine m_lald (pc := 50) C hM q2.1 q2.2.1 q2.2.2 dX8_isUrgent_50 ?_
    refine m_lcmp_ge (tgt := 119) (pc := 51) C (R32.to64 rx3) gq2 dX8_isUrgent_51 dX8_isUrgent_52 (by decide) (fun c3 => ?_) (fun c3 => ?_)
    · have h := if_t h c3
      refine m_iload_n (pc := 119) C dX8_isUrgent_119 rfl (lv_at hl 2 rfl) ?_
      obtain ⟨q4, h⟩ := ck_some h
      cases h
      exact m_zret (pc := 120) C (nar_z q4.1 q4.2) hM rx2 dX8_isUrgent_120
    · have h := if_f h c3
      refine m_iload_n (pc := 55) C dX8_isUrgent_55 rfl (lv_at hl 2 rfl) ?_
      refine m_if_ne (tgt := 107) (pc := 56) C rx2 dX8_isUrgent_56 (by decide) (fun c5 => ?_) (fun c5 => ?_)
      · have h := if_t h c5
        refine m_iconst (pc := 107) C dX8_isUrgent_107 ?_
        refine m_goto (tgt := 112) (pc := 108) C dX8_isUrgent_108 (by decide) ?_
        refine m_istore_n (pc := 112) C dX8_isUrgent_112 rfl hl (by decide) (lvK1 0 rfl (Nat.ne_of_beq_eq_false rfl) (Nat.ne_of_beq_eq_false rfl) (lvK2 1 rfl (Nat.ne_of_beq_eq_false rfl) rfl (lvK1 3 rfl (Nat.ne_of_beq_eq_false rfl) (Nat.ne_of_beq_eq_false rfl) lvK0))) (fun ls hl => ?_)
        obtain ⟨a6, ea6, h⟩ := nm_some h
        have ra6 : R32 a6 := by rw [ea6]; exact w32_R _
        refine m_iinc (k := 3) (pc := 113) C dX8_isUrgent_113 hl rfl (by decide) ea6 (lvK2 0 rfl (Nat.ne_of_beq_eq_false rfl) rfl (lvK1 1 rfl (Nat.ne_of_beq_eq_false rfl) (Nat.ne_of_beq_eq_false rfl) (lvK1 2 rfl (Nat.ne_of_beq_eq_false rfl) (Nat.ne_of_beq_eq_false rfl) lvK0))) (fun ls hl => ?_)
        refine m_goto (tgt := 43) (pc := 116) C dX8_isUrgent_116 (by decide) ?_
        exact ih _ _ _ _ _ h rx1 rk_1 ra6 _ _ _ hM (lv_sub hl [2, 3, 1, 0] rfl)
      · have h := if_f h c5
        refine m_aload_n (pc := 59) C dX8_isUrgent_59 rfl (lv_at hl 0 rfl) ?_
        refine m_iload_n (pc := 60) C dX8_isUrgent_60 rfl (lv_at hl 3 rfl) ?_
        obtain ⟨q7, h⟩ := ck_some h
        obtain ⟨a8, μ9, ca8, h⟩ := bd_some h
        refine V_X8_waits (pc := 61) C hM ca8 rx3 q7 bw_5_110 ⟨Nat.le_of_ble_eq_true rfl, Nat.le_of_ble_eq_true rfl⟩ hl.1 rc0 ⟨Nat.le_refl _, Nat.le_refl _⟩ dX8_isUrgent_61 (fun ra8 H locs hM => ?_)
        refine m_if_eq (tgt := 111) (pc := 64) C ra8 dX8_isUrgent_64 (by decide) (fun c10 => ?_) (fun c10 => ?_)
        · have h := if_t h c10
          refine m_iconst (pc := 111) C dX8_isUrgent_111 ?_
          refine m_istore_n (pc := 112) C dX8_isUrgent_112 rfl hl (by decide) (lvK1 0 rfl (Nat.ne_of_beq_eq_false rfl) (Nat.ne_of_beq_eq_false rfl) (lvK2 1 rfl (Nat.ne_of_beq_eq_false rfl) rfl (lvK1 3 rfl (Nat.ne_of_beq_eq_false rfl) (Nat.ne_of_beq_eq_false rfl) lvK0))) (fun ls hl => ?_)
          obtain ⟨a11, ea11, h⟩ := nm_some h
          have ra11 : R32 a11 := by rw [ea11]; exact w32_R _
          refine m_iinc (k := 3) (pc := 113) C dX8_isUrgent_113 hl rfl (by decide) ea11 (lvK2 0 rfl (Nat.ne_of_beq_eq_false rfl) rfl (lvK1 1 rfl (Nat.ne_of_beq_eq_false rfl) (Nat.ne_of_beq_eq_false rfl) (lvK1 2 rfl (Nat.ne_of_beq_eq_false rfl) (Nat.ne_of_beq_eq_false rfl) lvK0))) (fun ls hl => ?_)
          refine m_goto (tgt := 43) (pc := 116) C dX8_isUrgent_116 (by decide) ?_
          exact ih _ _ _ _ _ h rx1 rk_0 ra11 _ _ _ hM (lv_sub hl [2, 3, 1, 0] rfl)
        · have h := if_f h c10
          refine m_aload_n (pc := 67) C dX8_isUrgent_67 rfl (lv_at hl 0 rfl) ?_
          obtain ⟨q12, h⟩ := ck_some h
          refine G_X8_now (pc := 68) C hM bw_4_227 q12 dX8_isUrgent_68 ?_
          refine m_iload_n (pc := 71) C dX8_isUrgent_71 rfl (lv_at hl 3 rfl) ?_
          obtain ⟨a13, μ14, ca13, h⟩ := bd_some h
          refine V_X8_exportAt (pc := 72) C hM ca13 rx3 bw_5_114 ⟨Nat.le_of_ble_eq_true rfl, Nat.le_of_ble_eq_true rfl⟩ hl.1 (rcR rc0) ⟨Nat.le_refl _, Nat.le_refl _⟩ dX8_isUrgent_72 (fun ra13 H locs hM => ?_)
          obtain ⟨q15, h⟩ := ck_some h
          have gq15 := Ar_lald hM q15.1 q15.2.1 q15.2.2
          refine m_lald (pc := 75) C hM q15.1 q15.2.1 q15.2.2 dX8_isUrgent_75 ?_
          refine m_iload_n (pc := 76) C dX8_isUrgent_76 rfl (lv_at hl 1 rfl) ?_
          refine m_i2l (pc := 77) C rx1 dX8_isUrgent_77 ?_
          refine m_lcmp_ne (tgt := 111) (pc := 78) C gq15 (R32.to64 rx1) dX8_isUrgent_78 dX8_isUrgent_79 (by decide) (fun c16 => ?_) (fun c16 => ?_)
          · have h := if_t h c16
            refine m_iconst (pc := 111) C dX8_isUrgent_111 ?_
            refine m_istore_n (pc := 112) C dX8_isUrgent_112 rfl hl (by decide) (lvK1 0 rfl (Nat.ne_of_beq_eq_false rfl) (Nat.ne_of_beq_eq_false rfl) (lvK2 1 rfl (Nat.ne_of_beq_eq_false rfl) rfl (lvK1 3 rfl (Nat.ne_of_beq_eq_false rfl) (Nat.ne_of_beq_eq_false rfl) lvK0))) (fun ls hl => ?_)
            obtain ⟨a17, ea17, h⟩ := nm_some h
            have ra17 : R32 a17 := by rw [ea17]; exact w32_R _
            refine m_iinc (k := 3) (pc := 113) C dX8_isUrgent_113 hl rfl (by decide) ea17 (lvK2 0 rfl (Nat.ne_of_beq_eq_false rfl) rfl (lvK1 1 rfl (Nat.ne_of_beq_eq_false rfl) (Nat.ne_of_beq_eq_false rfl) (lvK1 2 rfl (Nat.ne_of_beq_eq_false rfl) (Nat.ne_of_beq_eq_false rfl) lvK0))) (fun ls hl => ?_)
            refine m_goto (tgt := 43) (pc := 116) C dX8_isUrgent_116 (by decide) ?_
            exact ih _ _ _ _ _ h rx1 rk_0 ra17 _ _ _ hM (lv_sub hl [2, 3, 1, 0] rfl)
          · have h := if_f h c16
            refine m_aload_n (pc := 82) C dX8_isUrgent_82 rfl (lv_at hl 0 rfl) ?_
            obtain ⟨q18, h⟩ := ck_some h
            refine G_X8_now (pc := 83) C hM bw_4_227 q18 dX8_isUrgent_83 ?_
            refine m_iload_n (pc := 86) C dX8_isUrgent_86 rfl (lv_at hl 3 rfl) ?_
            obtain ⟨a19, μ20, ca19, h⟩ := bd_some h
            refine V_X8_exportAt (pc := 87) C hM ca19 rx3 bw_5_114 ⟨Nat.le_of_ble_eq_true rfl, Nat.le_of_ble_eq_true rfl⟩ hl.1 (rcR rc0) ⟨Nat.le_refl _, Nat.le_refl _⟩ dX8_isUrgent_87 (fun ra19 H locs hM => ?_)
            refine m_iconst (pc := 90) C dX8_isUrgent_90 ?_
            obtain ⟨a21, ea21, h⟩ := nm_some h
            have ra21 : R32 a21 := by rw [ea21]; exact w32_R _
            refine m_iadd (pc := 91) C dX8_isUrgent_91 ea21 ?_
            obtain ⟨q22, h⟩ := ck_some h
            have gq22 := Ar_lald hM q22.1 q22.2.1 q22.2.2
            refine m_lald (pc := 92) C hM q22.1 q22.2.1 q22.2.2 dX8_isUrgent_92 ?_
            refine m_aload_n (pc := 93) C dX8_isUrgent_93 rfl (lv_at hl 0 rfl) ?_
            obtain ⟨q23, h⟩ := ck_some h
            refine G_X8_now (pc := 94) C hM bw_4_227 q23 dX8_isUrgent_94 ?_
            refine m_iconst (pc := 97) C dX8_isUrgent_97 ?_
            obtain ⟨q24, h⟩ := ck_some h
            have gq24 := Ar_lald hM q24.1 q24.2.1 q24.2.2
            refine m_lald (pc := 98) C hM q24.1 q24.2.1 q24.2.2 dX8_isUrgent_98 ?_
            refine m_ldc2 (n := 7) (pc := 99) C bw_6_128 rfl dX8_isUrgent_99 ?_
            obtain ⟨a25, ea25, h⟩ := nm_some h
            have ra25 : R64 a25 := by rw [ea25]; exact w64_R _
            refine m_ladd (pc := 102) C dX8_isUrgent_102 ea25 ?_
            refine m_lcmp_gt (tgt := 111) (pc := 103) C gq22 ra25 dX8_isUrgent_103 dX8_isUrgent_104 (by decide) (fun c26 => ?_) (fun c26 => ?_)
            · have h := if_t h c26
              refine m_iconst (pc := 111) C dX8_isUrgent_111 ?_
              refine m_istore_n (pc := 112) C dX8_isUrgent_112 rfl hl (by decide) (lvK1 0 rfl (Nat.ne_of_beq_eq_false rfl) (Nat.ne_of_beq_eq_false rfl) (lvK2 1 rfl (Nat.ne_of_beq_eq_false rfl) rfl (lvK1 3 rfl (Nat.ne_of_beq_eq_false rfl) (Nat.ne_of_beq_eq_false rfl) lvK0))) (fun ls hl => ?_)
              obtain ⟨a27, ea27, h⟩ := nm_some h
              have ra27 : R32 a27 := by rw [ea27]; exact w32_R _
              refine m_iinc (k := 3) (pc := 113) C dX8_isUrgent_113 hl rfl (by decide) ea27 (lvK2 0 rfl (Nat.ne_of_beq_eq_false rfl) rfl (lvK1 1 rfl (Nat.ne_of_beq_eq_false rfl) (Nat.ne_of_beq_eq_false rfl) (lvK1 2 rfl (Nat.ne_of_beq_eq_false rfl) (Nat.ne_of_beq_eq_false rfl) lvK0))) (fun ls hl => ?_)
              refine m_goto (tgt := 43) (pc := 116) C dX8_isUrgent_116 (by decide) ?_
              exact ih _ _ _ _ _ h rx1 rk_0 ra27 _ _ _ hM (lv_sub hl [2, 3, 1, 0] rfl)
            · have h := if_f h c26
              refine m_iconst (pc := 107) C dX8_isUrgent_107 ?_
              refine m_goto (tgt := 112) (pc := 108) C dX8_isUrgent_108 (by decide) ?_
              refine m_istore_n (pc := 112) C dX8_isUrgent_112 rfl hl (by decide) (lvK1 0 rfl (Nat.ne_of_beq_eq_false rfl) (Nat.ne_of_beq_eq_false rfl) (lvK2 1 rfl (Nat.ne_of_beq_eq_false rfl) rfl (lvK1 3 rfl (Nat.ne_of_beq_eq_false rfl) (Nat.ne_of_beq_eq_false rfl) lvK0))) (fun ls hl => ?_)
              obtain ⟨a28, ea28, h⟩ := nm_some h
              have ra28 : R32 a28 := by rw [ea28]; exact w32_R _
              refine m_iinc (k := 3) (pc := 113) C dX8_isUrgent_113 hl rfl (by decide) ea28 (lvK2 0 rfl (Nat.ne_of_beq_eq_false rfl) rfl (lvK1 1 rfl (Nat.ne_of_beq_eq_false rfl) (Nat.ne_of_beq_eq_false rfl) (lvK1 2 rfl (Nat.ne_of_beq_eq_false rfl) (Nat.ne_of_beq_eq_false rfl) lvK0))) (fun ls hl => ?_)
              refine m_goto (tgt := 43) (pc := 116) C dX8_isUrgent_116 (by decide) ?_
              exact ih _ _ _ _ _ h rx1 rk_1 ra28 _ _ _ hM (lv_sub hl [2, 3, 1, 0] rfl)
set_option maxHeartbeats 4000000 in
set_option maxRecDepth 100000 in
theorem c_X8_isUrgent (l : Launch) (E : gE) (N : Nat) (x0 x1 : Int) (μ μ' : Mm) (r : Int) (h : f_X8_isUrgent N x0 x1 μ = some (r, μ')) (rx1 : R32 x1) : gMet l E yX8_isUrgent cX8_isUrgent 4 (some .boolean) 2 41 [vr E x0, vi x1] (some (vi r)) (R32 r) μ μ' 0 0 := by
  refine g_ofW [1, 1] (by first | (simp only [List.map_cons, List.map_nil, vr_cat]; done) | (simp only [List.map_cons, List.map_nil, vr_cat]; rfl)) (by decide) (by decide) (fun p e s m below meth c ls C hM hl => ?_)
  replace C : gCx p s m _ meth c cX8_isUrgent 4 (some .boolean) "isUrgent" RX8 := C
  replace hl : lv_has ls 4 [(0, vr E x0), (1, vi x1)] := hl
  unfold f_X8_isUrgent at h
  refine m_aload_n (pc := 0) C dX8_isUrgent_0 rfl (lv_at hl 0 rfl) ?_
  refine m_iload_n (pc := 1) C dX8_isUrgent_1 rfl (lv_at hl 1 rfl) ?_
  obtain ⟨q1, h⟩ := ck_some h
  obtain ⟨a2, μ3, ca2, h⟩ := bd_some h
  refine V_X8_units (pc := 2) C hM ca2 rx1 q1 bw_5_94 ⟨Nat.le_of_ble_eq_true rfl, Nat.le_of_ble_eq_true rfl⟩ hl.1 rc0 ⟨Nat.le_refl _, Nat.le_refl _⟩ dX8_isUrgent_2 (fun ra2 H locs hM => ?_)
  refine m_lconst (v := 0) (pc := 5) C dX8_isUrgent_5 rfl ?_
  refine m_lcmp_le (tgt := 39) (pc := 6) C ra2 rl_0 dX8_isUrgent_6 dX8_isUrgent_7 (by decide) (fun c4 => ?_) (fun c4 => ?_)
  · have h := if_t h c4
    refine m_iconst (pc := 39) C dX8_isUrgent_39 ?_
    refine m_istore_n (pc := 40) C dX8_isUrgent_40 rfl hl (by decide) (lvK1 0 rfl (Nat.ne_of_beq_eq_false rfl) (Nat.ne_of_beq_eq_false rfl) (lvK2 1 rfl (Nat.ne_of_beq_eq_false rfl) rfl lvK0)) (fun ls hl => ?_)
    refine m_iconst (pc := 41) C dX8_isUrgent_41 ?_
    refine m_istore_n (pc := 42) C dX8_isUrgent_42 rfl hl (by decide) (lvK2 0 rfl (Nat.ne_of_beq_eq_false rfl) rfl (lvK1 1 rfl (Nat.ne_of_beq_eq_false rfl) (Nat.ne_of_beq_eq_false rfl) (lvK1 2 rfl (Nat.ne_of_beq_eq_false rfl) (Nat.ne_of_beq_eq_false rfl) lvK0))) (fun ls hl => ?_)
    exact k_X8_isUrgent_b43 C N N _ _ _ _ _ h rx1 rk_0 rk_0 _ _ _ hM (lv_sub hl [2, 3, 1, 0] rfl)
  · have h := if_f h c4
    refine m_aload_n (pc := 10) C dX8_isUrgent_10 rfl (lv_at hl 0 rfl) ?_
    obtain ⟨q5, h⟩ := ck_some h
    refine G_X8_now (pc := 11) C hM bw_4_227 q5 dX8_isUrgent_11 ?_
    refine m_iload_n (pc := 14) C dX8_isUrgent_14 rfl (lv_at hl 1 rfl) ?_
    obtain ⟨a6, μ7, ca6, h⟩ := bd_some h
    refine V_X8_lotAt (pc := 15) C hM ca6 rx1 bw_5_87 ⟨Nat.le_of_ble_eq_true rfl, Nat.le_of_ble_eq_true rfl⟩ hl.1 (rcR rc0) ⟨Nat.le_refl _, Nat.le_refl _⟩ dX8_isUrgent_15 (fun ra6 H locs hM => ?_)
    refine m_iconst (pc := 18) C dX8_isUrgent_18 ?_
    obtain ⟨a8, ea8, h⟩ := nm_some h
    have ra8 : R32 a8 := by rw [ea8]; exact w32_R _
    refine m_iadd (pc := 19) C dX8_isUrgent_19 ea8 ?_
    obtain ⟨q9, h⟩ := ck_some h
    have gq9 := Ar_lald hM q9.1 q9.2.1 q9.2.2
    refine m_lald (pc := 20) C hM q9.1 q9.2.1 q9.2.2 dX8_isUrgent_20 ?_
    refine m_aload_n (pc := 21) C dX8_isUrgent_21 rfl (lv_at hl 0 rfl) ?_
    obtain ⟨q10, h⟩ := ck_some h
    refine G_X8_now (pc := 22) C hM bw_4_227 q10 dX8_isUrgent_22 ?_
    refine m_iconst (pc := 25) C dX8_isUrgent_25 ?_
    obtain ⟨q11, h⟩ := ck_some h
    have gq11 := Ar_lald hM q11.1 q11.2.1 q11.2.2
    refine m_lald (pc := 26) C hM q11.1 q11.2.1 q11.2.2 dX8_isUrgent_26 ?_
    refine m_ldc2 (n := 7) (pc := 27) C bw_6_128 rfl dX8_isUrgent_27 ?_
    obtain ⟨a12, ea12, h⟩ := nm_some h
    have ra12 : R64 a12 := by rw [ea12]; exact w64_R _
    refine m_ladd (pc := 30) C dX8_isUrgent_30 ea12 ?_
    refine m_lcmp_gt (tgt := 39) (pc := 31) C gq9 ra12 dX8_isUrgent_31 dX8_isUrgent_32 (by decide) (fun c13 => ?_) (fun c13 => ?_)
    · have h := if_t h c13
      refine m_iconst (pc := 39) C dX8_isUrgent_39 ?_
      refine m_istore_n (pc := 40) C dX8_isUrgent_40 rfl hl (by decide) (lvK1 0 rfl (Nat.ne_of_beq_eq_false rfl) (Nat.ne_of_beq_eq_false rfl) (lvK2 1 rfl (Nat.ne_of_beq_eq_false rfl) rfl lvK0)) (fun ls hl => ?_)
      refine m_iconst (pc := 41) C dX8_isUrgent_41 ?_
      refine m_istore_n (pc := 42) C dX8_isUrgent_42 rfl hl (by decide) (lvK2 0 rfl (Nat.ne_of_beq_eq_false rfl) rfl (lvK1 1 rfl (Nat.ne_of_beq_eq_false rfl) (Nat.ne_of_beq_eq_false rfl) (lvK1 2 rfl (Nat.ne_of_beq_eq_false rfl) (Nat.ne_of_beq_eq_false rfl) lvK0))) (fun ls hl => ?_)
      exact k_X8_isUrgent_b43 C N N _ _ _ _ _ h rx1 rk_0 rk_0 _ _ _ hM (lv_sub hl [2, 3, 1, 0] rfl)
    · have h := if_f h c13
      refine m_iconst (pc := 35) C dX8_isUrgent_35 ?_
      refine m_goto (tgt := 40) (pc := 36) C dX8_isUrgent_36 (by decide) ?_
      refine m_istore_n (pc := 40) C dX8_isUrgent_40 rfl hl (by decide) (lvK1 0 rfl (Nat.ne_of_beq_eq_false rfl) (Nat.ne_of_beq_eq_false rfl) (lvK2 1 rfl (Nat.ne_of_beq_eq_false rfl) rfl lvK0)) (fun ls hl => ?_)
      refine m_iconst (pc := 41) C dX8_isUrgent_41 ?_
      refine m_istore_n (pc := 42) C dX8_isUrgent_42 rfl hl (by decide) (lvK2 0 rfl (Nat.ne_of_beq_eq_false rfl) rfl (lvK1 1 rfl (Nat.ne_of_beq_eq_false rfl) (Nat.ne_of_beq_eq_false rfl) (lvK1 2 rfl (Nat.ne_of_beq_eq_false rfl) (Nat.ne_of_beq_eq_false rfl) lvK0))) (fun ls hl => ?_)
      exact k_X8_isUrgent_b43 C N N _ _ _ _ _ h rx1 rk_1 rk_0 _ _ _ hM (lv_sub hl [2, 3, 1, 0] rfl)
theorem hd_X8_isUrgent : yX8_isUrgent.cls ≠ "java/lang/invoke/MethodHandle" ∧ yX8_isUrgent.cls ≠ "java/lang/invoke/VarHandle" ∧ (parseMethodDescriptor yX8_isUrgent.desc).map (fun d => d.parameters.length) = some 1 := by decide +kernel

theorem V_X8_isUrgent {p : Program} {l : Launch} {e : Env} {R : Room} {s : State} {m : MethodId} {args : Array Value} {below : List Frame} {meth : Method} {c : Code} {H : Heap} {locs : List Loc} {cells slots : Nat} {Q : State → Prop} {cc : ByteArray} {pc nL : Nat} {ls : Array Slot} {rest : List Value} {ret : Option FieldType} {nmm own : String} {E : gE} {μ μ1 : Mm} {index : Nat} (C : gCx p s m args meth c cc nL ret nmm own) (hM : MS E μ s H locs) {N : Nat} {x0 x1 v : Int} (hc : f_X8_isUrgent N x0 x1 μ = some (v, μ1)) (rx1 : R32 x1) (hck : μ x0 (-2) = 10) (h1 : Cond.methodLink own index yX8_isUrgent ∈ bigL) (hR : 3 ≤ R.frames ∧ 64 ≤ R.locals) (hl : ls.size = nL) (hcat : RC rest 8) (hf : cells + 0 ≤ R.cells ∧ slots + 0 ≤ R.slots) (hdg : decode cc pc = .ok (.invokevirtual index, 3)) (kk : (R32 v) → ∀ (H1 : Heap) (locs1 : List Loc), MS E μ1 s H1 locs1 → W p l e R s m args below meth c H1 locs1 (cells + 0) (slots + 0) Q (F0 m (pc + 3) ls (vi v :: rest))) : W p l e R s m args below meth c H locs cells slots Q (F0 m pc ls (vi x1 :: vr E x0 :: rest)) := g_callV C KF_X8 hM (c_X8_isUrgent l E N x0 x1 μ μ1 v hc rx1) hck (gV h1 bw_6_126 bs_69 bw_1_13 bw_6_127) ⟨rfl, hd_X8_isUrgent⟩ hR rfl hl rfl hcat hf hdg kk
/-! X8_writeDocument -/
def f_X8_writeDocument (N : Nat) (x0 x1 : Int) (μ : Mm) : Rs :=
  ck (μ x0 (-2) = 10) <|
  nm (mset μ x0 13 0) fun μ2 =>
  ck (μ2 x0 (-2) = 10) <|
  bd (f_X8_write N x0 76 μ2) fun a4 μ5 =>
  ck (μ5 x0 (-2) = 10) <|
  bd (f_X8_writeNumber N x0 x1 μ5) fun a7 μ8 =>
  ck (μ8 x0 (-2) = 10) <|
  bd (f_X8_write N x0 47 μ8) fun a10 μ11 =>
  ck (μ11 x0 (-2) = 10) <|
  bd (f_X8_lotAt N x1 μ11) fun a13 μ14 =>
  ck (μ14 (μ11 x0 0) (-2) = 24 ∧ (0 : Int) ≤ a13 ∧ a13 < μ14 (μ11 x0 0) (-1)) <|
  ck (μ14 x0 (-2) = 10) <|
  bd (f_X8_writeNumber N x0 (μ14 (μ11 x0 0) a13) μ14) fun a17 μ18 =>
  ck (μ18 x0 (-2) = 10) <|
  bd (f_X8_write N x0 58 μ18) fun a20 μ21 =>
  ck (μ21 x0 (-2) = 10) <|
  bd (f_X8_units N x0 x1 μ21) fun a23 μ24 =>
  ck (μ24 x0 (-2) = 10) <|
  bd (f_X8_writeNumber N x0 a23 μ24) fun a26 μ27 =>
  ck (μ27 x0 (-2) = 10) <|
  bd (f_X8_write N x0 43 μ27) fun a29 μ30 =>
  ck (μ30 x0 (-2) = 10) <|
  bd (f_X8_waiting N x0 x1 1 μ30) fun a32 μ33 =>
  ck (μ33 x0 (-2) = 10) <|
  bd (f_X8_writeNumber N x0 a32 μ33) fun a35 μ36 =>
  ck (μ36 x0 (-2) = 10) <|
  bd (f_X8_isUrgent N x0 x1 μ36) fun a38 μ39 =>
  if a38 = 0 then
    (some (0, μ39))
  else
  ck (μ39 x0 (-2) = 10) <|
  bd (f_X8_write N x0 33 μ39) fun a42 μ43 =>
  some (0, μ43)
set_option maxHeartbeats 4000000 in
set_option maxRecDepth 100000 in
theorem c_X8_writeDocument (l : Launch) (E : gE) (N : Nat) (x0 x1 : Int) (μ μ' : Mm) (r : Int) (h : f_X8_writeDocument N x0 x1 μ = some (r, μ')) (rx1 : R32 x1) : gMet l E yX8_writeDocument cX8_writeDocument 2 none 3 66 [vr E x0, vi x1] none True μ μ' 0 0 := by
  refine g_ofW [1, 1] (by first | (simp only [List.map_cons, List.map_nil, vr_cat]; done) | (simp only [List.map_cons, List.map_nil, vr_cat]; rfl)) (by decide) (by decide) (fun p e s m below meth c ls C hM hl => ?_)
  replace C : gCx p s m _ meth c cX8_writeDocument 2 none "writeDocument" RX8 := C
  replace hl : lv_has ls 2 [(0, vr E x0), (1, vi x1)] := hl
  unfold f_X8_writeDocument at h
  refine m_aload_n (pc := 0) C dX8_writeDocument_0 rfl (lv_at hl 0 rfl) ?_
  refine m_iconst (pc := 1) C dX8_writeDocument_1 ?_
  obtain ⟨q1, h⟩ := ck_some h
  obtain ⟨μ2, eμ2, h⟩ := nm_some h
  refine P_X8_written (pc := 2) C hM bw_5_0 q1 rk_0 eμ2 dX8_writeDocument_2 (fun H locs hM => ?_)
  refine m_aload_n (pc := 5) C dX8_writeDocument_5 rfl (lv_at hl 0 rfl) ?_
  refine m_bipush (pc := 6) C dX8_writeDocument_6 rfl ?_
  obtain ⟨q3, h⟩ := ck_some h
  obtain ⟨a4, μ5, ca4, h⟩ := bd_some h
  refine V_X8_write (pc := 8) C hM ca4 rk_76 q3 bw_6_115 ⟨Nat.le_of_ble_eq_true rfl, Nat.le_of_ble_eq_true rfl⟩ hl.1 rc0 ⟨Nat.le_refl _, Nat.le_refl _⟩ dX8_writeDocument_8 (fun _ H locs hM => ?_)
  refine m_aload_n (pc := 11) C dX8_writeDocument_11 rfl (lv_at hl 0 rfl) ?_
  refine m_iload_n (pc := 12) C dX8_writeDocument_12 rfl (lv_at hl 1 rfl) ?_
  refine m_i2l (pc := 13) C rx1 dX8_writeDocument_13 ?_
  obtain ⟨q6, h⟩ := ck_some h
  obtain ⟨a7, μ8, ca7, h⟩ := bd_some h
  refine V_X8_writeNumber (pc := 14) C hM ca7 (R32.to64 rx1) q6 bw_6_119 ⟨Nat.le_of_ble_eq_true rfl, Nat.le_of_ble_eq_true rfl⟩ hl.1 rc0 ⟨Nat.le_refl _, Nat.le_refl _⟩ dX8_writeDocument_14 (fun _ H locs hM => ?_)
  refine m_aload_n (pc := 17) C dX8_writeDocument_17 rfl (lv_at hl 0 rfl) ?_
  refine m_bipush (pc := 18) C dX8_writeDocument_18 rfl ?_
  obtain ⟨q9, h⟩ := ck_some h
  obtain ⟨a10, μ11, ca10, h⟩ := bd_some h
  refine V_X8_write (pc := 20) C hM ca10 rk_47 q9 bw_6_115 ⟨Nat.le_of_ble_eq_true rfl, Nat.le_of_ble_eq_true rfl⟩ hl.1 rc0 ⟨Nat.le_refl _, Nat.le_refl _⟩ dX8_writeDocument_20 (fun _ H locs hM => ?_)
  refine m_aload_n (pc := 23) C dX8_writeDocument_23 rfl (lv_at hl 0 rfl) ?_
  refine m_aload_n (pc := 24) C dX8_writeDocument_24 rfl (lv_at hl 0 rfl) ?_
  obtain ⟨q12, h⟩ := ck_some h
  refine G_X8_now (pc := 25) C hM bw_4_227 q12 dX8_writeDocument_25 ?_
  refine m_iload_n (pc := 28) C dX8_writeDocument_28 rfl (lv_at hl 1 rfl) ?_
  obtain ⟨a13, μ14, ca13, h⟩ := bd_some h
  refine V_X8_lotAt (pc := 29) C hM ca13 rx1 bw_5_87 ⟨Nat.le_of_ble_eq_true rfl, Nat.le_of_ble_eq_true rfl⟩ hl.1 (rcR (rcR rc0)) ⟨Nat.le_refl _, Nat.le_refl _⟩ dX8_writeDocument_29 (fun ra13 H locs hM => ?_)
  obtain ⟨q15, h⟩ := ck_some h
  have gq15 := Ar_lald hM q15.1 q15.2.1 q15.2.2
  refine m_lald (pc := 32) C hM q15.1 q15.2.1 q15.2.2 dX8_writeDocument_32 ?_
  obtain ⟨q16, h⟩ := ck_some h
  obtain ⟨a17, μ18, ca17, h⟩ := bd_some h
  refine V_X8_writeNumber (pc := 33) C hM ca17 gq15 q16 bw_6_119 ⟨Nat.le_of_ble_eq_true rfl, Nat.le_of_ble_eq_true rfl⟩ hl.1 rc0 ⟨Nat.le_refl _, Nat.le_refl _⟩ dX8_writeDocument_33 (fun _ H locs hM => ?_)
  refine m_aload_n (pc := 36) C dX8_writeDocument_36 rfl (lv_at hl 0 rfl) ?_
  refine m_bipush (pc := 37) C dX8_writeDocument_37 rfl ?_
  obtain ⟨q19, h⟩ := ck_some h
  obtain ⟨a20, μ21, ca20, h⟩ := bd_some h
  refine V_X8_write (pc := 39) C hM ca20 rk_58 q19 bw_6_115 ⟨Nat.le_of_ble_eq_true rfl, Nat.le_of_ble_eq_true rfl⟩ hl.1 rc0 ⟨Nat.le_refl _, Nat.le_refl _⟩ dX8_writeDocument_39 (fun _ H locs hM => ?_)
  refine m_aload_n (pc := 42) C dX8_writeDocument_42 rfl (lv_at hl 0 rfl) ?_
  refine m_aload_n (pc := 43) C dX8_writeDocument_43 rfl (lv_at hl 0 rfl) ?_
  refine m_iload_n (pc := 44) C dX8_writeDocument_44 rfl (lv_at hl 1 rfl) ?_
  obtain ⟨q22, h⟩ := ck_some h
  obtain ⟨a23, μ24, ca23, h⟩ := bd_some h
  refine V_X8_units (pc := 45) C hM ca23 rx1 q22 bw_5_94 ⟨Nat.le_of_ble_eq_true rfl, Nat.le_of_ble_eq_true rfl⟩ hl.1 (rcR rc0) ⟨Nat.le_refl _, Nat.le_refl _⟩ dX8_writeDocument_45 (fun ra23 H locs hM => ?_)
  obtain ⟨q25, h⟩ := ck_some h
  obtain ⟨a26, μ27, ca26, h⟩ := bd_some h
  refine V_X8_writeNumber (pc := 48) C hM ca26 ra23 q25 bw_6_119 ⟨Nat.le_of_ble_eq_true rfl, Nat.le_of_ble_eq_true rfl⟩ hl.1 rc0 ⟨Nat.le_refl _, Nat.le_refl _⟩ dX8_writeDocument_48 (fun _ H locs hM => ?_)
  refine m_aload_n (pc := 51) C dX8_writeDocument_51 rfl (lv_at hl 0 rfl) ?_
  refine m_bipush (pc := 52) C dX8_writeDocument_52 rfl ?_
  obtain ⟨q28, h⟩ := ck_some h
  obtain ⟨a29, μ30, ca29, h⟩ := bd_some h
  refine V_X8_write (pc := 54) C hM ca29 rk_43 q28 bw_6_115 ⟨Nat.le_of_ble_eq_true rfl, Nat.le_of_ble_eq_true rfl⟩ hl.1 rc0 ⟨Nat.le_refl _, Nat.le_refl _⟩ dX8_writeDocument_54 (fun _ H locs hM => ?_)
  refine m_aload_n (pc := 57) C dX8_writeDocument_57 rfl (lv_at hl 0 rfl) ?_
  refine m_aload_n (pc := 58) C dX8_writeDocument_58 rfl (lv_at hl 0 rfl) ?_
  refine m_iload_n (pc := 59) C dX8_writeDocument_59 rfl (lv_at hl 1 rfl) ?_
  refine m_iconst (pc := 60) C dX8_writeDocument_60 ?_
  obtain ⟨q31, h⟩ := ck_some h
  obtain ⟨a32, μ33, ca32, h⟩ := bd_some h
  refine V_X8_waiting (pc := 61) C hM ca32 rx1 rk_1 q31 bw_5_106 ⟨Nat.le_of_ble_eq_true rfl, Nat.le_of_ble_eq_true rfl⟩ hl.1 (rcR rc0) ⟨Nat.le_refl _, Nat.le_refl _⟩ dX8_writeDocument_61 (fun ra32 H locs hM => ?_)
  obtain ⟨q34, h⟩ := ck_some h
  obtain ⟨a35, μ36, ca35, h⟩ := bd_some h
  refine V_X8_writeNumber (pc := 64) C hM ca35 ra32 q34 bw_6_119 ⟨Nat.le_of_ble_eq_true rfl, Nat.le_of_ble_eq_true rfl⟩ hl.1 rc0 ⟨Nat.le_refl _, Nat.le_refl _⟩ dX8_writeDocument_64 (fun _ H locs hM => ?_)
  refine m_aload_n (pc := 67) C dX8_writeDocument_67 rfl (lv_at hl 0 rfl) ?_
  refine m_iload_n (pc := 68) C dX8_writeDocument_68 rfl (lv_at hl 1 rfl) ?_
  obtain ⟨q37, h⟩ := ck_some h
  obtain ⟨a38, μ39, ca38, h⟩ := bd_some h
  refine V_X8_isUrgent (pc := 69) C hM ca38 rx1 q37 bw_6_124 ⟨Nat.le_of_ble_eq_true rfl, Nat.le_of_ble_eq_true rfl⟩ hl.1 rc0 ⟨Nat.le_refl _, Nat.le_refl _⟩ dX8_writeDocument_69 (fun ra38 H locs hM => ?_)
  refine m_if_eq (tgt := 81) (pc := 72) C ra38 dX8_writeDocument_72 (by decide) (fun c40 => ?_) (fun c40 => ?_)
  · have h := if_t h c40
    cases h
    exact m_vret (pc := 81) C hM trivial dX8_writeDocument_81
  · have h := if_f h c40
    refine m_aload_n (pc := 75) C dX8_writeDocument_75 rfl (lv_at hl 0 rfl) ?_
    refine m_bipush (pc := 76) C dX8_writeDocument_76 rfl ?_
    obtain ⟨q41, h⟩ := ck_some h
    obtain ⟨a42, μ43, ca42, h⟩ := bd_some h
    refine V_X8_write (pc := 78) C hM ca42 rk_33 q41 bw_6_115 ⟨Nat.le_of_ble_eq_true rfl, Nat.le_of_ble_eq_true rfl⟩ hl.1 rc0 ⟨Nat.le_refl _, Nat.le_refl _⟩ dX8_writeDocument_78 (fun _ H locs hM => ?_)
    cases h
    exact m_vret (pc := 81) C hM trivial dX8_writeDocument_81
theorem hd_X8_writeDocument : yX8_writeDocument.cls ≠ "java/lang/invoke/MethodHandle" ∧ yX8_writeDocument.cls ≠ "java/lang/invoke/VarHandle" ∧ (parseMethodDescriptor yX8_writeDocument.desc).map (fun d => d.parameters.length) = some 1 := by decide +kernel

theorem V_X8_writeDocument {p : Program} {l : Launch} {e : Env} {R : Room} {s : State} {m : MethodId} {args : Array Value} {below : List Frame} {meth : Method} {c : Code} {H : Heap} {locs : List Loc} {cells slots : Nat} {Q : State → Prop} {cc : ByteArray} {pc nL : Nat} {ls : Array Slot} {rest : List Value} {ret : Option FieldType} {nmm own : String} {E : gE} {μ μ1 : Mm} {index : Nat} (C : gCx p s m args meth c cc nL ret nmm own) (hM : MS E μ s H locs) {N : Nat} {x0 x1 v : Int} (hc : f_X8_writeDocument N x0 x1 μ = some (v, μ1)) (rx1 : R32 x1) (hck : μ x0 (-2) = 10) (h1 : Cond.methodLink own index yX8_writeDocument ∈ bigL) (hR : 4 ≤ R.frames ∧ 87 ≤ R.locals) (hl : ls.size = nL) (hcat : RC rest 8) (hf : cells + 0 ≤ R.cells ∧ slots + 0 ≤ R.slots) (hdg : decode cc pc = .ok (.invokevirtual index, 3)) (kk : True → ∀ (H1 : Heap) (locs1 : List Loc), MS E μ1 s H1 locs1 → W p l e R s m args below meth c H1 locs1 (cells + 0) (slots + 0) Q (F0 m (pc + 3) ls rest)) : W p l e R s m args below meth c H locs cells slots Q (F0 m pc ls (vi x1 :: vr E x0 :: rest)) := g_callV C KF_X8 hM (c_X8_writeDocument l E N x0 x1 μ μ1 v hc rx1) hck (gV h1 bw_6_113 bs_66 bw_1_13 bw_6_114) ⟨rfl, hd_X8_writeDocument⟩ hR rfl hl rfl hcat hf hdg kk
end G16
