section G15
variable {p : Program} {l : Launch} {e : Env} {R : Room} {s : State} {m : MethodId} {args : Array Value} {below : List Frame} {meth : Method} {c : Code} {E : gE}
/-! X8_told -/
def f_X8_told_b148 (N : Nat) (x0 x1 x2 x3 x4 : Int) (μ : Mm) : Rs :=
  ck (μ x0 (-2) = 10) <|
  if 0 ≤ (μ x0 10) then
    (ck (μ x0 (-2) = 10) <|
     ck (μ x0 (-2) = 10) <|
     nm (mset μ x0 10 (μ x0 10)) fun μ5 =>
     some (x4, μ5))
  else
  if x3 = 0 then
    (ck (μ x0 (-2) = 10) <|
     ck (μ x0 (-2) = 10) <|
     nm (mset μ x0 10 (μ x0 8)) fun μ9 =>
     some (x4, μ9))
  else
  bd (f_X8_in N x4 x1 x2 μ) fun a10 μ11 =>
  if a10 = 0 then
    (ck (μ11 x0 (-2) = 10) <|
     ck (μ11 x0 (-2) = 10) <|
     nm (mset μ11 x0 10 (μ11 x0 8)) fun μ15 =>
     some (x4, μ15))
  else
  ck (μ11 x0 (-2) = 10) <|
  ck (μ11 x0 (-2) = 10) <|
  nm (mset μ11 x0 10 (μ11 x0 10)) fun μ18 =>
  some (x4, μ18)
def f_X8_told_b123 (N : Nat) (k81 : Int → Int → Int → Int → Int → Int → Mm → Rs) (x0 x1 x2 x4 x5 y0 : Int) (μ : Mm) : Rs :=
  nm (w32 (10 * x4)) fun a1 =>
  ck (μ x0 (-2) = 10) <|
  ck (μ (μ x0 7) (-2) = 22 ∧ (0 : Int) ≤ x5 ∧ x5 < μ (μ x0 7) (-1)) <|
  nm (w32 (a1 + (μ (μ x0 7) x5))) fun a4 =>
  nm (w32 (a4 - 48)) fun a5 =>
  nm (w32 (x5 + 1)) fun a6 =>
  k81 x0 x1 x2 y0 a5 a6 μ
def f_X8_told_b122 (N : Nat) (k81 : Int → Int → Int → Int → Int → Int → Mm → Rs) (x0 x1 x2 x4 x5 : Int) (μ : Mm) : Rs :=
  f_X8_told_b123 N k81 x0 x1 x2 x4 x5 0 μ
def f_X8_told_b81 (N : Nat) : Nat → Int → Int → Int → Int → Int → Int → Mm → Rs
  | 0, _, _, _, _, _, _, _ => none
  | n + 1, x0, x1, x2, x3, x4, x5, μ =>
    ck (μ x0 (-2) = 10) <|
    if (μ x0 9) ≤ x5 then
      (f_X8_told_b148 N x0 x1 x2 x3 x4 μ)
    else
    if x3 = 0 then
      (f_X8_told_b148 N x0 x1 x2 x3 x4 μ)
    else
    ck (μ x0 (-2) = 10) <|
    ck (μ (μ x0 7) (-2) = 22 ∧ (0 : Int) ≤ x5 ∧ x5 < μ (μ x0 7) (-1)) <|
    if (μ (μ x0 7) x5) < 48 then
      (f_X8_told_b122 N (f_X8_told_b81 N n) x0 x1 x2 x4 x5 μ)
    else
    ck (μ x0 (-2) = 10) <|
    ck (μ (μ x0 7) (-2) = 22 ∧ (0 : Int) ≤ x5 ∧ x5 < μ (μ x0 7) (-1)) <|
    if 57 < (μ (μ x0 7) x5) then
      (f_X8_told_b122 N (f_X8_told_b81 N n) x0 x1 x2 x4 x5 μ)
    else
    f_X8_told_b123 N (f_X8_told_b81 N n) x0 x1 x2 x4 x5 1 μ
def f_X8_told (N : Nat) (x0 x1 x2 : Int) (μ : Mm) : Rs :=
  ck (μ x0 (-2) = 10) <|
  if (μ x0 10) < 0 then
    (ck (μ x0 (-2) = 10) <|
     ck (μ x0 (-2) = 10) <|
     if (μ x0 9) = (μ x0 6) then
       (ck (μ x0 (-2) = 10) <|
        ck (μ x0 (-2) = 10) <|
        nm (mset μ x0 10 (μ x0 9)) fun μ8 =>
        some (0, μ8))
     else
     ck (μ x0 (-2) = 10) <|
     ck (μ x0 (-2) = 10) <|
     ck (μ (μ x0 7) (-2) = 22 ∧ (0 : Int) ≤ (μ x0 9) ∧ (μ x0 9) < μ (μ x0 7) (-1)) <|
     if (μ (μ x0 7) (μ x0 9)) = 32 then
       (ck (μ x0 (-2) = 10) <|
        nm (w32 ((μ x0 9) + 1)) fun a14 =>
        ck (μ x0 (-2) = 10) <|
        bd (f_X8_find N x0 a14 μ) fun a16 μ17 =>
        ck (μ17 x0 (-2) = 10) <|
        ck (μ17 x0 (-2) = 10) <|
        nm (w32 ((μ17 x0 9) - (μ17 x0 8))) fun a20 =>
        bd (f_X8_in N a20 1 8 μ17) fun a21 μ22 =>
        ck (μ22 x0 (-2) = 10) <|
        f_X8_told_b81 N N x0 x1 x2 a21 0 (μ22 x0 8) μ22)
     else
     ck (μ x0 (-2) = 10) <|
     ck (μ x0 (-2) = 10) <|
     nm (mset μ x0 10 (μ x0 9)) fun μ26 =>
     some (0, μ26))
  else
  some (0, μ)
set_option maxHeartbeats 4000000 in
set_option maxRecDepth 100000 in
theorem k_X8_told_b148 (C : gCx p s m args meth c cX8_told 6 (some .int) "told" RX8) (N : Nat) {r : Int} {μ' : Mm} : ∀ (x0 x1 x2 x3 x4 : Int) (μ : Mm), f_X8_told_b148 N x0 x1 x2 x3 x4 μ = some (r, μ') → R32 x1 → R32 x2 → R32 x3 → R32 x4 → ∀ (H : Heap) (locs : List Loc) (ls : Array Slot), MS E μ s H locs → lv_has ls 6 [(0, vr E x0), (1, vi x1), (2, vi x2), (3, vi x3), (4, vi x4)] → W p l e ({ frames := 1, cells := 0, slots := 0, locals := 25 } : Room) s m args below meth c H locs 0 0 (MQ below (gQ E (some (vi r)) (R32 r) μ') args s 0 0 (gA E)) (F0 m 148 ls []) := by
  intro x0 x1 x2 x3 x4 μ h rx1 rx2 rx3 rx4 H locs ls hM hl
  unfold f_X8_told_b148 at h
  refine m_aload_n (pc := 148) C dX8_told_148 rfl (lv_at hl 0 rfl) ?_
  refine m_aload_n (pc := 149) C dX8_told_149 rfl (lv_at hl 0 rfl) ?_
  obtain ⟨q1, h⟩ := ck_some h
  have gq1 := Gr_X8_fault hM q1
  refine G_X8_fault (pc := 150) C hM bw_4_237 q1 dX8_told_150 ?_
  refine m_if_ge (tgt := 173) (pc := 153) C gq1 dX8_told_153 (by decide) (fun c2 => ?_) (fun c2 => ?_)
  · have h := if_t h c2
    refine m_aload_n (pc := 173) C dX8_told_173 rfl (lv_at hl 0 rfl) ?_
    obtain ⟨q3, h⟩ := ck_some h
    have gq3 := Gr_X8_fault hM q3
    refine G_X8_fault (pc := 174) C hM bw_4_237 q3 dX8_told_174 ?_
    refine m_goto (tgt := 184) (pc := 177) C dX8_told_177 (by decide) ?_
    obtain ⟨q4, h⟩ := ck_some h
    obtain ⟨μ5, eμ5, h⟩ := nm_some h
    refine P_X8_fault (pc := 184) C hM bw_4_237 q4 gq3 eμ5 dX8_told_184 (fun H locs hM => ?_)
    refine m_iload (pc := 187) C dX8_told_187 (lv_at hl 4 rfl) ?_
    cases h
    exact m_iret (pc := 189) C hM rx4 dX8_told_189
  · have h := if_f h c2
    refine m_iload_n (pc := 156) C dX8_told_156 rfl (lv_at hl 3 rfl) ?_
    refine m_if_eq (tgt := 180) (pc := 157) C rx3 dX8_told_157 (by decide) (fun c6 => ?_) (fun c6 => ?_)
    · have h := if_t h c6
      refine m_aload_n (pc := 180) C dX8_told_180 rfl (lv_at hl 0 rfl) ?_
      obtain ⟨q7, h⟩ := ck_some h
      have gq7 := Gr_X8_from hM q7
      refine G_X8_from (pc := 181) C hM bw_4_235 q7 dX8_told_181 ?_
      obtain ⟨q8, h⟩ := ck_some h
      obtain ⟨μ9, eμ9, h⟩ := nm_some h
      refine P_X8_fault (pc := 184) C hM bw_4_237 q8 gq7 eμ9 dX8_told_184 (fun H locs hM => ?_)
      refine m_iload (pc := 187) C dX8_told_187 (lv_at hl 4 rfl) ?_
      cases h
      exact m_iret (pc := 189) C hM rx4 dX8_told_189
    · have h := if_f h c6
      refine m_iload (pc := 160) C dX8_told_160 (lv_at hl 4 rfl) ?_
      refine m_i2l (pc := 162) C rx4 dX8_told_162 ?_
      refine m_iload_n (pc := 163) C dX8_told_163 rfl (lv_at hl 1 rfl) ?_
      refine m_i2l (pc := 164) C rx1 dX8_told_164 ?_
      refine m_iload_n (pc := 165) C dX8_told_165 rfl (lv_at hl 2 rfl) ?_
      refine m_i2l (pc := 166) C rx2 dX8_told_166 ?_
      obtain ⟨a10, μ11, ca10, h⟩ := bd_some h
      refine V_X8_in (pc := 167) C hM ca10 (R32.to64 rx4) (R32.to64 rx1) (R32.to64 rx2) bw_5_43 ⟨Nat.le_of_ble_eq_true rfl, Nat.le_of_ble_eq_true rfl⟩ hl.1 (rcR rc0) ⟨Nat.le_refl _, Nat.le_refl _⟩ dX8_told_167 (fun ra10 H locs hM => ?_)
      refine m_if_eq (tgt := 180) (pc := 170) C ra10 dX8_told_170 (by decide) (fun c12 => ?_) (fun c12 => ?_)
      · have h := if_t h c12
        refine m_aload_n (pc := 180) C dX8_told_180 rfl (lv_at hl 0 rfl) ?_
        obtain ⟨q13, h⟩ := ck_some h
        have gq13 := Gr_X8_from hM q13
        refine G_X8_from (pc := 181) C hM bw_4_235 q13 dX8_told_181 ?_
        obtain ⟨q14, h⟩ := ck_some h
        obtain ⟨μ15, eμ15, h⟩ := nm_some h
        refine P_X8_fault (pc := 184) C hM bw_4_237 q14 gq13 eμ15 dX8_told_184 (fun H locs hM => ?_)
        refine m_iload (pc := 187) C dX8_told_187 (lv_at hl 4 rfl) ?_
        cases h
        exact m_iret (pc := 189) C hM rx4 dX8_told_189
      · have h := if_f h c12
        refine m_aload_n (pc := 173) C dX8_told_173 rfl (lv_at hl 0 rfl) ?_
        obtain ⟨q16, h⟩ := ck_some h
        have gq16 := Gr_X8_fault hM q16
        refine G_X8_fault (pc := 174) C hM bw_4_237 q16 dX8_told_174 ?_
        refine m_goto (tgt := 184) (pc := 177) C dX8_told_177 (by decide) ?_
        obtain ⟨q17, h⟩ := ck_some h
        obtain ⟨μ18, eμ18, h⟩ := nm_some h
        refine P_X8_fault (pc := 184) C hM bw_4_237 q17 gq16 eμ18 dX8_told_184 (fun H locs hM => ?_)
        refine m_iload (pc := 187) C dX8_told_187 (lv_at hl 4 rfl) ?_
        cases h
        exact m_iret (pc := 189) C hM rx4 dX8_told_189
set_option maxHeartbeats 4000000 in
set_option maxRecDepth 100000 in
theorem k_X8_told_b123 (C : gCx p s m args meth c cX8_told 6 (some .int) "told" RX8) (N : Nat) {r : Int} {μ' : Mm} (k81 : Int → Int → Int → Int → Int → Int → Mm → Rs) (hk81 : ∀ (x0 x1 x2 x3 x4 x5 : Int) (μ : Mm), k81 x0 x1 x2 x3 x4 x5 μ = some (r, μ') → R32 x1 → R32 x2 → R32 x3 → R32 x4 → R32 x5 → ∀ (H : Heap) (locs : List Loc) (ls : Array Slot), MS E μ s H locs → lv_has ls 6 [(0, vr E x0), (1, vi x1), (2, vi x2), (3, vi x3), (4, vi x4), (5, vi x5)] → W p l e ({ frames := 1, cells := 0, slots := 0, locals := 25 } : Room) s m args below meth c H locs 0 0 (MQ below (gQ E (some (vi r)) (R32 r) μ') args s 0 0 (gA E)) (F0 m 81 ls [])) : ∀ (x0 x1 x2 x4 x5 y0 : Int) (μ : Mm), f_X8_told_b123 N k81 x0 x1 x2 x4 x5 y0 μ = some (r, μ') → R32 x1 → R32 x2 → R32 x4 → R32 x5 → R32 y0 → ∀ (H : Heap) (locs : List Loc) (ls : Array Slot), MS E μ s H locs → lv_has ls 6 [(0, vr E x0), (1, vi x1), (2, vi x2), (4, vi x4), (5, vi x5)] → W p l e ({ frames := 1, cells := 0, slots := 0, locals := 25 } : Room) s m args below meth c H locs 0 0 (MQ below (gQ E (some (vi r)) (R32 r) μ') args s 0 0 (gA E)) (F0 m 123 ls [vi y0]) := by
  intro x0 x1 x2 x4 x5 y0 μ h rx1 rx2 rx4 rx5 ry0 H locs ls hM hl
  unfold f_X8_told_b123 at h
  refine m_istore_n (pc := 123) C dX8_told_123 rfl hl (by decide) (lvK1 0 rfl (Nat.ne_of_beq_eq_false rfl) (Nat.ne_of_beq_eq_false rfl) (lvK1 1 rfl (Nat.ne_of_beq_eq_false rfl) (Nat.ne_of_beq_eq_false rfl) (lvK2 2 rfl (Nat.ne_of_beq_eq_false rfl) rfl (lvK1 3 rfl (Nat.ne_of_beq_eq_false rfl) (Nat.ne_of_beq_eq_false rfl) (lvK1 4 rfl (Nat.ne_of_beq_eq_false rfl) (Nat.ne_of_beq_eq_false rfl) lvK0))))) (fun ls hl => ?_)
  refine m_bipush (pc := 124) C dX8_told_124 rfl ?_
  refine m_iload (pc := 126) C dX8_told_126 (lv_at hl 4 rfl) ?_
  obtain ⟨a1, ea1, h⟩ := nm_some h
  have ra1 : R32 a1 := by rw [ea1]; exact w32_R _
  refine m_imul (pc := 128) C dX8_told_128 ea1 ?_
  refine m_aload_n (pc := 129) C dX8_told_129 rfl (lv_at hl 1 rfl) ?_
  obtain ⟨q2, h⟩ := ck_some h
  refine G_X8_text (pc := 130) C hM bw_4_234 q2 dX8_told_130 ?_
  refine m_iload (pc := 133) C dX8_told_133 (lv_at hl 5 rfl) ?_
  obtain ⟨q3, h⟩ := ck_some h
  have gq3 := Ar_cald hM q3.1 q3.2.1 q3.2.2
  refine m_cald (pc := 135) C hM q3.1 q3.2.1 q3.2.2 dX8_told_135 ?_
  obtain ⟨a4, ea4, h⟩ := nm_some h
  have ra4 : R32 a4 := by rw [ea4]; exact w32_R _
  refine m_iadd (pc := 136) C dX8_told_136 ea4 ?_
  refine m_bipush (pc := 137) C dX8_told_137 rfl ?_
  obtain ⟨a5, ea5, h⟩ := nm_some h
  have ra5 : R32 a5 := by rw [ea5]; exact w32_R _
  refine m_isub (pc := 139) C dX8_told_139 ea5 ?_
  refine m_istore (pc := 140) C dX8_told_140 hl (by decide) (lvK2 0 rfl (Nat.ne_of_beq_eq_false rfl) rfl (lvK1 1 rfl (Nat.ne_of_beq_eq_false rfl) (Nat.ne_of_beq_eq_false rfl) (lvK1 2 rfl (Nat.ne_of_beq_eq_false rfl) (Nat.ne_of_beq_eq_false rfl) (lvK1 3 rfl (Nat.ne_of_beq_eq_false rfl) (Nat.ne_of_beq_eq_false rfl) (lvK1 5 rfl (Nat.ne_of_beq_eq_false rfl) (Nat.ne_of_beq_eq_false rfl) lvK0))))) (fun ls hl => ?_)
  obtain ⟨a6, ea6, h⟩ := nm_some h
  have ra6 : R32 a6 := by rw [ea6]; exact w32_R _
  refine m_iinc (k := 5) (pc := 142) C dX8_told_142 hl rfl (by decide) ea6 (lvK2 0 rfl (Nat.ne_of_beq_eq_false rfl) rfl (lvK1 1 rfl (Nat.ne_of_beq_eq_false rfl) (Nat.ne_of_beq_eq_false rfl) (lvK1 2 rfl (Nat.ne_of_beq_eq_false rfl) (Nat.ne_of_beq_eq_false rfl) (lvK1 3 rfl (Nat.ne_of_beq_eq_false rfl) (Nat.ne_of_beq_eq_false rfl) (lvK1 4 rfl (Nat.ne_of_beq_eq_false rfl) (Nat.ne_of_beq_eq_false rfl) lvK0))))) (fun ls hl => ?_)
  refine m_goto (tgt := 81) (pc := 145) C dX8_told_145 (by decide) ?_
  exact hk81 _ _ _ _ _ _ _ h rx1 rx2 ry0 ra5 ra6 _ _ _ hM (lv_sub hl [3, 4, 5, 2, 1, 0] rfl)
set_option maxHeartbeats 4000000 in
set_option maxRecDepth 100000 in
theorem k_X8_told_b122 (C : gCx p s m args meth c cX8_told 6 (some .int) "told" RX8) (N : Nat) {r : Int} {μ' : Mm} (k81 : Int → Int → Int → Int → Int → Int → Mm → Rs) (hk81 : ∀ (x0 x1 x2 x3 x4 x5 : Int) (μ : Mm), k81 x0 x1 x2 x3 x4 x5 μ = some (r, μ') → R32 x1 → R32 x2 → R32 x3 → R32 x4 → R32 x5 → ∀ (H : Heap) (locs : List Loc) (ls : Array Slot), MS E μ s H locs → lv_has ls 6 [(0, vr E x0), (1, vi x1), (2, vi x2), (3, vi x3), (4, vi x4), (5, vi x5)] → W p l e ({ frames := 1, cells := 0, slots := 0, locals := 25 } : Room) s m args below meth c H locs 0 0 (MQ below (gQ E (some (vi r)) (R32 r) μ') args s 0 0 (gA E)) (F0 m 81 ls [])) : ∀ (x0 x1 x2 x4 x5 : Int) (μ : Mm), f_X8_told_b122 N k81 x0 x1 x2 x4 x5 μ = some (r, μ') → R32 x1 → R32 x2 → R32 x4 → R32 x5 → ∀ (H : Heap) (locs : List Loc) (ls : Array Slot), MS E μ s H locs → lv_has ls 6 [(0, vr E x0), (1, vi x1), (2, vi x2), (4, vi x4), (5, vi x5)] → W p l e ({ frames := 1, cells := 0, slots := 0, locals := 25 } : Room) s m args below meth c H locs 0 0 (MQ below (gQ E (some (vi r)) (R32 r) μ') args s 0 0 (gA E)) (F0 m 122 ls []) := by
  intro x0 x1 x2 x4 x5 μ h rx1 rx2 rx4 rx5 H locs ls hM hl
  unfold f_X8_told_b122 at h
  refine m_iconst (pc := 122) C dX8_told_122 ?_
  exact k_X8_told_b123 C N _ hk81 _ _ _ _ _ _ _ h rx1 rx2 rx4 rx5 rk_0 _ _ _ hM (lv_sub hl [0, 1, 2, 3, 4] rfl)
set_option maxHeartbeats 4000000 in
set_option maxRecDepth 100000 in
theorem k_X8_told_b81 (C : gCx p s m args meth c cX8_told 6 (some .int) "told" RX8) (N : Nat) {r : Int} {μ' : Mm} : ∀ (n : Nat), ∀ (x0 x1 x2 x3 x4 x5 : Int) (μ : Mm), f_X8_told_b81 N n x0 x1 x2 x3 x4 x5 μ = some (r, μ') → R32 x1 → R32 x2 → R32 x3 → R32 x4 → R32 x5 → ∀ (H : Heap) (locs : List Loc) (ls : Array Slot), MS E μ s H locs → lv_has ls 6 [(0, vr E x0), (1, vi x1), (2, vi x2), (3, vi x3), (4, vi x4), (5, vi x5)] → W p l e ({ frames := 1, cells := 0, slots := 0, locals := 25 } : Room) s m args below meth c H locs 0 0 (MQ below (gQ E (some (vi r)) (R32 r) μ') args s 0 0 (gA E)) (F0 m 81 ls []) := by
  intro n
  induction n with
  | zero => intro x0 x1 x2 x3 x4 x5 μ h; simp [f_X8_told_b81] at h
  | succ n ih =>
    intro x0 x1 x2 x3 x4 x5 μ h rx1 rx2 rx3 rx4 rx5 H locs ls hM hl
    rw [f_X8_told_b81] at h
    refine m_iload (pc := 81) C dX8_told_81 (lv_at hl 5 rfl) ?_
    refine m_aload_n (pc := 83) C dX8_told_83 rfl (lv_at hl 0 rfl) ?_
    obtain ⟨q1, h⟩ := ck_some h
    have gq1 := Gr_X8_to hM q1
    refine G_X8_to (pc := 84) C hM bw_4_236 q1 dX8_told_84 ?_
    refine m_icmp_ge (tgt := 148) (pc := 87) C rx5 gq1 dX8_told_87 (by decide) (fun c2 => ?_) (fun c2 => ?_)
    · have h := if_t h c2
      exact k_X8_told_b148 C N _ _ _ _ _ _ h rx1 rx2 rx3 rx4 _ _ _ hM (lv_sub hl [0, 1, 2, 3, 4] rfl)
    · have h := if_f h c2
      refine m_iload_n (pc := 90) C dX8_told_90 rfl (lv_at hl 3 rfl) ?_
      refine m_if_eq (tgt := 148) (pc := 91) C rx3 dX8_told_91 (by decide) (fun c3 => ?_) (fun c3 => ?_)
      · have h := if_t h c3
        exact k_X8_told_b148 C N _ _ _ _ _ _ h rx1 rx2 rx3 rx4 _ _ _ hM (lv_sub hl [0, 1, 2, 3, 4] rfl)
      · have h := if_f h c3
        refine m_aload_n (pc := 94) C dX8_told_94 rfl (lv_at hl 0 rfl) ?_
        obtain ⟨q4, h⟩ := ck_some h
        refine G_X8_text (pc := 95) C hM bw_4_234 q4 dX8_told_95 ?_
        refine m_iload (pc := 98) C dX8_told_98 (lv_at hl 5 rfl) ?_
        obtain ⟨q5, h⟩ := ck_some h
        have gq5 := Ar_cald hM q5.1 q5.2.1 q5.2.2
        refine m_cald (pc := 100) C hM q5.1 q5.2.1 q5.2.2 dX8_told_100 ?_
        refine m_bipush (pc := 101) C dX8_told_101 rfl ?_
        refine m_icmp_lt (tgt := 122) (pc := 103) C gq5 rk_48 dX8_told_103 (by decide) (fun c6 => ?_) (fun c6 => ?_)
        · have h := if_t h c6
          exact k_X8_told_b122 C N _ ih _ _ _ _ _ _ h rx1 rx2 rx4 rx5 _ _ _ hM (lv_sub hl [0, 1, 2, 4, 5] rfl)
        · have h := if_f h c6
          refine m_aload_n (pc := 106) C dX8_told_106 rfl (lv_at hl 0 rfl) ?_
          obtain ⟨q7, h⟩ := ck_some h
          refine G_X8_text (pc := 107) C hM bw_4_234 q7 dX8_told_107 ?_
          refine m_iload (pc := 110) C dX8_told_110 (lv_at hl 5 rfl) ?_
          obtain ⟨q8, h⟩ := ck_some h
          have gq8 := Ar_cald hM q8.1 q8.2.1 q8.2.2
          refine m_cald (pc := 112) C hM q8.1 q8.2.1 q8.2.2 dX8_told_112 ?_
          refine m_bipush (pc := 113) C dX8_told_113 rfl ?_
          refine m_icmp_gt (tgt := 122) (pc := 115) C gq8 rk_57 dX8_told_115 (by decide) (fun c9 => ?_) (fun c9 => ?_)
          · have h := if_t h c9
            exact k_X8_told_b122 C N _ ih _ _ _ _ _ _ h rx1 rx2 rx4 rx5 _ _ _ hM (lv_sub hl [0, 1, 2, 4, 5] rfl)
          · have h := if_f h c9
            refine m_iconst (pc := 118) C dX8_told_118 ?_
            refine m_goto (tgt := 123) (pc := 119) C dX8_told_119 (by decide) ?_
            exact k_X8_told_b123 C N _ ih _ _ _ _ _ _ _ h rx1 rx2 rx4 rx5 rk_1 _ _ _ hM (lv_sub hl [0, 1, 2, 4, 5] rfl)
set_option maxHeartbeats 4000000 in
set_option maxRecDepth 100000 in
theorem c_X8_told (l : Launch) (E : gE) (N : Nat) (x0 x1 x2 : Int) (μ μ' : Mm) (r : Int) (h : f_X8_told N x0 x1 x2 μ = some (r, μ')) (rx1 : R32 x1) (rx2 : R32 x2) : gMet l E yX8_told cX8_told 6 (some .int) 1 25 [vr E x0, vi x1, vi x2] (some (vi r)) (R32 r) μ μ' 0 0 := by
  refine g_ofW [1, 1, 1] (by first | (simp only [List.map_cons, List.map_nil, vr_cat]; done) | (simp only [List.map_cons, List.map_nil, vr_cat]; rfl)) (by decide) (by decide) (fun p e s m below meth c ls C hM hl => ?_)
  replace C : gCx p s m _ meth c cX8_told 6 (some .int) "told" RX8 := C
  replace hl : lv_has ls 6 [(0, vr E x0), (1, vi x1), (2, vi x2)] := hl
  unfold f_X8_told at h
  refine m_aload_n (pc := 0) C dX8_told_0 rfl (lv_at hl 0 rfl) ?_
  obtain ⟨q1, h⟩ := ck_some h
  have gq1 := Gr_X8_fault hM q1
  refine G_X8_fault (pc := 1) C hM bw_4_237 q1 dX8_told_1 ?_
  refine m_if_lt (tgt := 9) (pc := 4) C gq1 dX8_told_4 (by decide) (fun c2 => ?_) (fun c2 => ?_)
  · have h := if_t h c2
    refine m_aload_n (pc := 9) C dX8_told_9 rfl (lv_at hl 0 rfl) ?_
    obtain ⟨q3, h⟩ := ck_some h
    have gq3 := Gr_X8_to hM q3
    refine G_X8_to (pc := 10) C hM bw_4_236 q3 dX8_told_10 ?_
    refine m_aload_n (pc := 13) C dX8_told_13 rfl (lv_at hl 0 rfl) ?_
    obtain ⟨q4, h⟩ := ck_some h
    have gq4 := Gr_X8_typed hM q4
    refine G_X8_typed (pc := 14) C hM bw_4_233 q4 dX8_told_14 ?_
    refine m_icmp_eq (tgt := 34) (pc := 17) C gq3 gq4 dX8_told_17 (by decide) (fun c5 => ?_) (fun c5 => ?_)
    · have h := if_t h c5
      refine m_aload_n (pc := 34) C dX8_told_34 rfl (lv_at hl 0 rfl) ?_
      refine m_aload_n (pc := 35) C dX8_told_35 rfl (lv_at hl 0 rfl) ?_
      obtain ⟨q6, h⟩ := ck_some h
      have gq6 := Gr_X8_to hM q6
      refine G_X8_to (pc := 36) C hM bw_4_236 q6 dX8_told_36 ?_
      obtain ⟨q7, h⟩ := ck_some h
      obtain ⟨μ8, eμ8, h⟩ := nm_some h
      refine P_X8_fault (pc := 39) C hM bw_4_237 q7 gq6 eμ8 dX8_told_39 (fun H locs hM => ?_)
      refine m_iconst (pc := 42) C dX8_told_42 ?_
      cases h
      exact m_iret (pc := 43) C hM rk_0 dX8_told_43
    · have h := if_f h c5
      refine m_aload_n (pc := 20) C dX8_told_20 rfl (lv_at hl 0 rfl) ?_
      obtain ⟨q9, h⟩ := ck_some h
      refine G_X8_text (pc := 21) C hM bw_4_234 q9 dX8_told_21 ?_
      refine m_aload_n (pc := 24) C dX8_told_24 rfl (lv_at hl 0 rfl) ?_
      obtain ⟨q10, h⟩ := ck_some h
      have gq10 := Gr_X8_to hM q10
      refine G_X8_to (pc := 25) C hM bw_4_236 q10 dX8_told_25 ?_
      obtain ⟨q11, h⟩ := ck_some h
      have gq11 := Ar_cald hM q11.1 q11.2.1 q11.2.2
      refine m_cald (pc := 28) C hM q11.1 q11.2.1 q11.2.2 dX8_told_28 ?_
      refine m_bipush (pc := 29) C dX8_told_29 rfl ?_
      refine m_icmp_eq (tgt := 44) (pc := 31) C gq11 rk_32 dX8_told_31 (by decide) (fun c12 => ?_) (fun c12 => ?_)
      · have h := if_t h c12
        refine m_aload_n (pc := 44) C dX8_told_44 rfl (lv_at hl 0 rfl) ?_
        refine m_aload_n (pc := 45) C dX8_told_45 rfl (lv_at hl 0 rfl) ?_
        obtain ⟨q13, h⟩ := ck_some h
        have gq13 := Gr_X8_to hM q13
        refine G_X8_to (pc := 46) C hM bw_4_236 q13 dX8_told_46 ?_
        refine m_iconst (pc := 49) C dX8_told_49 ?_
        obtain ⟨a14, ea14, h⟩ := nm_some h
        have ra14 : R32 a14 := by rw [ea14]; exact w32_R _
        refine m_iadd (pc := 50) C dX8_told_50 ea14 ?_
        obtain ⟨q15, h⟩ := ck_some h
        obtain ⟨a16, μ17, ca16, h⟩ := bd_some h
        refine V_X8_find (pc := 51) C hM ca16 ra14 q15 bw_6_56 ⟨Nat.le_of_ble_eq_true rfl, Nat.le_of_ble_eq_true rfl⟩ hl.1 rc0 ⟨Nat.le_refl _, Nat.le_refl _⟩ dX8_told_51 (fun _ H locs hM => ?_)
        refine m_aload_n (pc := 54) C dX8_told_54 rfl (lv_at hl 0 rfl) ?_
        obtain ⟨q18, h⟩ := ck_some h
        have gq18 := Gr_X8_to hM q18
        refine G_X8_to (pc := 55) C hM bw_4_236 q18 dX8_told_55 ?_
        refine m_aload_n (pc := 58) C dX8_told_58 rfl (lv_at hl 0 rfl) ?_
        obtain ⟨q19, h⟩ := ck_some h
        have gq19 := Gr_X8_from hM q19
        refine G_X8_from (pc := 59) C hM bw_4_235 q19 dX8_told_59 ?_
        obtain ⟨a20, ea20, h⟩ := nm_some h
        have ra20 : R32 a20 := by rw [ea20]; exact w32_R _
        refine m_isub (pc := 62) C dX8_told_62 ea20 ?_
        refine m_i2l (pc := 63) C ra20 dX8_told_63 ?_
        refine m_lconst (v := 1) (pc := 64) C dX8_told_64 rfl ?_
        refine m_ldc2 (n := 8) (pc := 65) C bw_6_76 rfl dX8_told_65 ?_
        obtain ⟨a21, μ22, ca21, h⟩ := bd_some h
        refine V_X8_in (pc := 68) C hM ca21 (R32.to64 ra20) rl_1 rl_8 bw_5_43 ⟨Nat.le_of_ble_eq_true rfl, Nat.le_of_ble_eq_true rfl⟩ hl.1 rc0 ⟨Nat.le_refl _, Nat.le_refl _⟩ dX8_told_68 (fun ra21 H locs hM => ?_)
        refine m_istore_n (pc := 71) C dX8_told_71 rfl hl (by decide) (lvK1 0 rfl (Nat.ne_of_beq_eq_false rfl) (Nat.ne_of_beq_eq_false rfl) (lvK1 1 rfl (Nat.ne_of_beq_eq_false rfl) (Nat.ne_of_beq_eq_false rfl) (lvK2 2 rfl (Nat.ne_of_beq_eq_false rfl) rfl lvK0))) (fun ls hl => ?_)
        refine m_iconst (pc := 72) C dX8_told_72 ?_
        refine m_istore (pc := 73) C dX8_told_73 hl (by decide) (lvK2 0 rfl (Nat.ne_of_beq_eq_false rfl) rfl (lvK1 1 rfl (Nat.ne_of_beq_eq_false rfl) (Nat.ne_of_beq_eq_false rfl) (lvK1 2 rfl (Nat.ne_of_beq_eq_false rfl) (Nat.ne_of_beq_eq_false rfl) (lvK1 3 rfl (Nat.ne_of_beq_eq_false rfl) (Nat.ne_of_beq_eq_false rfl) lvK0)))) (fun ls hl => ?_)
        refine m_aload_n (pc := 75) C dX8_told_75 rfl (lv_at hl 2 rfl) ?_
        obtain ⟨q23, h⟩ := ck_some h
        have gq23 := Gr_X8_from hM q23
        refine G_X8_from (pc := 76) C hM bw_4_235 q23 dX8_told_76 ?_
        refine m_istore (pc := 79) C dX8_told_79 hl (by decide) (lvK2 0 rfl (Nat.ne_of_beq_eq_false rfl) rfl (lvK1 1 rfl (Nat.ne_of_beq_eq_false rfl) (Nat.ne_of_beq_eq_false rfl) (lvK1 2 rfl (Nat.ne_of_beq_eq_false rfl) (Nat.ne_of_beq_eq_false rfl) (lvK1 3 rfl (Nat.ne_of_beq_eq_false rfl) (Nat.ne_of_beq_eq_false rfl) (lvK1 4 rfl (Nat.ne_of_beq_eq_false rfl) (Nat.ne_of_beq_eq_false rfl) lvK0))))) (fun ls hl => ?_)
        exact k_X8_told_b81 C N N _ _ _ _ _ _ _ h rx1 rx2 ra21 rk_0 gq23 _ _ _ hM (lv_sub hl [3, 4, 5, 2, 1, 0] rfl)
      · have h := if_f h c12
        refine m_aload_n (pc := 34) C dX8_told_34 rfl (lv_at hl 0 rfl) ?_
        refine m_aload_n (pc := 35) C dX8_told_35 rfl (lv_at hl 0 rfl) ?_
        obtain ⟨q24, h⟩ := ck_some h
        have gq24 := Gr_X8_to hM q24
        refine G_X8_to (pc := 36) C hM bw_4_236 q24 dX8_told_36 ?_
        obtain ⟨q25, h⟩ := ck_some h
        obtain ⟨μ26, eμ26, h⟩ := nm_some h
        refine P_X8_fault (pc := 39) C hM bw_4_237 q25 gq24 eμ26 dX8_told_39 (fun H locs hM => ?_)
        refine m_iconst (pc := 42) C dX8_told_42 ?_
        cases h
        exact m_iret (pc := 43) C hM rk_0 dX8_told_43
  · have h := if_f h c2
    refine m_iconst (pc := 7) C dX8_told_7 ?_
    cases h
    exact m_iret (pc := 8) C hM rk_0 dX8_told_8
theorem hd_X8_told : yX8_told.cls ≠ "java/lang/invoke/MethodHandle" ∧ yX8_told.cls ≠ "java/lang/invoke/VarHandle" ∧ (parseMethodDescriptor yX8_told.desc).map (fun d => d.parameters.length) = some 2 := by decide +kernel

theorem V_X8_told {p : Program} {l : Launch} {e : Env} {R : Room} {s : State} {m : MethodId} {args : Array Value} {below : List Frame} {meth : Method} {c : Code} {H : Heap} {locs : List Loc} {cells slots : Nat} {Q : State → Prop} {cc : ByteArray} {pc nL : Nat} {ls : Array Slot} {rest : List Value} {ret : Option FieldType} {nmm own : String} {E : gE} {μ μ1 : Mm} {index : Nat} (C : gCx p s m args meth c cc nL ret nmm own) (hM : MS E μ s H locs) {N : Nat} {x0 x1 x2 v : Int} (hc : f_X8_told N x0 x1 x2 μ = some (v, μ1)) (rx1 : R32 x1) (rx2 : R32 x2) (hck : μ x0 (-2) = 10) (h1 : Cond.methodLink own index yX8_told ∈ bigL) (hR : 2 ≤ R.frames ∧ 50 ≤ R.locals) (hl : ls.size = nL) (hcat : RC rest 8) (hf : cells + 0 ≤ R.cells ∧ slots + 0 ≤ R.slots) (hdg : decode cc pc = .ok (.invokevirtual index, 3)) (kk : (R32 v) → ∀ (H1 : Heap) (locs1 : List Loc), MS E μ1 s H1 locs1 → W p l e R s m args below meth c H1 locs1 (cells + 0) (slots + 0) Q (F0 m (pc + 3) ls (vi v :: rest))) : W p l e R s m args below meth c H locs cells slots Q (F0 m pc ls (vi x2 :: vi x1 :: vr E x0 :: rest)) := g_callV C KF_X8 hM (c_X8_told l E N x0 x1 x2 μ μ1 v hc rx1 rx2) hck (gV h1 bw_6_74 bs_62 bw_1_13 bw_6_75) ⟨rfl, hd_X8_told⟩ hR rfl hl rfl hcat hf hdg kk
/-! X8_readOrder -/
def f_X8_readOrder_b206 (N : Nat) (x0 : Int) (μ : Mm) : Rs :=
  ck (μ x0 (-2) = 10) <|
  nm (w32 ((μ x0 11) + 1)) fun a2 =>
  ck (μ x0 (-2) = 10) <|
  nm (mset μ x0 11 a2) fun μ4 =>
  some (0, μ4)
def f_X8_readOrder_b105 (N : Nat) (x0 x2 x3 y0 y1 y2 : Int) (μ : Mm) : Rs :=
  ck (μ y0 (-2) = 23 ∧ (0 : Int) ≤ y1 ∧ y1 < μ y0 (-1)) <|
  nm (mset μ y0 y1 y2) fun μ2 =>
  if ¬ x2 = 0 then
    (if ¬ x2 = 6 then
       (if x2 = 4 then
          (f_X8_readOrder_b206 N x0 μ2)
        else
        if x2 = 7 then
          (f_X8_readOrder_b206 N x0 μ2)
        else
        ck (μ2 x0 (-2) = 10) <|
        nm (w32 (x3 + 2)) fun a8 =>
        ck (μ2 x0 (-2) = 10) <|
        bd (f_X8_told N x0 1 1000000 μ2) fun a10 μ11 =>
        ck (μ11 (μ2 x0 12) (-2) = 23 ∧ (0 : Int) ≤ a8 ∧ a8 < μ11 (μ2 x0 12) (-1)) <|
        nm (mset μ11 (μ2 x0 12) a8 a10) fun μ13 =>
        f_X8_readOrder_b206 N x0 μ13)
     else
     ck (μ2 x0 (-2) = 10) <|
     nm (w32 (x3 + 2)) fun a15 =>
     ck (μ2 x0 (-2) = 10) <|
     bd (f_X8_told N x0 0 4 μ2) fun a17 μ18 =>
     ck (μ18 (μ2 x0 12) (-2) = 23 ∧ (0 : Int) ≤ a15 ∧ a15 < μ18 (μ2 x0 12) (-1)) <|
     nm (mset μ18 (μ2 x0 12) a15 a17) fun μ20 =>
     f_X8_readOrder_b206 N x0 μ20)
  else
  ck (μ2 x0 (-2) = 10) <|
  nm (w32 (x3 + 2)) fun a22 =>
  ck (μ2 x0 (-2) = 10) <|
  bd (f_X8_told N x0 0 5 μ2) fun a24 μ25 =>
  ck (μ25 (μ2 x0 12) (-2) = 23 ∧ (0 : Int) ≤ a22 ∧ a22 < μ25 (μ2 x0 12) (-1)) <|
  nm (mset μ25 (μ2 x0 12) a22 a24) fun μ27 =>
  ck (μ27 x0 (-2) = 10) <|
  nm (w32 (x3 + 3)) fun a29 =>
  ck (μ27 x0 (-2) = 10) <|
  bd (f_X8_told N x0 1 1000000 μ27) fun a31 μ32 =>
  ck (μ32 (μ27 x0 12) (-2) = 23 ∧ (0 : Int) ≤ a29 ∧ a29 < μ32 (μ27 x0 12) (-1)) <|
  nm (mset μ32 (μ27 x0 12) a29 a31) fun μ34 =>
  ck (μ34 x0 (-2) = 10) <|
  nm (w32 (x3 + 4)) fun a36 =>
  ck (μ34 x0 (-2) = 10) <|
  bd (f_X8_told N x0 0 10000000 μ34) fun a38 μ39 =>
  ck (μ39 (μ34 x0 12) (-2) = 23 ∧ (0 : Int) ≤ a36 ∧ a36 < μ39 (μ34 x0 12) (-1)) <|
  nm (mset μ39 (μ34 x0 12) a36 a38) fun μ41 =>
  f_X8_readOrder_b206 N x0 μ41
def f_X8_readOrder_b45 (N : Nat) (x0 x2 y0 y1 : Int) (μ : Mm) : Rs :=
  ck (μ y0 (-2) = 10) <|
  nm (mset μ y0 10 y1) fun μ2 =>
  ck (μ2 x0 (-2) = 10) <|
  nm (w32 (5 * (μ2 x0 11))) fun a4 =>
  ck (μ2 x0 (-2) = 10) <|
  ck (μ2 (μ2 x0 12) (-2) = 23 ∧ (0 : Int) ≤ a4 ∧ a4 < μ2 (μ2 x0 12) (-1)) <|
  nm (mset μ2 (μ2 x0 12) a4 x2) fun μ7 =>
  ck (μ7 x0 (-2) = 10) <|
  nm (w32 (a4 + 1)) fun a9 =>
  if ¬ x2 = 0 then
    (if ¬ x2 = 7 then
       (ck (μ7 x0 (-2) = 10) <|
        bd (f_X8_told N x0 0 29 μ7) fun a13 μ14 =>
        f_X8_readOrder_b105 N x0 x2 a4 (μ7 x0 12) a9 a13 μ14)
     else
     ck (μ7 x0 (-2) = 10) <|
     bd (f_X8_told N x0 1 100 μ7) fun a16 μ17 =>
     f_X8_readOrder_b105 N x0 x2 a4 (μ7 x0 12) a9 a16 μ17)
  else
  ck (μ7 x0 (-2) = 10) <|
  bd (f_X8_told N x0 0 4 μ7) fun a19 μ20 =>
  f_X8_readOrder_b105 N x0 x2 a4 (μ7 x0 12) a9 a19 μ20
def f_X8_readOrder_b41 (N : Nat) (x0 x2 y0 : Int) (μ : Mm) : Rs :=
  ck (μ x0 (-2) = 10) <|
  f_X8_readOrder_b45 N x0 x2 y0 (μ x0 10) μ
def f_X8_readOrder_b21 (N : Nat) (x0 y0 : Int) (μ : Mm) : Rs :=
  ck (μ x0 (-2) = 10) <|
  if 0 ≤ (μ x0 10) then
    (f_X8_readOrder_b41 N x0 y0 x0 μ)
  else
  if 0 ≤ y0 then
    (f_X8_readOrder_b41 N x0 y0 x0 μ)
  else
  ck (μ x0 (-2) = 10) <|
  f_X8_readOrder_b45 N x0 y0 x0 (μ x0 8) μ
def f_X8_readOrder (N : Nat) (x0 x1 : Int) (μ : Mm) : Rs :=
  ck (μ x0 (-2) = 10) <|
  bd (f_X8_find N x0 x1 μ) fun a2 μ3 =>
  ck (μ3 x0 (-2) = 10) <|
  if (μ3 x0 10) < 0 then
    (ck (μ3 x0 (-2) = 10) <|
     bd (f_X8_word N x0 μ3) fun a7 μ8 =>
     f_X8_readOrder_b21 N x0 a7 μ8)
  else
  f_X8_readOrder_b21 N x0 ((-100000005)) μ3
set_option maxHeartbeats 4000000 in
set_option maxRecDepth 100000 in
theorem k_X8_readOrder_b206 (C : gCx p s m args meth c cX8_readOrder 4 none "readOrder" RX8) (N : Nat) {r : Int} {μ' : Mm} : ∀ (x0 : Int) (μ : Mm), f_X8_readOrder_b206 N x0 μ = some (r, μ') → ∀ (H : Heap) (locs : List Loc) (ls : Array Slot), MS E μ s H locs → lv_has ls 4 [(0, vr E x0)] → W p l e ({ frames := 2, cells := 0, slots := 0, locals := 50 } : Room) s m args below meth c H locs 0 0 (MQ below (gQ E none True μ') args s 0 0 (gA E)) (F0 m 206 ls []) := by
  intro x0 μ h H locs ls hM hl
  unfold f_X8_readOrder_b206 at h
  refine m_aload_n (pc := 206) C dX8_readOrder_206 rfl (lv_at hl 0 rfl) ?_
  refine m_dup (pc := 207) C (vr_cat _ _) dX8_readOrder_207 ?_
  obtain ⟨q1, h⟩ := ck_some h
  have gq1 := Gr_X8_orders hM q1
  refine G_X8_orders (pc := 208) C hM bw_4_238 q1 dX8_readOrder_208 ?_
  refine m_iconst (pc := 211) C dX8_readOrder_211 ?_
  obtain ⟨a2, ea2, h⟩ := nm_some h
  have ra2 : R32 a2 := by rw [ea2]; exact w32_R _
  refine m_iadd (pc := 212) C dX8_readOrder_212 ea2 ?_
  obtain ⟨q3, h⟩ := ck_some h
  obtain ⟨μ4, eμ4, h⟩ := nm_some h
  refine P_X8_orders (pc := 213) C hM bw_4_238 q3 ra2 eμ4 dX8_readOrder_213 (fun H locs hM => ?_)
  cases h
  exact m_vret (pc := 216) C hM trivial dX8_readOrder_216
set_option maxHeartbeats 4000000 in
set_option maxRecDepth 100000 in
theorem k_X8_readOrder_b105 (C : gCx p s m args meth c cX8_readOrder 4 none "readOrder" RX8) (N : Nat) {r : Int} {μ' : Mm} : ∀ (x0 x2 x3 y0 y1 y2 : Int) (μ : Mm), f_X8_readOrder_b105 N x0 x2 x3 y0 y1 y2 μ = some (r, μ') → R32 x2 → R32 x3 → R32 y1 → R32 y2 → ∀ (H : Heap) (locs : List Loc) (ls : Array Slot), MS E μ s H locs → lv_has ls 4 [(0, vr E x0), (2, vi x2), (3, vi x3)] → W p l e ({ frames := 2, cells := 0, slots := 0, locals := 50 } : Room) s m args below meth c H locs 0 0 (MQ below (gQ E none True μ') args s 0 0 (gA E)) (F0 m 105 ls [vi y2, vi y1, vr E y0]) := by
  intro x0 x2 x3 y0 y1 y2 μ h rx2 rx3 ry1 ry2 H locs ls hM hl
  unfold f_X8_readOrder_b105 at h
  obtain ⟨q1, h⟩ := ck_some h
  obtain ⟨μ2, eμ2, h⟩ := nm_some h
  refine m_iast (pc := 105) C hM q1.1 q1.2.1  q1.2.2 ry2 eμ2 dX8_readOrder_105 (fun H locs hM => ?_)
  refine m_iload_n (pc := 106) C dX8_readOrder_106 rfl (lv_at hl 1 rfl) ?_
  refine m_if_ne (tgt := 157) (pc := 107) C rx2 dX8_readOrder_107 (by decide) (fun c3 => ?_) (fun c3 => ?_)
  · have h := if_t h c3
    refine m_iload_n (pc := 157) C dX8_readOrder_157 rfl (lv_at hl 1 rfl) ?_
    refine m_bipush (pc := 158) C dX8_readOrder_158 rfl ?_
    refine m_icmp_ne (tgt := 180) (pc := 160) C rx2 rk_6 dX8_readOrder_160 (by decide) (fun c4 => ?_) (fun c4 => ?_)
    · have h := if_t h c4
      refine m_iload_n (pc := 180) C dX8_readOrder_180 rfl (lv_at hl 1 rfl) ?_
      refine m_iconst (pc := 181) C dX8_readOrder_181 ?_
      refine m_icmp_eq (tgt := 206) (pc := 182) C rx2 rk_4 dX8_readOrder_182 (by decide) (fun c5 => ?_) (fun c5 => ?_)
      · have h := if_t h c5
        exact k_X8_readOrder_b206 C N _ _ h _ _ _ hM (lv_sub hl [0] rfl)
      · have h := if_f h c5
        refine m_iload_n (pc := 185) C dX8_readOrder_185 rfl (lv_at hl 1 rfl) ?_
        refine m_bipush (pc := 186) C dX8_readOrder_186 rfl ?_
        refine m_icmp_eq (tgt := 206) (pc := 188) C rx2 rk_7 dX8_readOrder_188 (by decide) (fun c6 => ?_) (fun c6 => ?_)
        · have h := if_t h c6
          exact k_X8_readOrder_b206 C N _ _ h _ _ _ hM (lv_sub hl [0] rfl)
        · have h := if_f h c6
          refine m_aload_n (pc := 191) C dX8_readOrder_191 rfl (lv_at hl 0 rfl) ?_
          obtain ⟨q7, h⟩ := ck_some h
          refine G_X8_orderOf (pc := 192) C hM bw_4_239 q7 dX8_readOrder_192 ?_
          refine m_iload_n (pc := 195) C dX8_readOrder_195 rfl (lv_at hl 2 rfl) ?_
          refine m_iconst (pc := 196) C dX8_readOrder_196 ?_
          obtain ⟨a8, ea8, h⟩ := nm_some h
          have ra8 : R32 a8 := by rw [ea8]; exact w32_R _
          refine m_iadd (pc := 197) C dX8_readOrder_197 ea8 ?_
          refine m_aload_n (pc := 198) C dX8_readOrder_198 rfl (lv_at hl 0 rfl) ?_
          refine m_iconst (pc := 199) C dX8_readOrder_199 ?_
          refine m_ldc (n := 1000000) (pc := 200) C bw_6_77 rfl dX8_readOrder_200 ?_
          obtain ⟨q9, h⟩ := ck_some h
          obtain ⟨a10, μ11, ca10, h⟩ := bd_some h
          refine V_X8_told (pc := 202) C hM ca10 rk_1 rk_1000000 q9 bw_6_72 ⟨Nat.le_of_ble_eq_true rfl, Nat.le_of_ble_eq_true rfl⟩ hl.1 (rcI (rcR rc0)) ⟨Nat.le_refl _, Nat.le_refl _⟩ dX8_readOrder_202 (fun ra10 H locs hM => ?_)
          obtain ⟨q12, h⟩ := ck_some h
          obtain ⟨μ13, eμ13, h⟩ := nm_some h
          refine m_iast (pc := 205) C hM q12.1 q12.2.1  q12.2.2 ra10 eμ13 dX8_readOrder_205 (fun H locs hM => ?_)
          exact k_X8_readOrder_b206 C N _ _ h _ _ _ hM (lv_sub hl [0] rfl)
    · have h := if_f h c4
      refine m_aload_n (pc := 163) C dX8_readOrder_163 rfl (lv_at hl 0 rfl) ?_
      obtain ⟨q14, h⟩ := ck_some h
      refine G_X8_orderOf (pc := 164) C hM bw_4_239 q14 dX8_readOrder_164 ?_
      refine m_iload_n (pc := 167) C dX8_readOrder_167 rfl (lv_at hl 2 rfl) ?_
      refine m_iconst (pc := 168) C dX8_readOrder_168 ?_
      obtain ⟨a15, ea15, h⟩ := nm_some h
      have ra15 : R32 a15 := by rw [ea15]; exact w32_R _
      refine m_iadd (pc := 169) C dX8_readOrder_169 ea15 ?_
      refine m_aload_n (pc := 170) C dX8_readOrder_170 rfl (lv_at hl 0 rfl) ?_
      refine m_iconst (pc := 171) C dX8_readOrder_171 ?_
      refine m_iconst (pc := 172) C dX8_readOrder_172 ?_
      obtain ⟨q16, h⟩ := ck_some h
      obtain ⟨a17, μ18, ca17, h⟩ := bd_some h
      refine V_X8_told (pc := 173) C hM ca17 rk_0 rk_4 q16 bw_6_72 ⟨Nat.le_of_ble_eq_true rfl, Nat.le_of_ble_eq_true rfl⟩ hl.1 (rcI (rcR rc0)) ⟨Nat.le_refl _, Nat.le_refl _⟩ dX8_readOrder_173 (fun ra17 H locs hM => ?_)
      obtain ⟨q19, h⟩ := ck_some h
      obtain ⟨μ20, eμ20, h⟩ := nm_some h
      refine m_iast (pc := 176) C hM q19.1 q19.2.1  q19.2.2 ra17 eμ20 dX8_readOrder_176 (fun H locs hM => ?_)
      refine m_goto (tgt := 206) (pc := 177) C dX8_readOrder_177 (by decide) ?_
      exact k_X8_readOrder_b206 C N _ _ h _ _ _ hM (lv_sub hl [0] rfl)
  · have h := if_f h c3
    refine m_aload_n (pc := 110) C dX8_readOrder_110 rfl (lv_at hl 0 rfl) ?_
    obtain ⟨q21, h⟩ := ck_some h
    refine G_X8_orderOf (pc := 111) C hM bw_4_239 q21 dX8_readOrder_111 ?_
    refine m_iload_n (pc := 114) C dX8_readOrder_114 rfl (lv_at hl 2 rfl) ?_
    refine m_iconst (pc := 115) C dX8_readOrder_115 ?_
    obtain ⟨a22, ea22, h⟩ := nm_some h
    have ra22 : R32 a22 := by rw [ea22]; exact w32_R _
    refine m_iadd (pc := 116) C dX8_readOrder_116 ea22 ?_
    refine m_aload_n (pc := 117) C dX8_readOrder_117 rfl (lv_at hl 0 rfl) ?_
    refine m_iconst (pc := 118) C dX8_readOrder_118 ?_
    refine m_iconst (pc := 119) C dX8_readOrder_119 ?_
    obtain ⟨q23, h⟩ := ck_some h
    obtain ⟨a24, μ25, ca24, h⟩ := bd_some h
    refine V_X8_told (pc := 120) C hM ca24 rk_0 rk_5 q23 bw_6_72 ⟨Nat.le_of_ble_eq_true rfl, Nat.le_of_ble_eq_true rfl⟩ hl.1 (rcI (rcR rc0)) ⟨Nat.le_refl _, Nat.le_refl _⟩ dX8_readOrder_120 (fun ra24 H locs hM => ?_)
    obtain ⟨q26, h⟩ := ck_some h
    obtain ⟨μ27, eμ27, h⟩ := nm_some h
    refine m_iast (pc := 123) C hM q26.1 q26.2.1  q26.2.2 ra24 eμ27 dX8_readOrder_123 (fun H locs hM => ?_)
    refine m_aload_n (pc := 124) C dX8_readOrder_124 rfl (lv_at hl 0 rfl) ?_
    obtain ⟨q28, h⟩ := ck_some h
    refine G_X8_orderOf (pc := 125) C hM bw_4_239 q28 dX8_readOrder_125 ?_
    refine m_iload_n (pc := 128) C dX8_readOrder_128 rfl (lv_at hl 2 rfl) ?_
    refine m_iconst (pc := 129) C dX8_readOrder_129 ?_
    obtain ⟨a29, ea29, h⟩ := nm_some h
    have ra29 : R32 a29 := by rw [ea29]; exact w32_R _
    refine m_iadd (pc := 130) C dX8_readOrder_130 ea29 ?_
    refine m_aload_n (pc := 131) C dX8_readOrder_131 rfl (lv_at hl 0 rfl) ?_
    refine m_iconst (pc := 132) C dX8_readOrder_132 ?_
    refine m_ldc (n := 1000000) (pc := 133) C bw_6_77 rfl dX8_readOrder_133 ?_
    obtain ⟨q30, h⟩ := ck_some h
    obtain ⟨a31, μ32, ca31, h⟩ := bd_some h
    refine V_X8_told (pc := 135) C hM ca31 rk_1 rk_1000000 q30 bw_6_72 ⟨Nat.le_of_ble_eq_true rfl, Nat.le_of_ble_eq_true rfl⟩ hl.1 (rcI (rcR rc0)) ⟨Nat.le_refl _, Nat.le_refl _⟩ dX8_readOrder_135 (fun ra31 H locs hM => ?_)
    obtain ⟨q33, h⟩ := ck_some h
    obtain ⟨μ34, eμ34, h⟩ := nm_some h
    refine m_iast (pc := 138) C hM q33.1 q33.2.1  q33.2.2 ra31 eμ34 dX8_readOrder_138 (fun H locs hM => ?_)
    refine m_aload_n (pc := 139) C dX8_readOrder_139 rfl (lv_at hl 0 rfl) ?_
    obtain ⟨q35, h⟩ := ck_some h
    refine G_X8_orderOf (pc := 140) C hM bw_4_239 q35 dX8_readOrder_140 ?_
    refine m_iload_n (pc := 143) C dX8_readOrder_143 rfl (lv_at hl 2 rfl) ?_
    refine m_iconst (pc := 144) C dX8_readOrder_144 ?_
    obtain ⟨a36, ea36, h⟩ := nm_some h
    have ra36 : R32 a36 := by rw [ea36]; exact w32_R _
    refine m_iadd (pc := 145) C dX8_readOrder_145 ea36 ?_
    refine m_aload_n (pc := 146) C dX8_readOrder_146 rfl (lv_at hl 0 rfl) ?_
    refine m_iconst (pc := 147) C dX8_readOrder_147 ?_
    refine m_ldc (n := 10000000) (pc := 148) C bw_6_78 rfl dX8_readOrder_148 ?_
    obtain ⟨q37, h⟩ := ck_some h
    obtain ⟨a38, μ39, ca38, h⟩ := bd_some h
    refine V_X8_told (pc := 150) C hM ca38 rk_0 rk_10000000 q37 bw_6_72 ⟨Nat.le_of_ble_eq_true rfl, Nat.le_of_ble_eq_true rfl⟩ hl.1 (rcI (rcR rc0)) ⟨Nat.le_refl _, Nat.le_refl _⟩ dX8_readOrder_150 (fun ra38 H locs hM => ?_)
    obtain ⟨q40, h⟩ := ck_some h
    obtain ⟨μ41, eμ41, h⟩ := nm_some h
    refine m_iast (pc := 153) C hM q40.1 q40.2.1  q40.2.2 ra38 eμ41 dX8_readOrder_153 (fun H locs hM => ?_)
    refine m_goto (tgt := 206) (pc := 154) C dX8_readOrder_154 (by decide) ?_
    exact k_X8_readOrder_b206 C N _ _ h _ _ _ hM (lv_sub hl [0] rfl)
set_option maxHeartbeats 4000000 in
set_option maxRecDepth 100000 in
theorem k_X8_readOrder_b45 (C : gCx p s m args meth c cX8_readOrder 4 none "readOrder" RX8) (N : Nat) {r : Int} {μ' : Mm} : ∀ (x0 x2 y0 y1 : Int) (μ : Mm), f_X8_readOrder_b45 N x0 x2 y0 y1 μ = some (r, μ') → R32 x2 → R32 y1 → ∀ (H : Heap) (locs : List Loc) (ls : Array Slot), MS E μ s H locs → lv_has ls 4 [(0, vr E x0), (2, vi x2)] → W p l e ({ frames := 2, cells := 0, slots := 0, locals := 50 } : Room) s m args below meth c H locs 0 0 (MQ below (gQ E none True μ') args s 0 0 (gA E)) (F0 m 45 ls [vi y1, vr E y0]) := by
  intro x0 x2 y0 y1 μ h rx2 ry1 H locs ls hM hl
  unfold f_X8_readOrder_b45 at h
  obtain ⟨q1, h⟩ := ck_some h
  obtain ⟨μ2, eμ2, h⟩ := nm_some h
  refine P_X8_fault (pc := 45) C hM bw_4_237 q1 ry1 eμ2 dX8_readOrder_45 (fun H locs hM => ?_)
  refine m_iconst (pc := 48) C dX8_readOrder_48 ?_
  refine m_aload_n (pc := 49) C dX8_readOrder_49 rfl (lv_at hl 0 rfl) ?_
  obtain ⟨q3, h⟩ := ck_some h
  have gq3 := Gr_X8_orders hM q3
  refine G_X8_orders (pc := 50) C hM bw_4_238 q3 dX8_readOrder_50 ?_
  obtain ⟨a4, ea4, h⟩ := nm_some h
  have ra4 : R32 a4 := by rw [ea4]; exact w32_R _
  refine m_imul (pc := 53) C dX8_readOrder_53 ea4 ?_
  refine m_istore_n (pc := 54) C dX8_readOrder_54 rfl hl (by decide) (lvK1 0 rfl (Nat.ne_of_beq_eq_false rfl) (Nat.ne_of_beq_eq_false rfl) (lvK2 1 rfl (Nat.ne_of_beq_eq_false rfl) rfl lvK0)) (fun ls hl => ?_)
  refine m_aload_n (pc := 55) C dX8_readOrder_55 rfl (lv_at hl 1 rfl) ?_
  obtain ⟨q5, h⟩ := ck_some h
  refine G_X8_orderOf (pc := 56) C hM bw_4_239 q5 dX8_readOrder_56 ?_
  refine m_iload_n (pc := 59) C dX8_readOrder_59 rfl (lv_at hl 0 rfl) ?_
  refine m_iload_n (pc := 60) C dX8_readOrder_60 rfl (lv_at hl 2 rfl) ?_
  obtain ⟨q6, h⟩ := ck_some h
  obtain ⟨μ7, eμ7, h⟩ := nm_some h
  refine m_iast (pc := 61) C hM q6.1 q6.2.1  q6.2.2 rx2 eμ7 dX8_readOrder_61 (fun H locs hM => ?_)
  refine m_aload_n (pc := 62) C dX8_readOrder_62 rfl (lv_at hl 1 rfl) ?_
  obtain ⟨q8, h⟩ := ck_some h
  refine G_X8_orderOf (pc := 63) C hM bw_4_239 q8 dX8_readOrder_63 ?_
  refine m_iload_n (pc := 66) C dX8_readOrder_66 rfl (lv_at hl 0 rfl) ?_
  refine m_iconst (pc := 67) C dX8_readOrder_67 ?_
  obtain ⟨a9, ea9, h⟩ := nm_some h
  have ra9 : R32 a9 := by rw [ea9]; exact w32_R _
  refine m_iadd (pc := 68) C dX8_readOrder_68 ea9 ?_
  refine m_iload_n (pc := 69) C dX8_readOrder_69 rfl (lv_at hl 2 rfl) ?_
  refine m_if_ne (tgt := 82) (pc := 70) C rx2 dX8_readOrder_70 (by decide) (fun c10 => ?_) (fun c10 => ?_)
  · have h := if_t h c10
    refine m_iload_n (pc := 82) C dX8_readOrder_82 rfl (lv_at hl 2 rfl) ?_
    refine m_bipush (pc := 83) C dX8_readOrder_83 rfl ?_
    refine m_icmp_ne (tgt := 98) (pc := 85) C rx2 rk_7 dX8_readOrder_85 (by decide) (fun c11 => ?_) (fun c11 => ?_)
    · have h := if_t h c11
      refine m_aload_n (pc := 98) C dX8_readOrder_98 rfl (lv_at hl 1 rfl) ?_
      refine m_iconst (pc := 99) C dX8_readOrder_99 ?_
      refine m_bipush (pc := 100) C dX8_readOrder_100 rfl ?_
      obtain ⟨q12, h⟩ := ck_some h
      obtain ⟨a13, μ14, ca13, h⟩ := bd_some h
      refine V_X8_told (pc := 102) C hM ca13 rk_0 rk_29 q12 bw_6_72 ⟨Nat.le_of_ble_eq_true rfl, Nat.le_of_ble_eq_true rfl⟩ hl.1 (rcI (rcR rc0)) ⟨Nat.le_refl _, Nat.le_refl _⟩ dX8_readOrder_102 (fun ra13 H locs hM => ?_)
      exact k_X8_readOrder_b105 C N _ _ _ _ _ _ _ h rx2 ra4 ra9 ra13 _ _ _ hM (lv_sub hl [1, 2, 0] rfl)
    · have h := if_f h c11
      refine m_aload_n (pc := 88) C dX8_readOrder_88 rfl (lv_at hl 1 rfl) ?_
      refine m_iconst (pc := 89) C dX8_readOrder_89 ?_
      refine m_bipush (pc := 90) C dX8_readOrder_90 rfl ?_
      obtain ⟨q15, h⟩ := ck_some h
      obtain ⟨a16, μ17, ca16, h⟩ := bd_some h
      refine V_X8_told (pc := 92) C hM ca16 rk_1 rk_100 q15 bw_6_72 ⟨Nat.le_of_ble_eq_true rfl, Nat.le_of_ble_eq_true rfl⟩ hl.1 (rcI (rcR rc0)) ⟨Nat.le_refl _, Nat.le_refl _⟩ dX8_readOrder_92 (fun ra16 H locs hM => ?_)
      refine m_goto (tgt := 105) (pc := 95) C dX8_readOrder_95 (by decide) ?_
      exact k_X8_readOrder_b105 C N _ _ _ _ _ _ _ h rx2 ra4 ra9 ra16 _ _ _ hM (lv_sub hl [1, 2, 0] rfl)
  · have h := if_f h c10
    refine m_aload_n (pc := 73) C dX8_readOrder_73 rfl (lv_at hl 1 rfl) ?_
    refine m_iconst (pc := 74) C dX8_readOrder_74 ?_
    refine m_iconst (pc := 75) C dX8_readOrder_75 ?_
    obtain ⟨q18, h⟩ := ck_some h
    obtain ⟨a19, μ20, ca19, h⟩ := bd_some h
    refine V_X8_told (pc := 76) C hM ca19 rk_0 rk_4 q18 bw_6_72 ⟨Nat.le_of_ble_eq_true rfl, Nat.le_of_ble_eq_true rfl⟩ hl.1 (rcI (rcR rc0)) ⟨Nat.le_refl _, Nat.le_refl _⟩ dX8_readOrder_76 (fun ra19 H locs hM => ?_)
    refine m_goto (tgt := 105) (pc := 79) C dX8_readOrder_79 (by decide) ?_
    exact k_X8_readOrder_b105 C N _ _ _ _ _ _ _ h rx2 ra4 ra9 ra19 _ _ _ hM (lv_sub hl [1, 2, 0] rfl)
set_option maxHeartbeats 4000000 in
set_option maxRecDepth 100000 in
theorem k_X8_readOrder_b41 (C : gCx p s m args meth c cX8_readOrder 4 none "readOrder" RX8) (N : Nat) {r : Int} {μ' : Mm} : ∀ (x0 x2 y0 : Int) (μ : Mm), f_X8_readOrder_b41 N x0 x2 y0 μ = some (r, μ') → R32 x2 → ∀ (H : Heap) (locs : List Loc) (ls : Array Slot), MS E μ s H locs → lv_has ls 4 [(0, vr E x0), (2, vi x2)] → W p l e ({ frames := 2, cells := 0, slots := 0, locals := 50 } : Room) s m args below meth c H locs 0 0 (MQ below (gQ E none True μ') args s 0 0 (gA E)) (F0 m 41 ls [vr E y0]) := by
  intro x0 x2 y0 μ h rx2 H locs ls hM hl
  unfold f_X8_readOrder_b41 at h
  refine m_aload_n (pc := 41) C dX8_readOrder_41 rfl (lv_at hl 0 rfl) ?_
  obtain ⟨q1, h⟩ := ck_some h
  have gq1 := Gr_X8_fault hM q1
  refine G_X8_fault (pc := 42) C hM bw_4_237 q1 dX8_readOrder_42 ?_
  exact k_X8_readOrder_b45 C N _ _ _ _ _ h rx2 gq1 _ _ _ hM (lv_sub hl [0, 1] rfl)
set_option maxHeartbeats 4000000 in
set_option maxRecDepth 100000 in
theorem k_X8_readOrder_b21 (C : gCx p s m args meth c cX8_readOrder 4 none "readOrder" RX8) (N : Nat) {r : Int} {μ' : Mm} : ∀ (x0 y0 : Int) (μ : Mm), f_X8_readOrder_b21 N x0 y0 μ = some (r, μ') → R32 y0 → ∀ (H : Heap) (locs : List Loc) (ls : Array Slot), MS E μ s H locs → lv_has ls 4 [(0, vr E x0)] → W p l e ({ frames := 2, cells := 0, slots := 0, locals := 50 } : Room) s m args below meth c H locs 0 0 (MQ below (gQ E none True μ') args s 0 0 (gA E)) (F0 m 21 ls [vi y0]) := by
  intro x0 y0 μ h ry0 H locs ls hM hl
  unfold f_X8_readOrder_b21 at h
  refine m_istore_n (pc := 21) C dX8_readOrder_21 rfl hl (by decide) (lvK1 0 rfl (Nat.ne_of_beq_eq_false rfl) (Nat.ne_of_beq_eq_false rfl) lvK0) (fun ls hl => ?_)
  refine m_aload_n (pc := 22) C dX8_readOrder_22 rfl (lv_at hl 1 rfl) ?_
  refine m_aload_n (pc := 23) C dX8_readOrder_23 rfl (lv_at hl 1 rfl) ?_
  obtain ⟨q1, h⟩ := ck_some h
  have gq1 := Gr_X8_fault hM q1
  refine G_X8_fault (pc := 24) C hM bw_4_237 q1 dX8_readOrder_24 ?_
  refine m_if_ge (tgt := 41) (pc := 27) C gq1 dX8_readOrder_27 (by decide) (fun c2 => ?_) (fun c2 => ?_)
  · have h := if_t h c2
    exact k_X8_readOrder_b41 C N _ _ _ _ h ry0 _ _ _ hM (lv_sub hl [1, 0] rfl)
  · have h := if_f h c2
    refine m_iload_n (pc := 30) C dX8_readOrder_30 rfl (lv_at hl 0 rfl) ?_
    refine m_if_ge (tgt := 41) (pc := 31) C ry0 dX8_readOrder_31 (by decide) (fun c3 => ?_) (fun c3 => ?_)
    · have h := if_t h c3
      exact k_X8_readOrder_b41 C N _ _ _ _ h ry0 _ _ _ hM (lv_sub hl [1, 0] rfl)
    · have h := if_f h c3
      refine m_aload_n (pc := 34) C dX8_readOrder_34 rfl (lv_at hl 1 rfl) ?_
      obtain ⟨q4, h⟩ := ck_some h
      have gq4 := Gr_X8_from hM q4
      refine G_X8_from (pc := 35) C hM bw_4_235 q4 dX8_readOrder_35 ?_
      refine m_goto (tgt := 45) (pc := 38) C dX8_readOrder_38 (by decide) ?_
      exact k_X8_readOrder_b45 C N _ _ _ _ _ h ry0 gq4 _ _ _ hM (lv_sub hl [1, 0] rfl)
set_option maxHeartbeats 4000000 in
set_option maxRecDepth 100000 in
theorem c_X8_readOrder (l : Launch) (E : gE) (N : Nat) (x0 x1 : Int) (μ μ' : Mm) (r : Int) (h : f_X8_readOrder N x0 x1 μ = some (r, μ')) (rx1 : R32 x1) : gMet l E yX8_readOrder cX8_readOrder 4 none 2 50 [vr E x0, vi x1] none True μ μ' 0 0 := by
  refine g_ofW [1, 1] (by first | (simp only [List.map_cons, List.map_nil, vr_cat]; done) | (simp only [List.map_cons, List.map_nil, vr_cat]; rfl)) (by decide) (by decide) (fun p e s m below meth c ls C hM hl => ?_)
  replace C : gCx p s m _ meth c cX8_readOrder 4 none "readOrder" RX8 := C
  replace hl : lv_has ls 4 [(0, vr E x0), (1, vi x1)] := hl
  unfold f_X8_readOrder at h
  refine m_aload_n (pc := 0) C dX8_readOrder_0 rfl (lv_at hl 0 rfl) ?_
  refine m_iload_n (pc := 1) C dX8_readOrder_1 rfl (lv_at hl 1 rfl) ?_
  obtain ⟨q1, h⟩ := ck_some h
  obtain ⟨a2, μ3, ca2, h⟩ := bd_some h
  refine V_X8_find (pc := 2) C hM ca2 rx1 q1 bw_6_56 ⟨Nat.le_of_ble_eq_true rfl, Nat.le_of_ble_eq_true rfl⟩ hl.1 rc0 ⟨Nat.le_refl _, Nat.le_refl _⟩ dX8_readOrder_2 (fun _ H locs hM => ?_)
  refine m_aload_n (pc := 5) C dX8_readOrder_5 rfl (lv_at hl 0 rfl) ?_
  obtain ⟨q4, h⟩ := ck_some h
  have gq4 := Gr_X8_fault hM q4
  refine G_X8_fault (pc := 6) C hM bw_4_237 q4 dX8_readOrder_6 ?_
  refine m_if_lt (tgt := 17) (pc := 9) C gq4 dX8_readOrder_9 (by decide) (fun c5 => ?_) (fun c5 => ?_)
  · have h := if_t h c5
    refine m_aload_n (pc := 17) C dX8_readOrder_17 rfl (lv_at hl 0 rfl) ?_
    obtain ⟨q6, h⟩ := ck_some h
    obtain ⟨a7, μ8, ca7, h⟩ := bd_some h
    refine V_X8_word (pc := 18) C hM ca7 q6 bw_6_60 ⟨Nat.le_of_ble_eq_true rfl, Nat.le_of_ble_eq_true rfl⟩ hl.1 rc0 ⟨Nat.le_refl _, Nat.le_refl _⟩ dX8_readOrder_18 (fun ra7 H locs hM => ?_)
    exact k_X8_readOrder_b21 C N _ _ _ h ra7 _ _ _ hM (lv_sub hl [0] rfl)
  · have h := if_f h c5
    refine m_ldc (n := -100000005) (pc := 12) C bw_5_38 rfl dX8_readOrder_12 ?_
    refine m_goto (tgt := 21) (pc := 14) C dX8_readOrder_14 (by decide) ?_
    exact k_X8_readOrder_b21 C N _ _ _ h rk_m100000005 _ _ _ hM (lv_sub hl [0] rfl)
theorem hd_X8_readOrder : yX8_readOrder.cls ≠ "java/lang/invoke/MethodHandle" ∧ yX8_readOrder.cls ≠ "java/lang/invoke/VarHandle" ∧ (parseMethodDescriptor yX8_readOrder.desc).map (fun d => d.parameters.length) = some 1 := by decide +kernel

theorem V_X8_readOrder {p : Program} {l : Launch} {e : Env} {R : Room} {s : State} {m : MethodId} {args : Array Value} {below : List Frame} {meth : Method} {c : Code} {H : Heap} {locs : List Loc} {cells slots : Nat} {Q : State → Prop} {cc : ByteArray} {pc nL : Nat} {ls : Array Slot} {rest : List Value} {ret : Option FieldType} {nmm own : String} {E : gE} {μ μ1 : Mm} {index : Nat} (C : gCx p s m args meth c cc nL ret nmm own) (hM : MS E μ s H locs) {N : Nat} {x0 x1 v : Int} (hc : f_X8_readOrder N x0 x1 μ = some (v, μ1)) (rx1 : R32 x1) (hck : μ x0 (-2) = 10) (h1 : Cond.methodLink own index yX8_readOrder ∈ bigL) (hR : 3 ≤ R.frames ∧ 73 ≤ R.locals) (hl : ls.size = nL) (hcat : RC rest 8) (hf : cells + 0 ≤ R.cells ∧ slots + 0 ≤ R.slots) (hdg : decode cc pc = .ok (.invokevirtual index, 3)) (kk : True → ∀ (H1 : Heap) (locs1 : List Loc), MS E μ1 s H1 locs1 → W p l e R s m args below meth c H1 locs1 (cells + 0) (slots + 0) Q (F0 m (pc + 3) ls rest)) : W p l e R s m args below meth c H locs cells slots Q (F0 m pc ls (vi x1 :: vr E x0 :: rest)) := g_callV C KF_X8 hM (c_X8_readOrder l E N x0 x1 μ μ1 v hc rx1) hck (gV h1 bw_6_54 bs_57 bw_1_13 bw_6_55) ⟨rfl, hd_X8_readOrder⟩ hR rfl hl rfl hcat hf hdg kk
/-! X8_readAll -/
def f_X8_readAll_b10 (N : Nat) : Nat → Int → Mm → Rs
  | 0, _, _ => none
  | n + 1, x0, μ =>
    ck (μ x0 (-2) = 10) <|
    if 0 ≤ (μ x0 10) then
      (some (0, μ))
    else
    ck (μ x0 (-2) = 10) <|
    ck (μ x0 (-2) = 10) <|
    if (μ x0 6) ≤ (μ x0 9) then
      (some (0, μ))
    else
    ck (μ x0 (-2) = 10) <|
    ck (μ x0 (-2) = 10) <|
    ck (μ (μ x0 7) (-2) = 22 ∧ (0 : Int) ≤ (μ x0 9) ∧ (μ x0 9) < μ (μ x0 7) (-1)) <|
    if ¬ (μ (μ x0 7) (μ x0 9)) = 59 then
      (ck (μ x0 (-2) = 10) <|
       ck (μ x0 (-2) = 10) <|
       nm (mset μ x0 10 (μ x0 9)) fun μ12 =>
       f_X8_readAll_b10 N n x0 μ12)
    else
    ck (μ x0 (-2) = 10) <|
    nm (w32 ((μ x0 9) + 1)) fun a14 =>
    ck (μ x0 (-2) = 10) <|
    bd (f_X8_readOrder N x0 a14 μ) fun a16 μ17 =>
    f_X8_readAll_b10 N n x0 μ17
def f_X8_readAll (N : Nat) (x0 : Int) (μ : Mm) : Rs :=
  ck (μ x0 (-2) = 10) <|
  nm (mset μ x0 11 0) fun μ2 =>
  ck (μ2 x0 (-2) = 10) <|
  bd (f_X8_readOrder N x0 0 μ2) fun a4 μ5 =>
  f_X8_readAll_b10 N N x0 μ5
set_option maxHeartbeats 4000000 in
set_option maxRecDepth 100000 in
theorem k_X8_readAll_b10 (C : gCx p s m args meth c cX8_readAll 1 none "readAll" RX8) (N : Nat) {r : Int} {μ' : Mm} : ∀ (n : Nat), ∀ (x0 : Int) (μ : Mm), f_X8_readAll_b10 N n x0 μ = some (r, μ') → ∀ (H : Heap) (locs : List Loc) (ls : Array Slot), MS E μ s H locs → lv_has ls 1 [(0, vr E x0)] → W p l e ({ frames := 3, cells := 0, slots := 0, locals := 73 } : Room) s m args below meth c H locs 0 0 (MQ below (gQ E none True μ') args s 0 0 (gA E)) (F0 m 10 ls []) := by
  intro n
  induction n with
  | zero => intro x0 μ h; simp [f_X8_readAll_b10] at h
  | succ n ih =>
    intro x0 μ h H locs ls hM hl
    rw [f_X8_readAll_b10] at h
    refine m_aload_n (pc := 10) C dX8_readAll_10 rfl (lv_at hl 0 rfl) ?_
    obtain ⟨q1, h⟩ := ck_some h
    have gq1 := Gr_X8_fault hM q1
    refine G_X8_fault (pc := 11) C hM bw_4_237 q1 dX8_readAll_11 ?_
    refine m_if_ge (tgt := 66) (pc := 14) C gq1 dX8_readAll_14 (by decide) (fun c2 => ?_) (fun c2 => ?_)
    · have h := if_t h c2
      cases h
      exact m_vret (pc := 66) C hM trivial dX8_readAll_66
    · have h := if_f h c2
      refine m_aload_n (pc := 17) C dX8_readAll_17 rfl (lv_at hl 0 rfl) ?_
      obtain ⟨q3, h⟩ := ck_some h
      have gq3 := Gr_X8_to hM q3
      refine G_X8_to (pc := 18) C hM bw_4_236 q3 dX8_readAll_18 ?_
      refine m_aload_n (pc := 21) C dX8_readAll_21 rfl (lv_at hl 0 rfl) ?_
      obtain ⟨q4, h⟩ := ck_some h
      have gq4 := Gr_X8_typed hM q4
      refine G_X8_typed (pc := 22) C hM bw_4_233 q4 dX8_readAll_22 ?_
      refine m_icmp_ge (tgt := 66) (pc := 25) C gq3 gq4 dX8_readAll_25 (by decide) (fun c5 => ?_) (fun c5 => ?_)
      · have h := if_t h c5
        cases h
        exact m_vret (pc := 66) C hM trivial dX8_readAll_66
      · have h := if_f h c5
        refine m_aload_n (pc := 28) C dX8_readAll_28 rfl (lv_at hl 0 rfl) ?_
        obtain ⟨q6, h⟩ := ck_some h
        refine G_X8_text (pc := 29) C hM bw_4_234 q6 dX8_readAll_29 ?_
        refine m_aload_n (pc := 32) C dX8_readAll_32 rfl (lv_at hl 0 rfl) ?_
        obtain ⟨q7, h⟩ := ck_some h
        have gq7 := Gr_X8_to hM q7
        refine G_X8_to (pc := 33) C hM bw_4_236 q7 dX8_readAll_33 ?_
        obtain ⟨q8, h⟩ := ck_some h
        have gq8 := Ar_cald hM q8.1 q8.2.1 q8.2.2
        refine m_cald (pc := 36) C hM q8.1 q8.2.1 q8.2.2 dX8_readAll_36 ?_
        refine m_bipush (pc := 37) C dX8_readAll_37 rfl ?_
        refine m_icmp_ne (tgt := 55) (pc := 39) C gq8 rk_59 dX8_readAll_39 (by decide) (fun c9 => ?_) (fun c9 => ?_)
        · have h := if_t h c9
          refine m_aload_n (pc := 55) C dX8_readAll_55 rfl (lv_at hl 0 rfl) ?_
          refine m_aload_n (pc := 56) C dX8_readAll_56 rfl (lv_at hl 0 rfl) ?_
          obtain ⟨q10, h⟩ := ck_some h
          have gq10 := Gr_X8_to hM q10
          refine G_X8_to (pc := 57) C hM bw_4_236 q10 dX8_readAll_57 ?_
          obtain ⟨q11, h⟩ := ck_some h
          obtain ⟨μ12, eμ12, h⟩ := nm_some h
          refine P_X8_fault (pc := 60) C hM bw_4_237 q11 gq10 eμ12 dX8_readAll_60 (fun H locs hM => ?_)
          refine m_goto (tgt := 10) (pc := 63) C dX8_readAll_63 (by decide) ?_
          exact ih _ _ h _ _ _ hM (lv_sub hl [0] rfl)
        · have h := if_f h c9
          refine m_aload_n (pc := 42) C dX8_readAll_42 rfl (lv_at hl 0 rfl) ?_
          refine m_aload_n (pc := 43) C dX8_readAll_43 rfl (lv_at hl 0 rfl) ?_
          obtain ⟨q13, h⟩ := ck_some h
          have gq13 := Gr_X8_to hM q13
          refine G_X8_to (pc := 44) C hM bw_4_236 q13 dX8_readAll_44 ?_
          refine m_iconst (pc := 47) C dX8_readAll_47 ?_
          obtain ⟨a14, ea14, h⟩ := nm_some h
          have ra14 : R32 a14 := by rw [ea14]; exact w32_R _
          refine m_iadd (pc := 48) C dX8_readAll_48 ea14 ?_
          obtain ⟨q15, h⟩ := ck_some h
          obtain ⟨a16, μ17, ca16, h⟩ := bd_some h
          refine V_X8_readOrder (pc := 49) C hM ca16 ra14 q15 bw_6_52 ⟨Nat.le_of_ble_eq_true rfl, Nat.le_of_ble_eq_true rfl⟩ hl.1 rc0 ⟨Nat.le_refl _, Nat.le_refl _⟩ dX8_readAll_49 (fun _ H locs hM => ?_)
          refine m_goto (tgt := 10) (pc := 52) C dX8_readAll_52 (by decide) ?_
          exact ih _ _ h _ _ _ hM (lv_sub hl [0] rfl)
set_option maxHeartbeats 4000000 in
set_option maxRecDepth 100000 in
theorem c_X8_readAll (l : Launch) (E : gE) (N : Nat) (x0 : Int) (μ μ' : Mm) (r : Int) (h : f_X8_readAll N x0 μ = some (r, μ')) : gMet l E yX8_readAll cX8_readAll 1 none 3 73 [vr E x0] none True μ μ' 0 0 := by
  refine g_ofW [1] (by first | (simp only [List.map_cons, List.map_nil, vr_cat]; done) | (simp only [List.map_cons, List.map_nil, vr_cat]; rfl)) (by decide) (by decide) (fun p e s m below meth c ls C hM hl => ?_)
  replace C : gCx p s m _ meth c cX8_readAll 1 none "readAll" RX8 := C
  replace hl : lv_has ls 1 [(0, vr E x0)] := hl
  unfold f_X8_readAll at h
  refine m_aload_n (pc := 0) C dX8_readAll_0 rfl (lv_at hl 0 rfl) ?_
  refine m_iconst (pc := 1) C dX8_readAll_1 ?_
  obtain ⟨q1, h⟩ := ck_some h
  obtain ⟨μ2, eμ2, h⟩ := nm_some h
  refine P_X8_orders (pc := 2) C hM bw_4_238 q1 rk_0 eμ2 dX8_readAll_2 (fun H locs hM => ?_)
  refine m_aload_n (pc := 5) C dX8_readAll_5 rfl (lv_at hl 0 rfl) ?_
  refine m_iconst (pc := 6) C dX8_readAll_6 ?_
  obtain ⟨q3, h⟩ := ck_some h
  obtain ⟨a4, μ5, ca4, h⟩ := bd_some h
  refine V_X8_readOrder (pc := 7) C hM ca4 rk_0 q3 bw_6_52 ⟨Nat.le_of_ble_eq_true rfl, Nat.le_of_ble_eq_true rfl⟩ hl.1 rc0 ⟨Nat.le_refl _, Nat.le_refl _⟩ dX8_readAll_7 (fun _ H locs hM => ?_)
  exact k_X8_readAll_b10 C N N _ _ h _ _ _ hM (lv_sub hl [0] rfl)
theorem hd_X8_readAll : yX8_readAll.cls ≠ "java/lang/invoke/MethodHandle" ∧ yX8_readAll.cls ≠ "java/lang/invoke/VarHandle" ∧ (parseMethodDescriptor yX8_readAll.desc).map (fun d => d.parameters.length) = some 0 := by decide +kernel

theorem V_X8_readAll {p : Program} {l : Launch} {e : Env} {R : Room} {s : State} {m : MethodId} {args : Array Value} {below : List Frame} {meth : Method} {c : Code} {H : Heap} {locs : List Loc} {cells slots : Nat} {Q : State → Prop} {cc : ByteArray} {pc nL : Nat} {ls : Array Slot} {rest : List Value} {ret : Option FieldType} {nmm own : String} {E : gE} {μ μ1 : Mm} {index : Nat} (C : gCx p s m args meth c cc nL ret nmm own) (hM : MS E μ s H locs) {N : Nat} {x0 v : Int} (hc : f_X8_readAll N x0 μ = some (v, μ1)) (hck : μ x0 (-2) = 10) (h1 : Cond.methodLink own index yX8_readAll ∈ bigL) (hR : 4 ≤ R.frames ∧ 93 ≤ R.locals) (hl : ls.size = nL) (hcat : RC rest 8) (hf : cells + 0 ≤ R.cells ∧ slots + 0 ≤ R.slots) (hdg : decode cc pc = .ok (.invokevirtual index, 3)) (kk : True → ∀ (H1 : Heap) (locs1 : List Loc), MS E μ1 s H1 locs1 → W p l e R s m args below meth c H1 locs1 (cells + 0) (slots + 0) Q (F0 m (pc + 3) ls rest)) : W p l e R s m args below meth c H locs cells slots Q (F0 m pc ls (vr E x0 :: rest)) := g_callV C KF_X8 hM (c_X8_readAll l E N x0 μ μ1 v hc) hck (gV h1 bw_6_50 bs_56 bw_1_13 bw_6_51) ⟨rfl, hd_X8_readAll⟩ hR rfl hl rfl hcat hf hdg kk
/-! X8_check -/
def f_X8_check_b44 (N : Nat) (x0 x2 x3 x4 x5 : Int) (μ : Mm) : Rs :=
  ck (μ x0 (-2) = 10) <|
  bd (f_X8_checkEnter N x0 x2 x3 x4 x5 μ) fun a2 μ3 =>
  some (a2, μ3)
def f_X8_check_b55 (N : Nat) (x0 x2 x3 : Int) (μ : Mm) : Rs :=
  ck (μ x0 (-2) = 10) <|
  bd (f_X8_checkRelease N x0 x2 x3 μ) fun a2 μ3 =>
  some (a2, μ3)
def f_X8_check_b62 (N : Nat) (x0 x2 x3 : Int) (μ : Mm) : Rs :=
  ck (μ x0 (-2) = 10) <|
  bd (f_X8_checkSample N x0 x2 x3 μ) fun a2 μ3 =>
  some (a2, μ3)
def f_X8_check_b69 (N : Nat) (x0 x2 x3 : Int) (μ : Mm) : Rs :=
  ck (μ x0 (-2) = 10) <|
  bd (f_X8_checkExport N x0 x2 x3 μ) fun a2 μ3 =>
  some (a2, μ3)
def f_X8_check_b76 (N : Nat) (x0 x2 : Int) (μ : Mm) : Rs :=
  ck (μ x0 (-2) = 10) <|
  bd (f_X8_checkProve N x0 x2 μ) fun a2 μ3 =>
  some (a2, μ3)
def f_X8_check_b82 (N : Nat) (x0 x2 x3 : Int) (μ : Mm) : Rs :=
  ck (μ x0 (-2) = 10) <|
  bd (f_X8_checkDestroy N x0 x2 x3 μ) fun a2 μ3 =>
  some (a2, μ3)
def f_X8_check_b89 (N : Nat) (x0 x2 x3 : Int) (μ : Mm) : Rs :=
  ck (μ x0 (-2) = 10) <|
  bd (f_X8_checkGive N x0 x2 x3 μ) fun a2 μ3 =>
  some (a2, μ3)
def f_X8_check_b96 (N : Nat) (μ : Mm) : Rs :=
  some (0, μ)
def f_X8_check (N : Nat) (x0 x1 x2 x3 x4 x5 : Int) (μ : Mm) : Rs :=
  if x1 = 0 then
    (f_X8_check_b44 N x0 x2 x3 x4 x5 μ)
  else
  if x1 = 1 then
    (f_X8_check_b55 N x0 x2 x3 μ)
  else
  if x1 = 2 then
    (f_X8_check_b62 N x0 x2 x3 μ)
  else
  if x1 = 3 then
    (f_X8_check_b69 N x0 x2 x3 μ)
  else
  if x1 = 4 then
    (f_X8_check_b76 N x0 x2 μ)
  else
  if x1 = 5 then
    (f_X8_check_b82 N x0 x2 x3 μ)
  else
  if x1 = 6 then
    (f_X8_check_b89 N x0 x2 x3 μ)
  else
  f_X8_check_b96 N μ
set_option maxHeartbeats 4000000 in
set_option maxRecDepth 100000 in
theorem k_X8_check_b44 (C : gCx p s m args meth c cX8_check 6 (some .int) "check" RX8) (N : Nat) {r : Int} {μ' : Mm} : ∀ (x0 x2 x3 x4 x5 : Int) (μ : Mm), f_X8_check_b44 N x0 x2 x3 x4 x5 μ = some (r, μ') → R32 x2 → R32 x3 → R32 x4 → R32 x5 → ∀ (H : Heap) (locs : List Loc) (ls : Array Slot), MS E μ s H locs → lv_has ls 6 [(0, vr E x0), (2, vi x2), (3, vi x3), (4, vi x4), (5, vi x5)] → W p l e ({ frames := 6, cells := 0, slots := 0, locals := 141 } : Room) s m args below meth c H locs 0 0 (MQ below (gQ E (some (vi r)) (R32 r) μ') args s 0 0 (gA E)) (F0 m 44 ls []) := by
  intro x0 x2 x3 x4 x5 μ h rx2 rx3 rx4 rx5 H locs ls hM hl
  unfold f_X8_check_b44 at h
  refine m_aload_n (pc := 44) C dX8_check_44 rfl (lv_at hl 0 rfl) ?_
  refine m_iload_n (pc := 45) C dX8_check_45 rfl (lv_at hl 1 rfl) ?_
  refine m_iload_n (pc := 46) C dX8_check_46 rfl (lv_at hl 2 rfl) ?_
  refine m_iload (pc := 47) C dX8_check_47 (lv_at hl 3 rfl) ?_
  refine m_iload (pc := 49) C dX8_check_49 (lv_at hl 4 rfl) ?_
  obtain ⟨q1, h⟩ := ck_some h
  obtain ⟨a2, μ3, ca2, h⟩ := bd_some h
  refine V_X8_checkEnter (pc := 51) C hM ca2 rx2 rx3 rx4 rx5 q1 bw_5_147 ⟨Nat.le_of_ble_eq_true rfl, Nat.le_of_ble_eq_true rfl⟩ hl.1 rc0 ⟨Nat.le_refl _, Nat.le_refl _⟩ dX8_check_51 (fun ra2 H locs hM => ?_)
  cases h
  exact m_iret (pc := 54) C hM ra2 dX8_check_54
set_option maxHeartbeats 4000000 in
set_option maxRecDepth 100000 in
theorem k_X8_check_b55 (C : gCx p s m args meth c cX8_check 6 (some .int) "check" RX8) (N : Nat) {r : Int} {μ' : Mm} : ∀ (x0 x2 x3 : Int) (μ : Mm), f_X8_check_b55 N x0 x2 x3 μ = some (r, μ') → R32 x2 → R32 x3 → ∀ (H : Heap) (locs : List Loc) (ls : Array Slot), MS E μ s H locs → lv_has ls 6 [(0, vr E x0), (2, vi x2), (3, vi x3)] → W p l e ({ frames := 6, cells := 0, slots := 0, locals := 141 } : Room) s m args below meth c H locs 0 0 (MQ below (gQ E (some (vi r)) (R32 r) μ') args s 0 0 (gA E)) (F0 m 55 ls []) := by
  intro x0 x2 x3 μ h rx2 rx3 H locs ls hM hl
  unfold f_X8_check_b55 at h
  refine m_aload_n (pc := 55) C dX8_check_55 rfl (lv_at hl 0 rfl) ?_
  refine m_iload_n (pc := 56) C dX8_check_56 rfl (lv_at hl 1 rfl) ?_
  refine m_iload_n (pc := 57) C dX8_check_57 rfl (lv_at hl 2 rfl) ?_
  obtain ⟨q1, h⟩ := ck_some h
  obtain ⟨a2, μ3, ca2, h⟩ := bd_some h
  refine V_X8_checkRelease (pc := 58) C hM ca2 rx2 rx3 q1 bw_5_163 ⟨Nat.le_of_ble_eq_true rfl, Nat.le_of_ble_eq_true rfl⟩ hl.1 rc0 ⟨Nat.le_refl _, Nat.le_refl _⟩ dX8_check_58 (fun ra2 H locs hM => ?_)
  cases h
  exact m_iret (pc := 61) C hM ra2 dX8_check_61
set_option maxHeartbeats 4000000 in
set_option maxRecDepth 100000 in
theorem k_X8_check_b62 (C : gCx p s m args meth c cX8_check 6 (some .int) "check" RX8) (N : Nat) {r : Int} {μ' : Mm} : ∀ (x0 x2 x3 : Int) (μ : Mm), f_X8_check_b62 N x0 x2 x3 μ = some (r, μ') → R32 x2 → R32 x3 → ∀ (H : Heap) (locs : List Loc) (ls : Array Slot), MS E μ s H locs → lv_has ls 6 [(0, vr E x0), (2, vi x2), (3, vi x3)] → W p l e ({ frames := 6, cells := 0, slots := 0, locals := 141 } : Room) s m args below meth c H locs 0 0 (MQ below (gQ E (some (vi r)) (R32 r) μ') args s 0 0 (gA E)) (F0 m 62 ls []) := by
  intro x0 x2 x3 μ h rx2 rx3 H locs ls hM hl
  unfold f_X8_check_b62 at h
  refine m_aload_n (pc := 62) C dX8_check_62 rfl (lv_at hl 0 rfl) ?_
  refine m_iload_n (pc := 63) C dX8_check_63 rfl (lv_at hl 1 rfl) ?_
  refine m_iload_n (pc := 64) C dX8_check_64 rfl (lv_at hl 2 rfl) ?_
  obtain ⟨q1, h⟩ := ck_some h
  obtain ⟨a2, μ3, ca2, h⟩ := bd_some h
  refine V_X8_checkSample (pc := 65) C hM ca2 rx2 rx3 q1 bw_5_195 ⟨Nat.le_of_ble_eq_true rfl, Nat.le_of_ble_eq_true rfl⟩ hl.1 rc0 ⟨Nat.le_refl _, Nat.le_refl _⟩ dX8_check_65 (fun ra2 H locs hM => ?_)
  cases h
  exact m_iret (pc := 68) C hM ra2 dX8_check_68
set_option maxHeartbeats 4000000 in
set_option maxRecDepth 100000 in
theorem k_X8_check_b69 (C : gCx p s m args meth c cX8_check 6 (some .int) "check" RX8) (N : Nat) {r : Int} {μ' : Mm} : ∀ (x0 x2 x3 : Int) (μ : Mm), f_X8_check_b69 N x0 x2 x3 μ = some (r, μ') → R32 x2 → R32 x3 → ∀ (H : Heap) (locs : List Loc) (ls : Array Slot), MS E μ s H locs → lv_has ls 6 [(0, vr E x0), (2, vi x2), (3, vi x3)] → W p l e ({ frames := 6, cells := 0, slots := 0, locals := 141 } : Room) s m args below meth c H locs 0 0 (MQ below (gQ E (some (vi r)) (R32 r) μ') args s 0 0 (gA E)) (F0 m 69 ls []) := by
  intro x0 x2 x3 μ h rx2 rx3 H locs ls hM hl
  unfold f_X8_check_b69 at h
  refine m_aload_n (pc := 69) C dX8_check_69 rfl (lv_at hl 0 rfl) ?_
  refine m_iload_n (pc := 70) C dX8_check_70 rfl (lv_at hl 1 rfl) ?_
  refine m_iload_n (pc := 71) C dX8_check_71 rfl (lv_at hl 2 rfl) ?_
  obtain ⟨q1, h⟩ := ck_some h
  obtain ⟨a2, μ3, ca2, h⟩ := bd_some h
  refine V_X8_checkExport (pc := 72) C hM ca2 rx2 rx3 q1 bw_5_215 ⟨Nat.le_of_ble_eq_true rfl, Nat.le_of_ble_eq_true rfl⟩ hl.1 rc0 ⟨Nat.le_refl _, Nat.le_refl _⟩ dX8_check_72 (fun ra2 H locs hM => ?_)
  cases h
  exact m_iret (pc := 75) C hM ra2 dX8_check_75
set_option maxHeartbeats 4000000 in
set_option maxRecDepth 100000 in
theorem k_X8_check_b76 (C : gCx p s m args meth c cX8_check 6 (some .int) "check" RX8) (N : Nat) {r : Int} {μ' : Mm} : ∀ (x0 x2 : Int) (μ : Mm), f_X8_check_b76 N x0 x2 μ = some (r, μ') → R32 x2 → ∀ (H : Heap) (locs : List Loc) (ls : Array Slot), MS E μ s H locs → lv_has ls 6 [(0, vr E x0), (2, vi x2)] → W p l e ({ frames := 6, cells := 0, slots := 0, locals := 141 } : Room) s m args below meth c H locs 0 0 (MQ below (gQ E (some (vi r)) (R32 r) μ') args s 0 0 (gA E)) (F0 m 76 ls []) := by
  intro x0 x2 μ h rx2 H locs ls hM hl
  unfold f_X8_check_b76 at h
  refine m_aload_n (pc := 76) C dX8_check_76 rfl (lv_at hl 0 rfl) ?_
  refine m_iload_n (pc := 77) C dX8_check_77 rfl (lv_at hl 1 rfl) ?_
  obtain ⟨q1, h⟩ := ck_some h
  obtain ⟨a2, μ3, ca2, h⟩ := bd_some h
  refine V_X8_checkProve (pc := 78) C hM ca2 rx2 q1 bw_5_227 ⟨Nat.le_of_ble_eq_true rfl, Nat.le_of_ble_eq_true rfl⟩ hl.1 rc0 ⟨Nat.le_refl _, Nat.le_refl _⟩ dX8_check_78 (fun ra2 H locs hM => ?_)
  cases h
  exact m_iret (pc := 81) C hM ra2 dX8_check_81
set_option maxHeartbeats 4000000 in
set_option maxRecDepth 100000 in
theorem k_X8_check_b82 (C : gCx p s m args meth c cX8_check 6 (some .int) "check" RX8) (N : Nat) {r : Int} {μ' : Mm} : ∀ (x0 x2 x3 : Int) (μ : Mm), f_X8_check_b82 N x0 x2 x3 μ = some (r, μ') → R32 x2 → R32 x3 → ∀ (H : Heap) (locs : List Loc) (ls : Array Slot), MS E μ s H locs → lv_has ls 6 [(0, vr E x0), (2, vi x2), (3, vi x3)] → W p l e ({ frames := 6, cells := 0, slots := 0, locals := 141 } : Room) s m args below meth c H locs 0 0 (MQ below (gQ E (some (vi r)) (R32 r) μ') args s 0 0 (gA E)) (F0 m 82 ls []) := by
  intro x0 x2 x3 μ h rx2 rx3 H locs ls hM hl
  unfold f_X8_check_b82 at h
  refine m_aload_n (pc := 82) C dX8_check_82 rfl (lv_at hl 0 rfl) ?_
  refine m_iload_n (pc := 83) C dX8_check_83 rfl (lv_at hl 1 rfl) ?_
  refine m_iload_n (pc := 84) C dX8_check_84 rfl (lv_at hl 2 rfl) ?_
  obtain ⟨q1, h⟩ := ck_some h
  obtain ⟨a2, μ3, ca2, h⟩ := bd_some h
  refine V_X8_checkDestroy (pc := 85) C hM ca2 rx2 rx3 q1 bw_6_3 ⟨Nat.le_of_ble_eq_true rfl, Nat.le_of_ble_eq_true rfl⟩ hl.1 rc0 ⟨Nat.le_refl _, Nat.le_refl _⟩ dX8_check_85 (fun ra2 H locs hM => ?_)
  cases h
  exact m_iret (pc := 88) C hM ra2 dX8_check_88
set_option maxHeartbeats 4000000 in
set_option maxRecDepth 100000 in
theorem k_X8_check_b89 (C : gCx p s m args meth c cX8_check 6 (some .int) "check" RX8) (N : Nat) {r : Int} {μ' : Mm} : ∀ (x0 x2 x3 : Int) (μ : Mm), f_X8_check_b89 N x0 x2 x3 μ = some (r, μ') → R32 x2 → R32 x3 → ∀ (H : Heap) (locs : List Loc) (ls : Array Slot), MS E μ s H locs → lv_has ls 6 [(0, vr E x0), (2, vi x2), (3, vi x3)] → W p l e ({ frames := 6, cells := 0, slots := 0, locals := 141 } : Room) s m args below meth c H locs 0 0 (MQ below (gQ E (some (vi r)) (R32 r) μ') args s 0 0 (gA E)) (F0 m 89 ls []) := by
  intro x0 x2 x3 μ h rx2 rx3 H locs ls hM hl
  unfold f_X8_check_b89 at h
  refine m_aload_n (pc := 89) C dX8_check_89 rfl (lv_at hl 0 rfl) ?_
  refine m_iload_n (pc := 90) C dX8_check_90 rfl (lv_at hl 1 rfl) ?_
  refine m_iload_n (pc := 91) C dX8_check_91 rfl (lv_at hl 2 rfl) ?_
  obtain ⟨q1, h⟩ := ck_some h
  obtain ⟨a2, μ3, ca2, h⟩ := bd_some h
  refine V_X8_checkGive (pc := 92) C hM ca2 rx2 rx3 q1 bw_6_15 ⟨Nat.le_of_ble_eq_true rfl, Nat.le_of_ble_eq_true rfl⟩ hl.1 rc0 ⟨Nat.le_refl _, Nat.le_refl _⟩ dX8_check_92 (fun ra2 H locs hM => ?_)
  cases h
  exact m_iret (pc := 95) C hM ra2 dX8_check_95
set_option maxHeartbeats 4000000 in
set_option maxRecDepth 100000 in
theorem k_X8_check_b96 (C : gCx p s m args meth c cX8_check 6 (some .int) "check" RX8) (N : Nat) {r : Int} {μ' : Mm} : ∀ (μ : Mm), f_X8_check_b96 N μ = some (r, μ') → ∀ (H : Heap) (locs : List Loc) (ls : Array Slot), MS E μ s H locs → lv_has ls 6 [] → W p l e ({ frames := 6, cells := 0, slots := 0, locals := 141 } : Room) s m args below meth c H locs 0 0 (MQ below (gQ E (some (vi r)) (R32 r) μ') args s 0 0 (gA E)) (F0 m 96 ls []) := by
  intro μ h H locs ls hM hl
  unfold f_X8_check_b96 at h
  refine m_iconst (pc := 96) C dX8_check_96 ?_
  cases h
  exact m_iret (pc := 97) C hM rk_0 dX8_check_97
set_option maxHeartbeats 4000000 in
set_option maxRecDepth 100000 in
theorem c_X8_check (l : Launch) (E : gE) (N : Nat) (x0 x1 x2 x3 x4 x5 : Int) (μ μ' : Mm) (r : Int) (h : f_X8_check N x0 x1 x2 x3 x4 x5 μ = some (r, μ')) (rx1 : R32 x1) (rx2 : R32 x2) (rx3 : R32 x3) (rx4 : R32 x4) (rx5 : R32 x5) : gMet l E yX8_check cX8_check 6 (some .int) 6 141 [vr E x0, vi x1, vi x2, vi x3, vi x4, vi x5] (some (vi r)) (R32 r) μ μ' 0 0 := by
  refine g_ofW [1, 1, 1, 1, 1, 1] (by first | (simp only [List.map_cons, List.map_nil, vr_cat]; done) | (simp only [List.map_cons, List.map_nil, vr_cat]; rfl)) (by decide) (by decide) (fun p e s m below meth c ls C hM hl => ?_)
  replace C : gCx p s m _ meth c cX8_check 6 (some .int) "check" RX8 := C
  replace hl : lv_has ls 6 [(0, vr E x0), (1, vi x1), (2, vi x2), (3, vi x3), (4, vi x4), (5, vi x5)] := hl
  unfold f_X8_check at h
  refine m_iload_n (pc := 0) C dX8_check_0 rfl (lv_at hl 1 rfl) ?_
  by_cases c1 : x1 = 0
  · have h := if_t h c1
    refine m_tab (pc := 1) (tgt := 44) C rx1 c1 dX8_check_1 (by decide) (by decide) rfl (by decide) ?_
    exact k_X8_check_b44 C N _ _ _ _ _ _ h rx2 rx3 rx4 rx5 _ _ _ hM (lv_sub hl [0, 2, 3, 4, 5] rfl)
  replace h := if_f h c1
  by_cases c2 : x1 = 1
  · have h := if_t h c2
    refine m_tab (pc := 1) (tgt := 55) C rx1 c2 dX8_check_1 (by decide) (by decide) rfl (by decide) ?_
    exact k_X8_check_b55 C N _ _ _ _ h rx2 rx3 _ _ _ hM (lv_sub hl [0, 2, 3] rfl)
  replace h := if_f h c2
  by_cases c3 : x1 = 2
  · have h := if_t h c3
    refine m_tab (pc := 1) (tgt := 62) C rx1 c3 dX8_check_1 (by decide) (by decide) rfl (by decide) ?_
    exact k_X8_check_b62 C N _ _ _ _ h rx2 rx3 _ _ _ hM (lv_sub hl [0, 2, 3] rfl)
  replace h := if_f h c3
  by_cases c4 : x1 = 3
  · have h := if_t h c4
    refine m_tab (pc := 1) (tgt := 69) C rx1 c4 dX8_check_1 (by decide) (by decide) rfl (by decide) ?_
    exact k_X8_check_b69 C N _ _ _ _ h rx2 rx3 _ _ _ hM (lv_sub hl [0, 2, 3] rfl)
  replace h := if_f h c4
  by_cases c5 : x1 = 4
  · have h := if_t h c5
    refine m_tab (pc := 1) (tgt := 76) C rx1 c5 dX8_check_1 (by decide) (by decide) rfl (by decide) ?_
    exact k_X8_check_b76 C N _ _ _ h rx2 _ _ _ hM (lv_sub hl [0, 2] rfl)
  replace h := if_f h c5
  by_cases c6 : x1 = 5
  · have h := if_t h c6
    refine m_tab (pc := 1) (tgt := 82) C rx1 c6 dX8_check_1 (by decide) (by decide) rfl (by decide) ?_
    exact k_X8_check_b82 C N _ _ _ _ h rx2 rx3 _ _ _ hM (lv_sub hl [0, 2, 3] rfl)
  replace h := if_f h c6
  by_cases c7 : x1 = 6
  · have h := if_t h c7
    refine m_tab (pc := 1) (tgt := 89) C rx1 c7 dX8_check_1 (by decide) (by decide) rfl (by decide) ?_
    exact k_X8_check_b89 C N _ _ _ _ h rx2 rx3 _ _ _ hM (lv_sub hl [0, 2, 3] rfl)
  replace h := if_f h c7
  refine m_tabD (pc := 1) (tgt := 96) C rx1 dX8_check_1 (by omega) (by decide) ?_
  exact k_X8_check_b96 C N _ h _ _ _ hM (lv_sub hl [] rfl)
theorem hd_X8_check : yX8_check.cls ≠ "java/lang/invoke/MethodHandle" ∧ yX8_check.cls ≠ "java/lang/invoke/VarHandle" ∧ (parseMethodDescriptor yX8_check.desc).map (fun d => d.parameters.length) = some 5 := by decide +kernel

theorem V_X8_check {p : Program} {l : Launch} {e : Env} {R : Room} {s : State} {m : MethodId} {args : Array Value} {below : List Frame} {meth : Method} {c : Code} {H : Heap} {locs : List Loc} {cells slots : Nat} {Q : State → Prop} {cc : ByteArray} {pc nL : Nat} {ls : Array Slot} {rest : List Value} {ret : Option FieldType} {nmm own : String} {E : gE} {μ μ1 : Mm} {index : Nat} (C : gCx p s m args meth c cc nL ret nmm own) (hM : MS E μ s H locs) {N : Nat} {x0 x1 x2 x3 x4 x5 v : Int} (hc : f_X8_check N x0 x1 x2 x3 x4 x5 μ = some (v, μ1)) (rx1 : R32 x1) (rx2 : R32 x2) (rx3 : R32 x3) (rx4 : R32 x4) (rx5 : R32 x5) (hck : μ x0 (-2) = 10) (h1 : Cond.methodLink own index yX8_check ∈ bigL) (hR : 7 ≤ R.frames ∧ 166 ≤ R.locals) (hl : ls.size = nL) (hcat : RC rest 8) (hf : cells + 0 ≤ R.cells ∧ slots + 0 ≤ R.slots) (hdg : decode cc pc = .ok (.invokevirtual index, 3)) (kk : (R32 v) → ∀ (H1 : Heap) (locs1 : List Loc), MS E μ1 s H1 locs1 → W p l e R s m args below meth c H1 locs1 (cells + 0) (slots + 0) Q (F0 m (pc + 3) ls (vi v :: rest))) : W p l e R s m args below meth c H locs cells slots Q (F0 m pc ls (vi x5 :: vi x4 :: vi x3 :: vi x2 :: vi x1 :: vr E x0 :: rest)) := g_callV C KF_X8 hM (c_X8_check l E N x0 x1 x2 x3 x4 x5 μ μ1 v hc rx1 rx2 rx3 rx4 rx5) hck (gV h1 bw_6_81 bs_63 bw_1_13 bw_6_82) ⟨rfl, hd_X8_check⟩ hR rfl hl rfl hcat hf hdg kk
/-! X8_does -/
def f_X8_does_b44 (N : Nat) (x0 x2 x3 x4 x5 : Int) (μ : Mm) : Rs :=
  ck (μ x0 (-2) = 10) <|
  bd (f_X8_enters N x0 x2 x3 x4 x5 μ) fun a2 μ3 =>
  some (a2, μ3)
def f_X8_does_b55 (N : Nat) (x0 x2 x3 : Int) (μ : Mm) : Rs :=
  ck (μ x0 (-2) = 10) <|
  bd (f_X8_releases N x0 x2 x3 μ) fun a2 μ3 =>
  some (a2, μ3)
def f_X8_does_b62 (N : Nat) (x0 x2 x3 : Int) (μ : Mm) : Rs :=
  ck (μ x0 (-2) = 10) <|
  bd (f_X8_samples N x0 x2 x3 μ) fun a2 μ3 =>
  some (a2, μ3)
def f_X8_does_b69 (N : Nat) (x0 x2 x3 : Int) (μ : Mm) : Rs :=
  ck (μ x0 (-2) = 10) <|
  bd (f_X8_exports N x0 x2 x3 μ) fun a2 μ3 =>
  some (a2, μ3)
def f_X8_does_b76 (N : Nat) (x0 x2 : Int) (μ : Mm) : Rs :=
  ck (μ x0 (-2) = 10) <|
  bd (f_X8_proves N x0 x2 μ) fun a2 μ3 =>
  some (a2, μ3)
def f_X8_does_b82 (N : Nat) (x0 x2 x3 : Int) (μ : Mm) : Rs :=
  ck (μ x0 (-2) = 10) <|
  bd (f_X8_destroys N x0 x2 x3 μ) fun a2 μ3 =>
  some (a2, μ3)
def f_X8_does_b89 (N : Nat) (x0 x2 x3 : Int) (μ : Mm) : Rs :=
  ck (μ x0 (-2) = 10) <|
  bd (f_X8_gives N x0 x2 x3 μ) fun a2 μ3 =>
  some (a2, μ3)
def f_X8_does_b96 (N : Nat) (x0 x2 : Int) (μ : Mm) : Rs :=
  ck (μ x0 (-2) = 10) <|
  bd (f_X8_passes N x0 x2 μ) fun a2 μ3 =>
  some (a2, μ3)
def f_X8_does (N : Nat) (x0 x1 x2 x3 x4 x5 : Int) (μ : Mm) : Rs :=
  if x1 = 0 then
    (f_X8_does_b44 N x0 x2 x3 x4 x5 μ)
  else
  if x1 = 1 then
    (f_X8_does_b55 N x0 x2 x3 μ)
  else
  if x1 = 2 then
    (f_X8_does_b62 N x0 x2 x3 μ)
  else
  if x1 = 3 then
    (f_X8_does_b69 N x0 x2 x3 μ)
  else
  if x1 = 4 then
    (f_X8_does_b76 N x0 x2 μ)
  else
  if x1 = 5 then
    (f_X8_does_b82 N x0 x2 x3 μ)
  else
  if x1 = 6 then
    (f_X8_does_b89 N x0 x2 x3 μ)
  else
  f_X8_does_b96 N x0 x2 μ
set_option maxHeartbeats 4000000 in
set_option maxRecDepth 100000 in
theorem k_X8_does_b44 (C : gCx p s m args meth c cX8_does 6 (some .int) "does" RX8) (N : Nat) {r : Int} {μ' : Mm} : ∀ (x0 x2 x3 x4 x5 : Int) (μ : Mm), f_X8_does_b44 N x0 x2 x3 x4 x5 μ = some (r, μ') → R32 x2 → R32 x3 → R32 x4 → R32 x5 → ∀ (H : Heap) (locs : List Loc) (ls : Array Slot), MS E μ s H locs → lv_has ls 6 [(0, vr E x0), (2, vi x2), (3, vi x3), (4, vi x4), (5, vi x5)] → W p l e ({ frames := 4, cells := 0, slots := 0, locals := 99 } : Room) s m args below meth c H locs 0 0 (MQ below (gQ E (some (vi r)) (R32 r) μ') args s 0 0 (gA E)) (F0 m 44 ls []) := by
  intro x0 x2 x3 x4 x5 μ h rx2 rx3 rx4 rx5 H locs ls hM hl
  unfold f_X8_does_b44 at h
  refine m_aload_n (pc := 44) C dX8_does_44 rfl (lv_at hl 0 rfl) ?_
  refine m_iload_n (pc := 45) C dX8_does_45 rfl (lv_at hl 1 rfl) ?_
  refine m_iload_n (pc := 46) C dX8_does_46 rfl (lv_at hl 2 rfl) ?_
  refine m_iload (pc := 47) C dX8_does_47 (lv_at hl 3 rfl) ?_
  refine m_iload (pc := 49) C dX8_does_49 (lv_at hl 4 rfl) ?_
  obtain ⟨q1, h⟩ := ck_some h
  obtain ⟨a2, μ3, ca2, h⟩ := bd_some h
  refine V_X8_enters (pc := 51) C hM ca2 rx2 rx3 rx4 rx5 q1 bw_5_155 ⟨Nat.le_of_ble_eq_true rfl, Nat.le_of_ble_eq_true rfl⟩ hl.1 rc0 ⟨Nat.le_refl _, Nat.le_refl _⟩ dX8_does_51 (fun ra2 H locs hM => ?_)
  cases h
  exact m_iret (pc := 54) C hM ra2 dX8_does_54
set_option maxHeartbeats 4000000 in
set_option maxRecDepth 100000 in
theorem k_X8_does_b55 (C : gCx p s m args meth c cX8_does 6 (some .int) "does" RX8) (N : Nat) {r : Int} {μ' : Mm} : ∀ (x0 x2 x3 : Int) (μ : Mm), f_X8_does_b55 N x0 x2 x3 μ = some (r, μ') → R32 x2 → R32 x3 → ∀ (H : Heap) (locs : List Loc) (ls : Array Slot), MS E μ s H locs → lv_has ls 6 [(0, vr E x0), (2, vi x2), (3, vi x3)] → W p l e ({ frames := 4, cells := 0, slots := 0, locals := 99 } : Room) s m args below meth c H locs 0 0 (MQ below (gQ E (some (vi r)) (R32 r) μ') args s 0 0 (gA E)) (F0 m 55 ls []) := by
  intro x0 x2 x3 μ h rx2 rx3 H locs ls hM hl
  unfold f_X8_does_b55 at h
  refine m_aload_n (pc := 55) C dX8_does_55 rfl (lv_at hl 0 rfl) ?_
  refine m_iload_n (pc := 56) C dX8_does_56 rfl (lv_at hl 1 rfl) ?_
  refine m_iload_n (pc := 57) C dX8_does_57 rfl (lv_at hl 2 rfl) ?_
  obtain ⟨q1, h⟩ := ck_some h
  obtain ⟨a2, μ3, ca2, h⟩ := bd_some h
  refine V_X8_releases (pc := 58) C hM ca2 rx2 rx3 q1 bw_5_179 ⟨Nat.le_of_ble_eq_true rfl, Nat.le_of_ble_eq_true rfl⟩ hl.1 rc0 ⟨Nat.le_refl _, Nat.le_refl _⟩ dX8_does_58 (fun ra2 H locs hM => ?_)
  cases h
  exact m_iret (pc := 61) C hM ra2 dX8_does_61
set_option maxHeartbeats 4000000 in
set_option maxRecDepth 100000 in
theorem k_X8_does_b62 (C : gCx p s m args meth c cX8_does 6 (some .int) "does" RX8) (N : Nat) {r : Int} {μ' : Mm} : ∀ (x0 x2 x3 : Int) (μ : Mm), f_X8_does_b62 N x0 x2 x3 μ = some (r, μ') → R32 x2 → R32 x3 → ∀ (H : Heap) (locs : List Loc) (ls : Array Slot), MS E μ s H locs → lv_has ls 6 [(0, vr E x0), (2, vi x2), (3, vi x3)] → W p l e ({ frames := 4, cells := 0, slots := 0, locals := 99 } : Room) s m args below meth c H locs 0 0 (MQ below (gQ E (some (vi r)) (R32 r) μ') args s 0 0 (gA E)) (F0 m 62 ls []) := by
  intro x0 x2 x3 μ h rx2 rx3 H locs ls hM hl
  unfold f_X8_does_b62 at h
  refine m_aload_n (pc := 62) C dX8_does_62 rfl (lv_at hl 0 rfl) ?_
  refine m_iload_n (pc := 63) C dX8_does_63 rfl (lv_at hl 1 rfl) ?_
  refine m_iload_n (pc := 64) C dX8_does_64 rfl (lv_at hl 2 rfl) ?_
  obtain ⟨q1, h⟩ := ck_some h
  obtain ⟨a2, μ3, ca2, h⟩ := bd_some h
  refine V_X8_samples (pc := 65) C hM ca2 rx2 rx3 q1 bw_5_207 ⟨Nat.le_of_ble_eq_true rfl, Nat.le_of_ble_eq_true rfl⟩ hl.1 rc0 ⟨Nat.le_refl _, Nat.le_refl _⟩ dX8_does_65 (fun ra2 H locs hM => ?_)
  cases h
  exact m_iret (pc := 68) C hM ra2 dX8_does_68
set_option maxHeartbeats 4000000 in
set_option maxRecDepth 100000 in
theorem k_X8_does_b69 (C : gCx p s m args meth c cX8_does 6 (some .int) "does" RX8) (N : Nat) {r : Int} {μ' : Mm} : ∀ (x0 x2 x3 : Int) (μ : Mm), f_X8_does_b69 N x0 x2 x3 μ = some (r, μ') → R32 x2 → R32 x3 → ∀ (H : Heap) (locs : List Loc) (ls : Array Slot), MS E μ s H locs → lv_has ls 6 [(0, vr E x0), (2, vi x2), (3, vi x3)] → W p l e ({ frames := 4, cells := 0, slots := 0, locals := 99 } : Room) s m args below meth c H locs 0 0 (MQ below (gQ E (some (vi r)) (R32 r) μ') args s 0 0 (gA E)) (F0 m 69 ls []) := by
  intro x0 x2 x3 μ h rx2 rx3 H locs ls hM hl
  unfold f_X8_does_b69 at h
  refine m_aload_n (pc := 69) C dX8_does_69 rfl (lv_at hl 0 rfl) ?_
  refine m_iload_n (pc := 70) C dX8_does_70 rfl (lv_at hl 1 rfl) ?_
  refine m_iload_n (pc := 71) C dX8_does_71 rfl (lv_at hl 2 rfl) ?_
  obtain ⟨q1, h⟩ := ck_some h
  obtain ⟨a2, μ3, ca2, h⟩ := bd_some h
  refine V_X8_exports (pc := 72) C hM ca2 rx2 rx3 q1 bw_5_219 ⟨Nat.le_of_ble_eq_true rfl, Nat.le_of_ble_eq_true rfl⟩ hl.1 rc0 ⟨Nat.le_refl _, Nat.le_refl _⟩ dX8_does_72 (fun ra2 H locs hM => ?_)
  cases h
  exact m_iret (pc := 75) C hM ra2 dX8_does_75
set_option maxHeartbeats 4000000 in
set_option maxRecDepth 100000 in
theorem k_X8_does_b76 (C : gCx p s m args meth c cX8_does 6 (some .int) "does" RX8) (N : Nat) {r : Int} {μ' : Mm} : ∀ (x0 x2 : Int) (μ : Mm), f_X8_does_b76 N x0 x2 μ = some (r, μ') → R32 x2 → ∀ (H : Heap) (locs : List Loc) (ls : Array Slot), MS E μ s H locs → lv_has ls 6 [(0, vr E x0), (2, vi x2)] → W p l e ({ frames := 4, cells := 0, slots := 0, locals := 99 } : Room) s m args below meth c H locs 0 0 (MQ below (gQ E (some (vi r)) (R32 r) μ') args s 0 0 (gA E)) (F0 m 76 ls []) := by
  intro x0 x2 μ h rx2 H locs ls hM hl
  unfold f_X8_does_b76 at h
  refine m_aload_n (pc := 76) C dX8_does_76 rfl (lv_at hl 0 rfl) ?_
  refine m_iload_n (pc := 77) C dX8_does_77 rfl (lv_at hl 1 rfl) ?_
  obtain ⟨q1, h⟩ := ck_some h
  obtain ⟨a2, μ3, ca2, h⟩ := bd_some h
  refine V_X8_proves (pc := 78) C hM ca2 rx2 q1 bw_5_235 ⟨Nat.le_of_ble_eq_true rfl, Nat.le_of_ble_eq_true rfl⟩ hl.1 rc0 ⟨Nat.le_refl _, Nat.le_refl _⟩ dX8_does_78 (fun ra2 H locs hM => ?_)
  cases h
  exact m_iret (pc := 81) C hM ra2 dX8_does_81
set_option maxHeartbeats 4000000 in
set_option maxRecDepth 100000 in
theorem k_X8_does_b82 (C : gCx p s m args meth c cX8_does 6 (some .int) "does" RX8) (N : Nat) {r : Int} {μ' : Mm} : ∀ (x0 x2 x3 : Int) (μ : Mm), f_X8_does_b82 N x0 x2 x3 μ = some (r, μ') → R32 x2 → R32 x3 → ∀ (H : Heap) (locs : List Loc) (ls : Array Slot), MS E μ s H locs → lv_has ls 6 [(0, vr E x0), (2, vi x2), (3, vi x3)] → W p l e ({ frames := 4, cells := 0, slots := 0, locals := 99 } : Room) s m args below meth c H locs 0 0 (MQ below (gQ E (some (vi r)) (R32 r) μ') args s 0 0 (gA E)) (F0 m 82 ls []) := by
  intro x0 x2 x3 μ h rx2 rx3 H locs ls hM hl
  unfold f_X8_does_b82 at h
  refine m_aload_n (pc := 82) C dX8_does_82 rfl (lv_at hl 0 rfl) ?_
  refine m_iload_n (pc := 83) C dX8_does_83 rfl (lv_at hl 1 rfl) ?_
  refine m_iload_n (pc := 84) C dX8_does_84 rfl (lv_at hl 2 rfl) ?_
  obtain ⟨q1, h⟩ := ck_some h
  obtain ⟨a2, μ3, ca2, h⟩ := bd_some h
  refine V_X8_destroys (pc := 85) C hM ca2 rx2 rx3 q1 bw_6_7 ⟨Nat.le_of_ble_eq_true rfl, Nat.le_of_ble_eq_true rfl⟩ hl.1 rc0 ⟨Nat.le_refl _, Nat.le_refl _⟩ dX8_does_85 (fun ra2 H locs hM => ?_)
  cases h
  exact m_iret (pc := 88) C hM ra2 dX8_does_88
set_option maxHeartbeats 4000000 in
set_option maxRecDepth 100000 in
theorem k_X8_does_b89 (C : gCx p s m args meth c cX8_does 6 (some .int) "does" RX8) (N : Nat) {r : Int} {μ' : Mm} : ∀ (x0 x2 x3 : Int) (μ : Mm), f_X8_does_b89 N x0 x2 x3 μ = some (r, μ') → R32 x2 → R32 x3 → ∀ (H : Heap) (locs : List Loc) (ls : Array Slot), MS E μ s H locs → lv_has ls 6 [(0, vr E x0), (2, vi x2), (3, vi x3)] → W p l e ({ frames := 4, cells := 0, slots := 0, locals := 99 } : Room) s m args below meth c H locs 0 0 (MQ below (gQ E (some (vi r)) (R32 r) μ') args s 0 0 (gA E)) (F0 m 89 ls []) := by
  intro x0 x2 x3 μ h rx2 rx3 H locs ls hM hl
  unfold f_X8_does_b89 at h
  refine m_aload_n (pc := 89) C dX8_does_89 rfl (lv_at hl 0 rfl) ?_
  refine m_iload_n (pc := 90) C dX8_does_90 rfl (lv_at hl 1 rfl) ?_
  refine m_iload_n (pc := 91) C dX8_does_91 rfl (lv_at hl 2 rfl) ?_
  obtain ⟨q1, h⟩ := ck_some h
  obtain ⟨a2, μ3, ca2, h⟩ := bd_some h
  refine V_X8_gives (pc := 92) C hM ca2 rx2 rx3 q1 bw_6_19 ⟨Nat.le_of_ble_eq_true rfl, Nat.le_of_ble_eq_true rfl⟩ hl.1 rc0 ⟨Nat.le_refl _, Nat.le_refl _⟩ dX8_does_92 (fun ra2 H locs hM => ?_)
  cases h
  exact m_iret (pc := 95) C hM ra2 dX8_does_95
set_option maxHeartbeats 4000000 in
set_option maxRecDepth 100000 in
theorem k_X8_does_b96 (C : gCx p s m args meth c cX8_does 6 (some .int) "does" RX8) (N : Nat) {r : Int} {μ' : Mm} : ∀ (x0 x2 : Int) (μ : Mm), f_X8_does_b96 N x0 x2 μ = some (r, μ') → R32 x2 → ∀ (H : Heap) (locs : List Loc) (ls : Array Slot), MS E μ s H locs → lv_has ls 6 [(0, vr E x0), (2, vi x2)] → W p l e ({ frames := 4, cells := 0, slots := 0, locals := 99 } : Room) s m args below meth c H locs 0 0 (MQ below (gQ E (some (vi r)) (R32 r) μ') args s 0 0 (gA E)) (F0 m 96 ls []) := by
  intro x0 x2 μ h rx2 H locs ls hM hl
  unfold f_X8_does_b96 at h
  refine m_aload_n (pc := 96) C dX8_does_96 rfl (lv_at hl 0 rfl) ?_
  refine m_iload_n (pc := 97) C dX8_does_97 rfl (lv_at hl 1 rfl) ?_
  obtain ⟨q1, h⟩ := ck_some h
  obtain ⟨a2, μ3, ca2, h⟩ := bd_some h
  refine V_X8_passes (pc := 98) C hM ca2 rx2 q1 bw_6_27 ⟨Nat.le_of_ble_eq_true rfl, Nat.le_of_ble_eq_true rfl⟩ hl.1 rc0 ⟨Nat.le_refl _, Nat.le_refl _⟩ dX8_does_98 (fun ra2 H locs hM => ?_)
  cases h
  exact m_iret (pc := 101) C hM ra2 dX8_does_101
set_option maxHeartbeats 4000000 in
set_option maxRecDepth 100000 in
theorem c_X8_does (l : Launch) (E : gE) (N : Nat) (x0 x1 x2 x3 x4 x5 : Int) (μ μ' : Mm) (r : Int) (h : f_X8_does N x0 x1 x2 x3 x4 x5 μ = some (r, μ')) (rx1 : R32 x1) (rx2 : R32 x2) (rx3 : R32 x3) (rx4 : R32 x4) (rx5 : R32 x5) : gMet l E yX8_does cX8_does 6 (some .int) 4 99 [vr E x0, vi x1, vi x2, vi x3, vi x4, vi x5] (some (vi r)) (R32 r) μ μ' 0 0 := by
  refine g_ofW [1, 1, 1, 1, 1, 1] (by first | (simp only [List.map_cons, List.map_nil, vr_cat]; done) | (simp only [List.map_cons, List.map_nil, vr_cat]; rfl)) (by decide) (by decide) (fun p e s m below meth c ls C hM hl => ?_)
  replace C : gCx p s m _ meth c cX8_does 6 (some .int) "does" RX8 := C
  replace hl : lv_has ls 6 [(0, vr E x0), (1, vi x1), (2, vi x2), (3, vi x3), (4, vi x4), (5, vi x5)] := hl
  unfold f_X8_does at h
  refine m_iload_n (pc := 0) C dX8_does_0 rfl (lv_at hl 1 rfl) ?_
  by_cases c1 : x1 = 0
  · have h := if_t h c1
    refine m_tab (pc := 1) (tgt := 44) C rx1 c1 dX8_does_1 (by decide) (by decide) rfl (by decide) ?_
    exact k_X8_does_b44 C N _ _ _ _ _ _ h rx2 rx3 rx4 rx5 _ _ _ hM (lv_sub hl [0, 2, 3, 4, 5] rfl)
  replace h := if_f h c1
  by_cases c2 : x1 = 1
  · have h := if_t h c2
    refine m_tab (pc := 1) (tgt := 55) C rx1 c2 dX8_does_1 (by decide) (by decide) rfl (by decide) ?_
    exact k_X8_does_b55 C N _ _ _ _ h rx2 rx3 _ _ _ hM (lv_sub hl [0, 2, 3] rfl)
  replace h := if_f h c2
  by_cases c3 : x1 = 2
  · have h := if_t h c3
    refine m_tab (pc := 1) (tgt := 62) C rx1 c3 dX8_does_1 (by decide) (by decide) rfl (by decide) ?_
    exact k_X8_does_b62 C N _ _ _ _ h rx2 rx3 _ _ _ hM (lv_sub hl [0, 2, 3] rfl)
  replace h := if_f h c3
  by_cases c4 : x1 = 3
  · have h := if_t h c4
    refine m_tab (pc := 1) (tgt := 69) C rx1 c4 dX8_does_1 (by decide) (by decide) rfl (by decide) ?_
    exact k_X8_does_b69 C N _ _ _ _ h rx2 rx3 _ _ _ hM (lv_sub hl [0, 2, 3] rfl)
  replace h := if_f h c4
  by_cases c5 : x1 = 4
  · have h := if_t h c5
    refine m_tab (pc := 1) (tgt := 76) C rx1 c5 dX8_does_1 (by decide) (by decide) rfl (by decide) ?_
    exact k_X8_does_b76 C N _ _ _ h rx2 _ _ _ hM (lv_sub hl [0, 2] rfl)
  replace h := if_f h c5
  by_cases c6 : x1 = 5
  · have h := if_t h c6
    refine m_tab (pc := 1) (tgt := 82) C rx1 c6 dX8_does_1 (by decide) (by decide) rfl (by decide) ?_
    exact k_X8_does_b82 C N _ _ _ _ h rx2 rx3 _ _ _ hM (lv_sub hl [0, 2, 3] rfl)
  replace h := if_f h c6
  by_cases c7 : x1 = 6
  · have h := if_t h c7
    refine m_tab (pc := 1) (tgt := 89) C rx1 c7 dX8_does_1 (by decide) (by decide) rfl (by decide) ?_
    exact k_X8_does_b89 C N _ _ _ _ h rx2 rx3 _ _ _ hM (lv_sub hl [0, 2, 3] rfl)
  replace h := if_f h c7
  refine m_tabD (pc := 1) (tgt := 96) C rx1 dX8_does_1 (by omega) (by decide) ?_
  exact k_X8_does_b96 C N _ _ _ h rx2 _ _ _ hM (lv_sub hl [0, 2] rfl)
theorem hd_X8_does : yX8_does.cls ≠ "java/lang/invoke/MethodHandle" ∧ yX8_does.cls ≠ "java/lang/invoke/VarHandle" ∧ (parseMethodDescriptor yX8_does.desc).map (fun d => d.parameters.length) = some 5 := by decide +kernel

theorem V_X8_does {p : Program} {l : Launch} {e : Env} {R : Room} {s : State} {m : MethodId} {args : Array Value} {below : List Frame} {meth : Method} {c : Code} {H : Heap} {locs : List Loc} {cells slots : Nat} {Q : State → Prop} {cc : ByteArray} {pc nL : Nat} {ls : Array Slot} {rest : List Value} {ret : Option FieldType} {nmm own : String} {E : gE} {μ μ1 : Mm} {index : Nat} (C : gCx p s m args meth c cc nL ret nmm own) (hM : MS E μ s H locs) {N : Nat} {x0 x1 x2 x3 x4 x5 v : Int} (hc : f_X8_does N x0 x1 x2 x3 x4 x5 μ = some (v, μ1)) (rx1 : R32 x1) (rx2 : R32 x2) (rx3 : R32 x3) (rx4 : R32 x4) (rx5 : R32 x5) (hck : μ x0 (-2) = 10) (h1 : Cond.methodLink own index yX8_does ∈ bigL) (hR : 5 ≤ R.frames ∧ 124 ≤ R.locals) (hl : ls.size = nL) (hcat : RC rest 8) (hf : cells + 0 ≤ R.cells ∧ slots + 0 ≤ R.slots) (hdg : decode cc pc = .ok (.invokevirtual index, 3)) (kk : (R32 v) → ∀ (H1 : Heap) (locs1 : List Loc), MS E μ1 s H1 locs1 → W p l e R s m args below meth c H1 locs1 (cells + 0) (slots + 0) Q (F0 m (pc + 3) ls (vi v :: rest))) : W p l e R s m args below meth c H locs cells slots Q (F0 m pc ls (vi x5 :: vi x4 :: vi x3 :: vi x2 :: vi x1 :: vr E x0 :: rest)) := g_callV C KF_X8 hM (c_X8_does l E N x0 x1 x2 x3 x4 x5 μ μ1 v hc rx1 rx2 rx3 rx4 rx5) hck (gV h1 bw_6_85 bs_64 bw_1_13 bw_6_86) ⟨rfl, hd_X8_does⟩ hR rfl hl rfl hcat hf hdg kk
/-! X8_runOrders -/
def f_X8_runOrders_b93 (N : Nat) (k27 : Int → Int → Int → Mm → Rs) (x0 x1 x3 y0 : Int) (μ : Mm) : Rs :=
  if y0 = 0 then
    (k27 x0 x1 y0 μ)
  else
  ck (μ x0 (-2) = 10) <|
  ck (μ (μ x0 12) (-2) = 23 ∧ (0 : Int) ≤ x3 ∧ x3 < μ (μ x0 12) (-1)) <|
  ck (μ x0 (-2) = 10) <|
  nm (w32 (x3 + 1)) fun a5 =>
  ck (μ (μ x0 12) (-2) = 23 ∧ (0 : Int) ≤ a5 ∧ a5 < μ (μ x0 12) (-1)) <|
  ck (μ x0 (-2) = 10) <|
  nm (w32 (x3 + 2)) fun a8 =>
  ck (μ (μ x0 12) (-2) = 23 ∧ (0 : Int) ≤ a8 ∧ a8 < μ (μ x0 12) (-1)) <|
  ck (μ x0 (-2) = 10) <|
  nm (w32 (x3 + 3)) fun a11 =>
  ck (μ (μ x0 12) (-2) = 23 ∧ (0 : Int) ≤ a11 ∧ a11 < μ (μ x0 12) (-1)) <|
  ck (μ x0 (-2) = 10) <|
  nm (w32 (x3 + 4)) fun a14 =>
  ck (μ (μ x0 12) (-2) = 23 ∧ (0 : Int) ≤ a14 ∧ a14 < μ (μ x0 12) (-1)) <|
  ck (μ x0 (-2) = 10) <|
  bd (f_X8_does N x0 (μ (μ x0 12) x3) (μ (μ x0 12) a5) (μ (μ x0 12) a8) (μ (μ x0 12) a11) (μ (μ x0 12) a14) μ) fun a17 μ18 =>
  nm (w32 (x1 + 1)) fun a19 =>
  k27 x0 a19 y0 μ18
def f_X8_runOrders_b27 (N : Nat) : Nat → Int → Int → Int → Mm → Rs
  | 0, _, _, _, _ => none
  | n + 1, x0, x1, x2, μ =>
    if x2 = 0 then
      (some (x1, μ))
    else
    ck (μ x0 (-2) = 10) <|
    if (μ x0 11) ≤ x1 then
      (some (x1, μ))
    else
    nm (w32 (5 * x1)) fun a4 =>
    ck (μ x0 (-2) = 10) <|
    ck (μ (μ x0 12) (-2) = 23 ∧ (0 : Int) ≤ a4 ∧ a4 < μ (μ x0 12) (-1)) <|
    ck (μ x0 (-2) = 10) <|
    nm (w32 (a4 + 1)) fun a8 =>
    ck (μ (μ x0 12) (-2) = 23 ∧ (0 : Int) ≤ a8 ∧ a8 < μ (μ x0 12) (-1)) <|
    ck (μ x0 (-2) = 10) <|
    nm (w32 (a4 + 2)) fun a11 =>
    ck (μ (μ x0 12) (-2) = 23 ∧ (0 : Int) ≤ a11 ∧ a11 < μ (μ x0 12) (-1)) <|
    ck (μ x0 (-2) = 10) <|
    nm (w32 (a4 + 3)) fun a14 =>
    ck (μ (μ x0 12) (-2) = 23 ∧ (0 : Int) ≤ a14 ∧ a14 < μ (μ x0 12) (-1)) <|
    ck (μ x0 (-2) = 10) <|
    nm (w32 (a4 + 4)) fun a17 =>
    ck (μ (μ x0 12) (-2) = 23 ∧ (0 : Int) ≤ a17 ∧ a17 < μ (μ x0 12) (-1)) <|
    ck (μ x0 (-2) = 10) <|
    bd (f_X8_check N x0 (μ (μ x0 12) a4) (μ (μ x0 12) a8) (μ (μ x0 12) a11) (μ (μ x0 12) a14) (μ (μ x0 12) a17) μ) fun a20 μ21 =>
    if a20 < 0 then
      (f_X8_runOrders_b93 N (f_X8_runOrders_b27 N n) x0 x1 a4 0 μ21)
    else
    f_X8_runOrders_b93 N (f_X8_runOrders_b27 N n) x0 x1 a4 1 μ21
def f_X8_runOrders (N : Nat) (x0 : Int) (μ : Mm) : Rs :=
  ck (μ x0 (-2) = 10) <|
  bd (f_X8_readAll N x0 μ) fun a2 μ3 =>
  ck (μ3 x0 (-2) = 10) <|
  if (μ3 x0 10) < 0 then
    (ck (μ3 x0 (-2) = 10) <|
     bd (f_X8_record N x0 μ3) fun a7 μ8 =>
     f_X8_runOrders_b27 N N x0 0 1 μ8)
  else
  ck (μ3 x0 (-2) = 10) <|
  nm (w32 (((-100)) - (μ3 x0 10))) fun a10 =>
  some (a10, μ3)
set_option maxHeartbeats 4000000 in
set_option maxRecDepth 100000 in
theorem k_X8_runOrders_b93 (C : gCx p s m args meth c cX8_runOrders 4 (some .int) "runOrders" RX8) (N : Nat) {r : Int} {μ' : Mm} (k27 : Int → Int → Int → Mm → Rs) (hk27 : ∀ (x0 x1 x2 : Int) (μ : Mm), k27 x0 x1 x2 μ = some (r, μ') → R32 x1 → R32 x2 → ∀ (H : Heap) (locs : List Loc) (ls : Array Slot), MS E μ s H locs → lv_has ls 4 [(0, vr E x0), (1, vi x1), (2, vi x2)] → W p l e ({ frames := 7, cells := 0, slots := 0, locals := 166 } : Room) s m args below meth c H locs 0 0 (MQ below (gQ E (some (vi r)) (R32 r) μ') args s 0 0 (gA E)) (F0 m 27 ls [])) : ∀ (x0 x1 x3 y0 : Int) (μ : Mm), f_X8_runOrders_b93 N k27 x0 x1 x3 y0 μ = some (r, μ') → R32 x1 → R32 x3 → R32 y0 → ∀ (H : Heap) (locs : List Loc) (ls : Array Slot), MS E μ s H locs → lv_has ls 4 [(0, vr E x0), (1, vi x1), (3, vi x3)] → W p l e ({ frames := 7, cells := 0, slots := 0, locals := 166 } : Room) s m args below meth c H locs 0 0 (MQ below (gQ E (some (vi r)) (R32 r) μ') args s 0 0 (gA E)) (F0 m 93 ls [vi y0]) := by
  intro x0 x1 x3 y0 μ h rx1 rx3 ry0 H locs ls hM hl
  unfold f_X8_runOrders_b93 at h
  refine m_istore_n (pc := 93) C dX8_runOrders_93 rfl hl (by decide) (lvK1 0 rfl (Nat.ne_of_beq_eq_false rfl) (Nat.ne_of_beq_eq_false rfl) (lvK2 1 rfl (Nat.ne_of_beq_eq_false rfl) rfl (lvK1 2 rfl (Nat.ne_of_beq_eq_false rfl) (Nat.ne_of_beq_eq_false rfl) lvK0))) (fun ls hl => ?_)
  refine m_iload_n (pc := 94) C dX8_runOrders_94 rfl (lv_at hl 0 rfl) ?_
  refine m_if_eq (tgt := 144) (pc := 95) C ry0 dX8_runOrders_95 (by decide) (fun c1 => ?_) (fun c1 => ?_)
  · have h := if_t h c1
    refine m_goto (tgt := 27) (pc := 144) C dX8_runOrders_144 (by decide) ?_
    exact hk27 _ _ _ _ h rx1 ry0 _ _ _ hM (lv_sub hl [1, 2, 0] rfl)
  · have h := if_f h c1
    refine m_aload_n (pc := 98) C dX8_runOrders_98 rfl (lv_at hl 1 rfl) ?_
    refine m_aload_n (pc := 99) C dX8_runOrders_99 rfl (lv_at hl 1 rfl) ?_
    obtain ⟨q2, h⟩ := ck_some h
    refine G_X8_orderOf (pc := 100) C hM bw_4_239 q2 dX8_runOrders_100 ?_
    refine m_iload_n (pc := 103) C dX8_runOrders_103 rfl (lv_at hl 3 rfl) ?_
    obtain ⟨q3, h⟩ := ck_some h
    have gq3 := Ar_iald hM q3.1 q3.2.1 q3.2.2
    refine m_iald (pc := 104) C hM q3.1 q3.2.1 q3.2.2 dX8_runOrders_104 ?_
    refine m_aload_n (pc := 105) C dX8_runOrders_105 rfl (lv_at hl 1 rfl) ?_
    obtain ⟨q4, h⟩ := ck_some h
    refine G_X8_orderOf (pc := 106) C hM bw_4_239 q4 dX8_runOrders_106 ?_
    refine m_iload_n (pc := 109) C dX8_runOrders_109 rfl (lv_at hl 3 rfl) ?_
    refine m_iconst (pc := 110) C dX8_runOrders_110 ?_
    obtain ⟨a5, ea5, h⟩ := nm_some h
    have ra5 : R32 a5 := by rw [ea5]; exact w32_R _
    refine m_iadd (pc := 111) C dX8_runOrders_111 ea5 ?_
    obtain ⟨q6, h⟩ := ck_some h
    have gq6 := Ar_iald hM q6.1 q6.2.1 q6.2.2
    refine m_iald (pc := 112) C hM q6.1 q6.2.1 q6.2.2 dX8_runOrders_112 ?_
    refine m_aload_n (pc := 113) C dX8_runOrders_113 rfl (lv_at hl 1 rfl) ?_
    obtain ⟨q7, h⟩ := ck_some h
    refine G_X8_orderOf (pc := 114) C hM bw_4_239 q7 dX8_runOrders_114 ?_
    refine m_iload_n (pc := 117) C dX8_runOrders_117 rfl (lv_at hl 3 rfl) ?_
    refine m_iconst (pc := 118) C dX8_runOrders_118 ?_
    obtain ⟨a8, ea8, h⟩ := nm_some h
    have ra8 : R32 a8 := by rw [ea8]; exact w32_R _
    refine m_iadd (pc := 119) C dX8_runOrders_119 ea8 ?_
    obtain ⟨q9, h⟩ := ck_some h
    have gq9 := Ar_iald hM q9.1 q9.2.1 q9.2.2
    refine m_iald (pc := 120) C hM q9.1 q9.2.1 q9.2.2 dX8_runOrders_120 ?_
    refine m_aload_n (pc := 121) C dX8_runOrders_121 rfl (lv_at hl 1 rfl) ?_
    obtain ⟨q10, h⟩ := ck_some h
    refine G_X8_orderOf (pc := 122) C hM bw_4_239 q10 dX8_runOrders_122 ?_
    refine m_iload_n (pc := 125) C dX8_runOrders_125 rfl (lv_at hl 3 rfl) ?_
    refine m_iconst (pc := 126) C dX8_runOrders_126 ?_
    obtain ⟨a11, ea11, h⟩ := nm_some h
    have ra11 : R32 a11 := by rw [ea11]; exact w32_R _
    refine m_iadd (pc := 127) C dX8_runOrders_127 ea11 ?_
    obtain ⟨q12, h⟩ := ck_some h
    have gq12 := Ar_iald hM q12.1 q12.2.1 q12.2.2
    refine m_iald (pc := 128) C hM q12.1 q12.2.1 q12.2.2 dX8_runOrders_128 ?_
    refine m_aload_n (pc := 129) C dX8_runOrders_129 rfl (lv_at hl 1 rfl) ?_
    obtain ⟨q13, h⟩ := ck_some h
    refine G_X8_orderOf (pc := 130) C hM bw_4_239 q13 dX8_runOrders_130 ?_
    refine m_iload_n (pc := 133) C dX8_runOrders_133 rfl (lv_at hl 3 rfl) ?_
    refine m_iconst (pc := 134) C dX8_runOrders_134 ?_
    obtain ⟨a14, ea14, h⟩ := nm_some h
    have ra14 : R32 a14 := by rw [ea14]; exact w32_R _
    refine m_iadd (pc := 135) C dX8_runOrders_135 ea14 ?_
    obtain ⟨q15, h⟩ := ck_some h
    have gq15 := Ar_iald hM q15.1 q15.2.1 q15.2.2
    refine m_iald (pc := 136) C hM q15.1 q15.2.1 q15.2.2 dX8_runOrders_136 ?_
    obtain ⟨q16, h⟩ := ck_some h
    obtain ⟨a17, μ18, ca17, h⟩ := bd_some h
    refine V_X8_does (pc := 137) C hM ca17 gq3 gq6 gq9 gq12 gq15 q16 bw_6_83 ⟨Nat.le_of_ble_eq_true rfl, Nat.le_of_ble_eq_true rfl⟩ hl.1 rc0 ⟨Nat.le_refl _, Nat.le_refl _⟩ dX8_runOrders_137 (fun ra17 H locs hM => ?_)
    refine m_pop (pc := 140) C rfl dX8_runOrders_140 ?_
    obtain ⟨a19, ea19, h⟩ := nm_some h
    have ra19 : R32 a19 := by rw [ea19]; exact w32_R _
    refine m_iinc (k := 2) (pc := 141) C dX8_runOrders_141 hl rfl (by decide) ea19 (lvK1 0 rfl (Nat.ne_of_beq_eq_false rfl) (Nat.ne_of_beq_eq_false rfl) (lvK2 1 rfl (Nat.ne_of_beq_eq_false rfl) (vr_cat _ _) lvK0)) (fun ls hl => ?_)
    refine m_goto (tgt := 27) (pc := 144) C dX8_runOrders_144 (by decide) ?_
    exact hk27 _ _ _ _ h ra19 ry0 _ _ _ hM (lv_sub hl [2, 0, 1] rfl)
set_option maxHeartbeats 4000000 in
set_option maxRecDepth 100000 in
theorem k_X8_runOrders_b27 (C : gCx p s m args meth c cX8_runOrders 4 (some .int) "runOrders" RX8) (N : Nat) {r : Int} {μ' : Mm} : ∀ (n : Nat), ∀ (x0 x1 x2 : Int) (μ : Mm), f_X8_runOrders_b27 N n x0 x1 x2 μ = some (r, μ') → R32 x1 → R32 x2 → ∀ (H : Heap) (locs : List Loc) (ls : Array Slot), MS E μ s H locs → lv_has ls 4 [(0, vr E x0), (1, vi x1), (2, vi x2)] → W p l e ({ frames := 7, cells := 0, slots := 0, locals := 166 } : Room) s m args below meth c H locs 0 0 (MQ below (gQ E (some (vi r)) (R32 r) μ') args s 0 0 (gA E)) (F0 m 27 ls []) := by
  intro n
  induction n with
  | zero => intro x0 x1 x2 μ h; simp [f_X8_runOrders_b27] at h
  | succ n ih =>
    intro x0 x1 x2 μ h rx1 rx2 H locs ls hM hl
    rw [f_X8_runOrders_b27] at h
    refine m_iload_n (pc := 27) C dX8_runOrders_27 rfl (lv_at hl 2 rfl) ?_
    refine m_if_eq (tgt := 147) (pc := 28) C rx2 dX8_runOrders_28 (by decide) (fun c1 => ?_) (fun c1 => ?_)
    · have h := if_t h c1
      refine m_iload_n (pc := 147) C dX8_runOrders_147 rfl (lv_at hl 1 rfl) ?_
      cases h
      exact m_iret (pc := 148) C hM rx1 dX8_runOrders_148
    · have h := if_f h c1
      refine m_iload_n (pc := 31) C dX8_runOrders_31 rfl (lv_at hl 1 rfl) ?_
      refine m_aload_n (pc := 32) C dX8_runOrders_32 rfl (lv_at hl 0 rfl) ?_
      obtain ⟨q2, h⟩ := ck_some h
      have gq2 := Gr_X8_orders hM q2
      refine G_X8_orders (pc := 33) C hM bw_4_238 q2 dX8_runOrders_33 ?_
      refine m_icmp_ge (tgt := 147) (pc := 36) C rx1 gq2 dX8_runOrders_36 (by decide) (fun c3 => ?_) (fun c3 => ?_)
      · have h := if_t h c3
        refine m_iload_n (pc := 147) C dX8_runOrders_147 rfl (lv_at hl 1 rfl) ?_
        cases h
        exact m_iret (pc := 148) C hM rx1 dX8_runOrders_148
      · have h := if_f h c3
        refine m_iconst (pc := 39) C dX8_runOrders_39 ?_
        refine m_iload_n (pc := 40) C dX8_runOrders_40 rfl (lv_at hl 1 rfl) ?_
        obtain ⟨a4, ea4, h⟩ := nm_some h
        have ra4 : R32 a4 := by rw [ea4]; exact w32_R _
        refine m_imul (pc := 41) C dX8_runOrders_41 ea4 ?_
        refine m_istore_n (pc := 42) C dX8_runOrders_42 rfl hl (by decide) (lvK1 0 rfl (Nat.ne_of_beq_eq_false rfl) (Nat.ne_of_beq_eq_false rfl) (lvK1 1 rfl (Nat.ne_of_beq_eq_false rfl) (Nat.ne_of_beq_eq_false rfl) lvK0)) (fun ls hl => ?_)
        refine m_aload_n (pc := 43) C dX8_runOrders_43 rfl (lv_at hl 1 rfl) ?_
        refine m_aload_n (pc := 44) C dX8_runOrders_44 rfl (lv_at hl 1 rfl) ?_
        obtain ⟨q5, h⟩ := ck_some h
        refine G_X8_orderOf (pc := 45) C hM bw_4_239 q5 dX8_runOrders_45 ?_
        refine m_iload_n (pc := 48) C dX8_runOrders_48 rfl (lv_at hl 0 rfl) ?_
        obtain ⟨q6, h⟩ := ck_some h
        have gq6 := Ar_iald hM q6.1 q6.2.1 q6.2.2
        refine m_iald (pc := 49) C hM q6.1 q6.2.1 q6.2.2 dX8_runOrders_49 ?_
        refine m_aload_n (pc := 50) C dX8_runOrders_50 rfl (lv_at hl 1 rfl) ?_
        obtain ⟨q7, h⟩ := ck_some h
        refine G_X8_orderOf (pc := 51) C hM bw_4_239 q7 dX8_runOrders_51 ?_
        refine m_iload_n (pc := 54) C dX8_runOrders_54 rfl (lv_at hl 0 rfl) ?_
        refine m_iconst (pc := 55) C dX8_runOrders_55 ?_
        obtain ⟨a8, ea8, h⟩ := nm_some h
        have ra8 : R32 a8 := by rw [ea8]; exact w32_R _
        refine m_iadd (pc := 56) C dX8_runOrders_56 ea8 ?_
        obtain ⟨q9, h⟩ := ck_some h
        have gq9 := Ar_iald hM q9.1 q9.2.1 q9.2.2
        refine m_iald (pc := 57) C hM q9.1 q9.2.1 q9.2.2 dX8_runOrders_57 ?_
        refine m_aload_n (pc := 58) C dX8_runOrders_58 rfl (lv_at hl 1 rfl) ?_
        obtain ⟨q10, h⟩ := ck_some h
        refine G_X8_orderOf (pc := 59) C hM bw_4_239 q10 dX8_runOrders_59 ?_
        refine m_iload_n (pc := 62) C dX8_runOrders_62 rfl (lv_at hl 0 rfl) ?_
        refine m_iconst (pc := 63) C dX8_runOrders_63 ?_
        obtain ⟨a11, ea11, h⟩ := nm_some h
        have ra11 : R32 a11 := by rw [ea11]; exact w32_R _
        refine m_iadd (pc := 64) C dX8_runOrders_64 ea11 ?_
        obtain ⟨q12, h⟩ := ck_some h
        have gq12 := Ar_iald hM q12.1 q12.2.1 q12.2.2
        refine m_iald (pc := 65) C hM q12.1 q12.2.1 q12.2.2 dX8_runOrders_65 ?_
        refine m_aload_n (pc := 66) C dX8_runOrders_66 rfl (lv_at hl 1 rfl) ?_
        obtain ⟨q13, h⟩ := ck_some h
        refine G_X8_orderOf (pc := 67) C hM bw_4_239 q13 dX8_runOrders_67 ?_
        refine m_iload_n (pc := 70) C dX8_runOrders_70 rfl (lv_at hl 0 rfl) ?_
        refine m_iconst (pc := 71) C dX8_runOrders_71 ?_
        obtain ⟨a14, ea14, h⟩ := nm_some h
        have ra14 : R32 a14 := by rw [ea14]; exact w32_R _
        refine m_iadd (pc := 72) C dX8_runOrders_72 ea14 ?_
        obtain ⟨q15, h⟩ := ck_some h
        have gq15 := Ar_iald hM q15.1 q15.2.1 q15.2.2
        refine m_iald (pc := 73) C hM q15.1 q15.2.1 q15.2.2 dX8_runOrders_73 ?_
        refine m_aload_n (pc := 74) C dX8_runOrders_74 rfl (lv_at hl 1 rfl) ?_
        obtain ⟨q16, h⟩ := ck_some h
        refine G_X8_orderOf (pc := 75) C hM bw_4_239 q16 dX8_runOrders_75 ?_
        refine m_iload_n (pc := 78) C dX8_runOrders_78 rfl (lv_at hl 0 rfl) ?_
        refine m_iconst (pc := 79) C dX8_runOrders_79 ?_
        obtain ⟨a17, ea17, h⟩ := nm_some h
        have ra17 : R32 a17 := by rw [ea17]; exact w32_R _
        refine m_iadd (pc := 80) C dX8_runOrders_80 ea17 ?_
        obtain ⟨q18, h⟩ := ck_some h
        have gq18 := Ar_iald hM q18.1 q18.2.1 q18.2.2
        refine m_iald (pc := 81) C hM q18.1 q18.2.1 q18.2.2 dX8_runOrders_81 ?_
        obtain ⟨q19, h⟩ := ck_some h
        obtain ⟨a20, μ21, ca20, h⟩ := bd_some h
        refine V_X8_check (pc := 82) C hM ca20 gq6 gq9 gq12 gq15 gq18 q19 bw_6_79 ⟨Nat.le_of_ble_eq_true rfl, Nat.le_of_ble_eq_true rfl⟩ hl.1 rc0 ⟨Nat.le_refl _, Nat.le_refl _⟩ dX8_runOrders_82 (fun ra20 H locs hM => ?_)
        refine m_if_lt (tgt := 92) (pc := 85) C ra20 dX8_runOrders_85 (by decide) (fun c22 => ?_) (fun c22 => ?_)
        · have h := if_t h c22
          refine m_iconst (pc := 92) C dX8_runOrders_92 ?_
          exact k_X8_runOrders_b93 C N _ ih _ _ _ _ _ h rx1 ra4 rk_0 _ _ _ hM (lv_sub hl [1, 2, 0] rfl)
        · have h := if_f h c22
          refine m_iconst (pc := 88) C dX8_runOrders_88 ?_
          refine m_goto (tgt := 93) (pc := 89) C dX8_runOrders_89 (by decide) ?_
          exact k_X8_runOrders_b93 C N _ ih _ _ _ _ _ h rx1 ra4 rk_1 _ _ _ hM (lv_sub hl [1, 2, 0] rfl)
set_option maxHeartbeats 4000000 in
set_option maxRecDepth 100000 in
theorem c_X8_runOrders (l : Launch) (E : gE) (N : Nat) (x0 : Int) (μ μ' : Mm) (r : Int) (h : f_X8_runOrders N x0 μ = some (r, μ')) : gMet l E yX8_runOrders cX8_runOrders 4 (some .int) 7 166 [vr E x0] (some (vi r)) (R32 r) μ μ' 0 0 := by
  refine g_ofW [1] (by first | (simp only [List.map_cons, List.map_nil, vr_cat]; done) | (simp only [List.map_cons, List.map_nil, vr_cat]; rfl)) (by decide) (by decide) (fun p e s m below meth c ls C hM hl => ?_)
  replace C : gCx p s m _ meth c cX8_runOrders 4 (some .int) "runOrders" RX8 := C
  replace hl : lv_has ls 4 [(0, vr E x0)] := hl
  unfold f_X8_runOrders at h
  refine m_aload_n (pc := 0) C dX8_runOrders_0 rfl (lv_at hl 0 rfl) ?_
  obtain ⟨q1, h⟩ := ck_some h
  obtain ⟨a2, μ3, ca2, h⟩ := bd_some h
  refine V_X8_readAll (pc := 1) C hM ca2 q1 bw_6_48 ⟨Nat.le_of_ble_eq_true rfl, Nat.le_of_ble_eq_true rfl⟩ hl.1 rc0 ⟨Nat.le_refl _, Nat.le_refl _⟩ dX8_runOrders_1 (fun _ H locs hM => ?_)
  refine m_aload_n (pc := 4) C dX8_runOrders_4 rfl (lv_at hl 0 rfl) ?_
  obtain ⟨q4, h⟩ := ck_some h
  have gq4 := Gr_X8_fault hM q4
  refine G_X8_fault (pc := 5) C hM bw_4_237 q4 dX8_runOrders_5 ?_
  refine m_if_lt (tgt := 19) (pc := 8) C gq4 dX8_runOrders_8 (by decide) (fun c5 => ?_) (fun c5 => ?_)
  · have h := if_t h c5
    refine m_aload_n (pc := 19) C dX8_runOrders_19 rfl (lv_at hl 0 rfl) ?_
    obtain ⟨q6, h⟩ := ck_some h
    obtain ⟨a7, μ8, ca7, h⟩ := bd_some h
    refine V_X8_record (pc := 20) C hM ca7 q6 bw_5_55 ⟨Nat.le_of_ble_eq_true rfl, Nat.le_of_ble_eq_true rfl⟩ hl.1 rc0 ⟨Nat.le_refl _, Nat.le_refl _⟩ dX8_runOrders_20 (fun _ H locs hM => ?_)
    refine m_iconst (pc := 23) C dX8_runOrders_23 ?_
    refine m_istore_n (pc := 24) C dX8_runOrders_24 rfl hl (by decide) (lvK2 0 rfl (Nat.ne_of_beq_eq_false rfl) (vr_cat _ _) lvK0) (fun ls hl => ?_)
    refine m_iconst (pc := 25) C dX8_runOrders_25 ?_
    refine m_istore_n (pc := 26) C dX8_runOrders_26 rfl hl (by decide) (lvK2 0 rfl (Nat.ne_of_beq_eq_false rfl) rfl (lvK1 1 rfl (Nat.ne_of_beq_eq_false rfl) (Nat.ne_of_beq_eq_false rfl) lvK0)) (fun ls hl => ?_)
    exact k_X8_runOrders_b27 C N N _ _ _ _ h rk_0 rk_1 _ _ _ hM (lv_sub hl [2, 1, 0] rfl)
  · have h := if_f h c5
    refine m_bipush (pc := 11) C dX8_runOrders_11 rfl ?_
    refine m_aload_n (pc := 13) C dX8_runOrders_13 rfl (lv_at hl 0 rfl) ?_
    obtain ⟨q9, h⟩ := ck_some h
    have gq9 := Gr_X8_fault hM q9
    refine G_X8_fault (pc := 14) C hM bw_4_237 q9 dX8_runOrders_14 ?_
    obtain ⟨a10, ea10, h⟩ := nm_some h
    have ra10 : R32 a10 := by rw [ea10]; exact w32_R _
    refine m_isub (pc := 17) C dX8_runOrders_17 ea10 ?_
    cases h
    exact m_iret (pc := 18) C hM ra10 dX8_runOrders_18
theorem hd_X8_runOrders : yX8_runOrders.cls ≠ "java/lang/invoke/MethodHandle" ∧ yX8_runOrders.cls ≠ "java/lang/invoke/VarHandle" ∧ (parseMethodDescriptor yX8_runOrders.desc).map (fun d => d.parameters.length) = some 0 := by decide +kernel

theorem V_X8_runOrders {p : Program} {l : Launch} {e : Env} {R : Room} {s : State} {m : MethodId} {args : Array Value} {below : List Frame} {meth : Method} {c : Code} {H : Heap} {locs : List Loc} {cells slots : Nat} {Q : State → Prop} {cc : ByteArray} {pc nL : Nat} {ls : Array Slot} {rest : List Value} {ret : Option FieldType} {nmm own : String} {E : gE} {μ μ1 : Mm} {index : Nat} (C : gCx p s m args meth c cc nL ret nmm own) (hM : MS E μ s H locs) {N : Nat} {x0 v : Int} (hc : f_X8_runOrders N x0 μ = some (v, μ1)) (hck : μ x0 (-2) = 10) (h1 : Cond.methodLink own index yX8_runOrders ∈ bigL) (hR : 8 ≤ R.frames ∧ 189 ≤ R.locals) (hl : ls.size = nL) (hcat : RC rest 8) (hf : cells + 0 ≤ R.cells ∧ slots + 0 ≤ R.slots) (hdg : decode cc pc = .ok (.invokevirtual index, 3)) (kk : (R32 v) → ∀ (H1 : Heap) (locs1 : List Loc), MS E μ1 s H1 locs1 → W p l e R s m args below meth c H1 locs1 (cells + 0) (slots + 0) Q (F0 m (pc + 3) ls (vi v :: rest))) : W p l e R s m args below meth c H locs cells slots Q (F0 m pc ls (vr E x0 :: rest)) := g_callV C KF_X8 hM (c_X8_runOrders l E N x0 μ μ1 v hc) hck (gV h1 bw_6_45 bw_6_46 bw_1_13 bw_6_47) ⟨rfl, hd_X8_runOrders⟩ hR rfl hl rfl hcat hf hdg kk
end G15
