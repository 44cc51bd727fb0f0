section G12
variable {p : Program} {l : Launch} {e : Env} {R : Room} {s : State} {m : MethodId} {args : Array Value} {below : List Frame} {meth : Method} {c : Code} {E : gE}
/-! L_document -/
def f_L_document_b381 (N : Nat) (x4 y0 bc bs : Int) (μ : Mm) : Rs :=
  if ¬ y0 = x4 then
    (some (0, μ))
  else
  some (1, μ)
def f_L_document_b291 (N : Nat) : Nat → Int → Int → Int → Int → Int → Int → Int → Int → Mm → Rs
  | 0, _, _, _, _, _, _, _, _, _ => none
  | n + 1, x0, x1, x2, x3, x4, x5, bc, bs, μ =>
    ck (μ x0 (-2) = 9) <|
    bd (f_X7_count N x0 3 μ) fun a2 μ3 =>
    if a2 ≤ x5 then
      (if ¬ x3 = x2 then
         (some (0, μ3))
       else
       nm (w32 (x2 - 1)) fun a6 =>
       ck (μ3 x0 (-2) = 9) <|
       ck ((10 : Int) ≤ bc ∧ (2000 : Int) ≤ bs) <|
       bd (f_X7_documentAt N x0 x1 a6 μ3) fun a9 μ10 =>
       if ¬ a9 = 33 then
         (f_L_document_b381 N x4 0 (bc - 10) (bs - 2000) μ10)
       else
       f_L_document_b381 N x4 1 (bc - 10) (bs - 2000) μ10)
    else
    if ¬ x4 = 0 then
      (nm (w32 (x5 + 1)) fun a13 =>
       f_L_document_b291 N n x0 x1 x2 x3 1 a13 bc bs μ3)
    else
    ck (μ3 x0 (-2) = 9) <|
    bd (f_X7_exported N x0 x5 0 μ3) fun a15 μ16 =>
    if ¬ a15 = x1 then
      (nm (w32 (x5 + 1)) fun a18 =>
       f_L_document_b291 N n x0 x1 x2 x3 0 a18 bc bs μ16)
    else
    ck (μ16 x0 (-2) = 9) <|
    bd (f_X7_exported N x0 x5 4 μ16) fun a20 μ21 =>
    if ¬ a20 = 0 then
      (nm (w32 (x5 + 1)) fun a23 =>
       f_L_document_b291 N n x0 x1 x2 x3 0 a23 bc bs μ21)
    else
    ck (μ21 x0 (-2) = 9) <|
    bd (f_X7_exported N x0 x5 3 μ21) fun a25 μ26 =>
    ck (μ26 x0 (-2) = 9) <|
    bd (f_X7_count N x0 0 μ26) fun a28 μ29 =>
    nm (w32 (a28 + 7)) fun a30 =>
    if a30 < a25 then
      (nm (w32 (x5 + 1)) fun a32 =>
       f_L_document_b291 N n x0 x1 x2 x3 0 a32 bc bs μ29)
    else
    nm (w32 (x5 + 1)) fun a33 =>
    f_L_document_b291 N n x0 x1 x2 x3 1 a33 bc bs μ29
def f_L_document_b235 (N : Nat) (k46 : Int → Int → Int → Int → Int → Int → Int → Mm → Rs) (x0 x1 x2 x3 x4 x8 bc bs : Int) (μ : Mm) : Rs :=
  if x8 = 0 then
    (nm (w32 (x3 + 0)) fun a2 =>
     nm (w32 (x4 + 1)) fun a3 =>
     k46 x0 x1 x2 a2 a3 bc bs μ)
  else
  nm (w32 (x3 + 1)) fun a4 =>
  nm (w32 (x4 + 1)) fun a5 =>
  k46 x0 x1 x2 a4 a5 bc bs μ
def f_L_document_b220 (N : Nat) (k46 : Int → Int → Int → Int → Int → Int → Int → Mm → Rs) (x0 x1 x2 x3 x4 y0 bc bs : Int) (μ : Mm) : Rs :=
  if 3 ≤ x4 then
    (f_L_document_b235 N k46 x0 x1 x2 x3 x4 y0 bc bs μ)
  else
  if ¬ y0 = 0 then
    (f_L_document_b235 N k46 x0 x1 x2 x3 x4 y0 bc bs μ)
  else
  some (0, μ)
def f_L_document_b202 (N : Nat) (k46 : Int → Int → Int → Int → Int → Int → Int → Mm → Rs) (x0 x1 x2 x3 x4 y0 bc bs : Int) (μ : Mm) : Rs :=
  ck (μ x0 (-2) = 9) <|
  ck ((10 : Int) ≤ bc ∧ (2000 : Int) ≤ bs) <|
  bd (f_X7_documentAt N x0 x1 x3 μ) fun a3 μ4 =>
  if ¬ a3 = y0 then
    (f_L_document_b220 N k46 x0 x1 x2 x3 x4 0 (bc - 10) (bs - 2000) μ4)
  else
  f_L_document_b220 N k46 x0 x1 x2 x3 x4 1 (bc - 10) (bs - 2000) μ4
def f_L_document_b128 (N : Nat) (k46 : Int → Int → Int → Int → Int → Int → Int → Mm → Rs) : Nat → Int → Int → Int → Int → Int → Int → Int → Int → Int → Mm → Rs
  | 0, _, _, _, _, _, _, _, _, _, _ => none
  | n + 1, x0, x1, x2, x3, x4, x5, x7, bc, bs, μ =>
    if x7 ≤ 0 then
      (if ¬ x4 = 0 then
         (if ¬ x4 = 1 then
            (if ¬ x4 = 2 then
               (f_L_document_b202 N k46 x0 x1 x2 x3 x4 33 bc bs μ)
             else
             f_L_document_b202 N k46 x0 x1 x2 x3 x4 43 bc bs μ)
          else
          f_L_document_b202 N k46 x0 x1 x2 x3 x4 58 bc bs μ)
       else
       f_L_document_b202 N k46 x0 x1 x2 x3 x4 47 bc bs μ)
    else
    ck (μ x0 (-2) = 9) <|
    ck ((10 : Int) ≤ bc ∧ (2000 : Int) ≤ bs) <|
    bd (f_X7_documentAt N x0 x1 x3 μ) fun a7 μ8 =>
    ck (x7 ≠ 0) <|
    nm (w32 (Int.tdiv x5 x7)) fun a9 =>
    nm (o_rem a9 10) fun a11 =>
    nm (w32 (48 + a11)) fun a13 =>
    if a7 = a13 then
      (nm (w32 (x3 + 1)) fun a15 =>
       nm (w32 (Int.tdiv x7 10)) fun a16 =>
       f_L_document_b128 N k46 n x0 x1 x2 a15 x4 x5 a16 (bc - 10) (bs - 2000) μ8)
    else
    some (0, μ8)
def f_L_document_b104 (N : Nat) (k46 : Int → Int → Int → Int → Int → Int → Int → Mm → Rs) : Nat → Int → Int → Int → Int → Int → Int → Int → Int → Int → Mm → Rs
  | 0, _, _, _, _, _, _, _, _, _, _ => none
  | n + 1, x0, x1, x2, x3, x4, x5, x6, bc, bs, μ =>
    nm (w32 (Int.tdiv x5 10)) fun a1 =>
    if a1 < x6 then
      (f_L_document_b128 N k46 N x0 x1 x2 x3 x4 x5 x6 bc bs μ)
    else
    nm (w32 (x6 * 10)) fun a4 =>
    f_L_document_b104 N k46 n x0 x1 x2 x3 x4 x5 a4 bc bs μ
def f_L_document_b46 (N : Nat) : Nat → Int → Int → Int → Int → Int → Int → Int → Mm → Rs
  | 0, _, _, _, _, _, _, _, _ => none
  | n + 1, x0, x1, x2, x3, x4, bc, bs, μ =>
    if 4 ≤ x4 then
      (ck (μ x0 (-2) = 9) <|
       bd (f_X7_lot N x0 x1 7 μ) fun a3 μ4 =>
       if a3 ≤ 0 then
         (f_L_document_b291 N N x0 x1 x2 x3 0 0 bc bs μ4)
       else
       ck (μ4 x0 (-2) = 9) <|
       bd (f_X7_lot N x0 x1 5 μ4) fun a7 μ8 =>
       ck (μ8 x0 (-2) = 9) <|
       bd (f_X7_count N x0 0 μ8) fun a10 μ11 =>
       nm (w32 (a10 + 7)) fun a12 =>
       if a12 < a7 then
         (f_L_document_b291 N N x0 x1 x2 x3 0 0 bc bs μ11)
       else
       f_L_document_b291 N N x0 x1 x2 x3 1 0 bc bs μ11)
    else
    if ¬ x4 = 0 then
      (if ¬ x4 = 1 then
         (if ¬ x4 = 2 then
            (ck (μ x0 (-2) = 9) <|
             bd (f_X7_lot N x0 x1 12 μ) fun a18 μ19 =>
             f_L_document_b104 N (f_L_document_b46 N n) N x0 x1 x2 x3 x4 a18 1 bc bs μ19)
          else
          ck (μ x0 (-2) = 9) <|
          bd (f_X7_lot N x0 x1 7 μ) fun a21 μ22 =>
          f_L_document_b104 N (f_L_document_b46 N n) N x0 x1 x2 x3 x4 a21 1 bc bs μ22)
       else
       ck (μ x0 (-2) = 9) <|
       bd (f_X7_lot N x0 x1 0 μ) fun a24 μ25 =>
       f_L_document_b104 N (f_L_document_b46 N n) N x0 x1 x2 x3 x4 a24 1 bc bs μ25)
    else
    f_L_document_b104 N (f_L_document_b46 N n) N x0 x1 x2 x3 x4 x1 1 bc bs μ
def f_L_document (N : Nat) (x0 x1 : Int) (μ : Mm) : Rs :=
  ck (μ x0 (-2) = 9) <|
  ck ((10 : Int) ≤ 300 ∧ (2000 : Int) ≤ 60000) <|
  bd (f_X7_documentLength N x0 x1 μ) fun a3 μ4 =>
  ck (μ4 x0 (-2) = 9) <|
  ck ((10 : Int) ≤ (300 - 10) ∧ (2000 : Int) ≤ (60000 - 2000)) <|
  bd (f_X7_documentAt N x0 x1 0 μ4) fun a7 μ8 =>
  if ¬ a7 = 76 then
    (some (0, μ8))
  else
  ck (μ8 x0 (-2) = 9) <|
  ck ((10 : Int) ≤ (300 - 10 - 10) ∧ (2000 : Int) ≤ (60000 - 2000 - 2000)) <|
  bd (f_X7_documentAt N x0 x1 a3 μ8) fun a12 μ13 =>
  if ¬ a12 = ((-100000005)) then
    (some (0, μ13))
  else
  ck (μ13 x0 (-2) = 9) <|
  ck ((10 : Int) ≤ (300 - 10 - 10 - 10) ∧ (2000 : Int) ≤ (60000 - 2000 - 2000 - 2000)) <|
  bd (f_X7_documentAt N x0 x1 ((-1)) μ13) fun a17 μ18 =>
  if a17 = ((-100000002)) then
    (f_L_document_b46 N N x0 x1 a3 1 0 (300 - 10 - 10 - 10 - 10) (60000 - 2000 - 2000 - 2000 - 2000) μ18)
  else
  some (0, μ18)
set_option maxHeartbeats 4000000 in
set_option maxRecDepth 100000 in
theorem k_L_document_b381 (C : gCx p s m args meth c cL_document 9 (some .boolean) "document" RL) (N : Nat) {r : Int} {μ' : Mm} : ∀ (x4 y0 bc bs : Int) (μ : Mm), f_L_document_b381 N x4 y0 bc bs μ = some (r, μ') → R32 x4 → R32 y0 → ∀ (H : Heap) (locs : List Loc) (ls : Array Slot) (cells slots : Nat), (cells : Int) + bc ≤ 300 ∧ 0 ≤ bc ∧ (slots : Int) + bs ≤ 60000 ∧ 0 ≤ bs → MS E μ s H locs → lv_has ls 9 [(4, vi x4)] → W p l e ({ frames := 8, cells := 300, slots := 60000, locals := 181 } : Room) s m args below meth c H locs cells slots (MQ below (gQ E (some (vi r)) (R32 r) μ') args s 300 60000 (gA E)) (F0 m 381 ls [vi y0]) := by
  intro x4 y0 bc bs μ h rx4 ry0 H locs ls cells slots hb hM hl
  unfold f_L_document_b381 at h
  refine m_iload (pc := 381) C dL_document_381 (lv_at hl 0 rfl) ?_
  refine m_icmp_ne (tgt := 390) (pc := 383) C ry0 rx4 dL_document_383 (by decide) (fun c1 => ?_) (fun c1 => ?_)
  · have h := if_t h c1
    refine m_iconst (pc := 390) C dL_document_390 ?_
    cases h
    refine W.widen (k := 300) (n := 60000) (by omega) (by omega) ?_
    exact m_zret (pc := 391) C rfl hM rk_0 dL_document_391
  · have h := if_f h c1
    refine m_iconst (pc := 386) C dL_document_386 ?_
    refine m_goto (tgt := 391) (pc := 387) C dL_document_387 (by decide) ?_
    cases h
    refine W.widen (k := 300) (n := 60000) (by omega) (by omega) ?_
    exact m_zret (pc := 391) C rfl hM rk_1 dL_document_391
set_option maxHeartbeats 4000000 in
set_option maxRecDepth 100000 in
theorem k_L_document_b291 (C : gCx p s m args meth c cL_document 9 (some .boolean) "document" RL) (N : Nat) {r : Int} {μ' : Mm} : ∀ (n : Nat), ∀ (x0 x1 x2 x3 x4 x5 bc bs : Int) (μ : Mm), f_L_document_b291 N n x0 x1 x2 x3 x4 x5 bc bs μ = some (r, μ') → R32 x1 → R32 x2 → R32 x3 → R32 x4 → R32 x5 → ∀ (H : Heap) (locs : List Loc) (ls : Array Slot) (cells slots : Nat), (cells : Int) + bc ≤ 300 ∧ 0 ≤ bc ∧ (slots : Int) + bs ≤ 60000 ∧ 0 ≤ bs → MS E μ s H locs → lv_has ls 9 [(0, vr E x0), (1, vi x1), (2, vi x2), (3, vi x3), (4, vi x4), (5, vi x5)] → W p l e ({ frames := 8, cells := 300, slots := 60000, locals := 181 } : Room) s m args below meth c H locs cells slots (MQ below (gQ E (some (vi r)) (R32 r) μ') args s 300 60000 (gA E)) (F0 m 291 ls []) := by
  intro n
  induction n with
  | zero => intro x0 x1 x2 x3 x4 x5 bc bs μ h; simp [f_L_document_b291] at h
  | succ n ih =>
    intro x0 x1 x2 x3 x4 x5 bc bs μ h rx1 rx2 rx3 rx4 rx5 H locs ls cells slots hb hM hl
    rw [f_L_document_b291] at h
    refine m_iload (pc := 291) C dL_document_291 (lv_at hl 5 rfl) ?_
    refine m_aload_n (pc := 293) C dL_document_293 rfl (lv_at hl 0 rfl) ?_
    refine m_iconst (pc := 294) C dL_document_294 ?_
    obtain ⟨q1, h⟩ := ck_some h
    obtain ⟨a2, μ3, ca2, h⟩ := bd_some h
    refine V_X7_count (pc := 295) C hM ca2 rk_3 q1 bw_3_4 ⟨Nat.le_of_ble_eq_true rfl, Nat.le_of_ble_eq_true rfl⟩ hl.1 (rcI rc0) ⟨by show _ + 0 ≤ 300; omega, by show _ + 0 ≤ 60000; omega⟩ dL_document_295 (fun ra2 H locs hM => ?_)
    refine m_icmp_ge (tgt := 358) (pc := 298) C rx5 ra2 dL_document_298 (by decide) (fun c4 => ?_) (fun c4 => ?_)
    · have h := if_t h c4
      refine m_iload_n (pc := 358) C dL_document_358 rfl (lv_at hl 3 rfl) ?_
      refine m_iload_n (pc := 359) C dL_document_359 rfl (lv_at hl 2 rfl) ?_
      refine m_icmp_ne (tgt := 390) (pc := 360) C rx3 rx2 dL_document_360 (by decide) (fun c5 => ?_) (fun c5 => ?_)
      · have h := if_t h c5
        refine m_iconst (pc := 390) C dL_document_390 ?_
        cases h
        refine W.widen (k := 300) (n := 60000) (by omega) (by omega) ?_
        exact m_zret (pc := 391) C rfl hM rk_0 dL_document_391
      · have h := if_f h c5
        refine m_aload_n (pc := 363) C dL_document_363 rfl (lv_at hl 0 rfl) ?_
        refine m_iload_n (pc := 364) C dL_document_364 rfl (lv_at hl 1 rfl) ?_
        refine m_iload_n (pc := 365) C dL_document_365 rfl (lv_at hl 2 rfl) ?_
        refine m_iconst (pc := 366) C dL_document_366 ?_
        obtain ⟨a6, ea6, h⟩ := nm_some h
        have ra6 : R32 a6 := by rw [ea6]; exact w32_R _
        refine m_isub (pc := 367) C dL_document_367 ea6 ?_
        obtain ⟨q7, h⟩ := ck_some h
        obtain ⟨q8, h⟩ := ck_some h
        obtain ⟨a9, μ10, ca9, h⟩ := bd_some h
        refine V_X7_documentAt (pc := 368) C hM ca9 rx1 ra6 q7 bw_4_38 ⟨Nat.le_of_ble_eq_true rfl, Nat.le_of_ble_eq_true rfl⟩ hl.1 rc0 ⟨by show _ + 10 ≤ 300; omega, by show _ + 2000 ≤ 60000; omega⟩ dL_document_368 (fun ra9 H locs hM => ?_)
        replace hb : ((cells + 10 : Nat) : Int) + (bc - 10) ≤ 300 ∧ (0 : Int) ≤ bc - 10 ∧ ((slots + 2000 : Nat) : Int) + (bs - 2000) ≤ 60000 ∧ (0 : Int) ≤ bs - 2000 := by omega
        refine m_bipush (pc := 371) C dL_document_371 rfl ?_
        refine m_icmp_ne (tgt := 380) (pc := 373) C ra9 rk_33 dL_document_373 (by decide) (fun c11 => ?_) (fun c11 => ?_)
        · have h := if_t h c11
          refine m_iconst (pc := 380) C dL_document_380 ?_
          exact k_L_document_b381 C N _ _ _ _ _ h rx4 rk_0 _ _ _ _ _ hb hM (lv_sub hl [4] rfl)
        · have h := if_f h c11
          refine m_iconst (pc := 376) C dL_document_376 ?_
          refine m_goto (tgt := 381) (pc := 377) C dL_document_377 (by decide) ?_
          exact k_L_document_b381 C N _ _ _ _ _ h rx4 rk_1 _ _ _ _ _ hb hM (lv_sub hl [4] rfl)
    · have h := if_f h c4
      refine m_iload (pc := 301) C dL_document_301 (lv_at hl 4 rfl) ?_
      refine m_if_ne (tgt := 345) (pc := 303) C rx4 dL_document_303 (by decide) (fun c12 => ?_) (fun c12 => ?_)
      · have h := if_t h c12
        refine m_iconst (pc := 345) C dL_document_345 ?_
        refine m_goto (tgt := 350) (pc := 346) C dL_document_346 (by decide) ?_
        refine m_istore (pc := 350) C dL_document_350 hl (by decide) (lvK1 0 rfl (Nat.ne_of_beq_eq_false rfl) (Nat.ne_of_beq_eq_false rfl) (lvK1 1 rfl (Nat.ne_of_beq_eq_false rfl) (Nat.ne_of_beq_eq_false rfl) (lvK1 2 rfl (Nat.ne_of_beq_eq_false rfl) (Nat.ne_of_beq_eq_false rfl) (lvK2 3 rfl (Nat.ne_of_beq_eq_false rfl) rfl (lvK1 5 rfl (Nat.ne_of_beq_eq_false rfl) (Nat.ne_of_beq_eq_false rfl) lvK0))))) (fun ls hl => ?_)
        obtain ⟨a13, ea13, h⟩ := nm_some h
        have ra13 : R32 a13 := by rw [ea13]; exact w32_R _
        refine m_iinc (k := 5) (pc := 352) C dL_document_352 hl rfl (by decide) ea13 (lvK2 0 rfl (Nat.ne_of_beq_eq_false rfl) rfl (lvK1 1 rfl (Nat.ne_of_beq_eq_false rfl) (Nat.ne_of_beq_eq_false rfl) (lvK1 2 rfl (Nat.ne_of_beq_eq_false rfl) (Nat.ne_of_beq_eq_false rfl) (lvK1 3 rfl (Nat.ne_of_beq_eq_false rfl) (Nat.ne_of_beq_eq_false rfl) (lvK1 4 rfl (Nat.ne_of_beq_eq_false rfl) (Nat.ne_of_beq_eq_false rfl) lvK0))))) (fun ls hl => ?_)
        refine m_goto (tgt := 291) (pc := 355) C dL_document_355 (by decide) ?_
        exact ih _ _ _ _ _ _ _ _ _ h rx1 rx2 rx3 rk_1 ra13 _ _ _ _ _ hb hM (lv_sub hl [2, 3, 4, 5, 1, 0] rfl)
      · have h := if_f h c12
        refine m_aload_n (pc := 306) C dL_document_306 rfl (lv_at hl 0 rfl) ?_
        refine m_iload (pc := 307) C dL_document_307 (lv_at hl 5 rfl) ?_
        refine m_iconst (pc := 309) C dL_document_309 ?_
        obtain ⟨q14, h⟩ := ck_some h
        obtain ⟨a15, μ16, ca15, h⟩ := bd_some h
        refine V_X7_exported (pc := 310) C hM ca15 rx5 rk_0 q14 bw_2_226 ⟨Nat.le_of_ble_eq_true rfl, Nat.le_of_ble_eq_true rfl⟩ hl.1 rc0 ⟨by show _ + 0 ≤ 300; omega, by show _ + 0 ≤ 60000; omega⟩ dL_document_310 (fun ra15 H locs hM => ?_)
        refine m_iload_n (pc := 313) C dL_document_313 rfl (lv_at hl 1 rfl) ?_
        refine m_icmp_ne (tgt := 349) (pc := 314) C ra15 rx1 dL_document_314 (by decide) (fun c17 => ?_) (fun c17 => ?_)
        · have h := if_t h c17
          refine m_iconst (pc := 349) C dL_document_349 ?_
          refine m_istore (pc := 350) C dL_document_350 hl (by decide) (lvK1 0 rfl (Nat.ne_of_beq_eq_false rfl) (Nat.ne_of_beq_eq_false rfl) (lvK1 1 rfl (Nat.ne_of_beq_eq_false rfl) (Nat.ne_of_beq_eq_false rfl) (lvK1 2 rfl (Nat.ne_of_beq_eq_false rfl) (Nat.ne_of_beq_eq_false rfl) (lvK2 3 rfl (Nat.ne_of_beq_eq_false rfl) rfl (lvK1 5 rfl (Nat.ne_of_beq_eq_false rfl) (Nat.ne_of_beq_eq_false rfl) lvK0))))) (fun ls hl => ?_)
          obtain ⟨a18, ea18, h⟩ := nm_some h
          have ra18 : R32 a18 := by rw [ea18]; exact w32_R _
          refine m_iinc (k := 5) (pc := 352) C dL_document_352 hl rfl (by decide) ea18 (lvK2 0 rfl (Nat.ne_of_beq_eq_false rfl) rfl (lvK1 1 rfl (Nat.ne_of_beq_eq_false rfl) (Nat.ne_of_beq_eq_false rfl) (lvK1 2 rfl (Nat.ne_of_beq_eq_false rfl) (Nat.ne_of_beq_eq_false rfl) (lvK1 3 rfl (Nat.ne_of_beq_eq_false rfl) (Nat.ne_of_beq_eq_false rfl) (lvK1 4 rfl (Nat.ne_of_beq_eq_false rfl) (Nat.ne_of_beq_eq_false rfl) lvK0))))) (fun ls hl => ?_)
          refine m_goto (tgt := 291) (pc := 355) C dL_document_355 (by decide) ?_
          exact ih _ _ _ _ _ _ _ _ _ h rx1 rx2 rx3 rk_0 ra18 _ _ _ _ _ hb hM (lv_sub hl [2, 3, 4, 5, 1, 0] rfl)
        · have h := if_f h c17
          refine m_aload_n (pc := 317) C dL_document_317 rfl (lv_at hl 0 rfl) ?_
          refine m_iload (pc := 318) C dL_document_318 (lv_at hl 5 rfl) ?_
          refine m_iconst (pc := 320) C dL_document_320 ?_
          obtain ⟨q19, h⟩ := ck_some h
          obtain ⟨a20, μ21, ca20, h⟩ := bd_some h
          refine V_X7_exported (pc := 321) C hM ca20 rx5 rk_4 q19 bw_2_226 ⟨Nat.le_of_ble_eq_true rfl, Nat.le_of_ble_eq_true rfl⟩ hl.1 rc0 ⟨by show _ + 0 ≤ 300; omega, by show _ + 0 ≤ 60000; omega⟩ dL_document_321 (fun ra20 H locs hM => ?_)
          refine m_if_ne (tgt := 349) (pc := 324) C ra20 dL_document_324 (by decide) (fun c22 => ?_) (fun c22 => ?_)
          · have h := if_t h c22
            refine m_iconst (pc := 349) C dL_document_349 ?_
            refine m_istore (pc := 350) C dL_document_350 hl (by decide) (lvK1 0 rfl (Nat.ne_of_beq_eq_false rfl) (Nat.ne_of_beq_eq_false rfl) (lvK1 1 rfl (Nat.ne_of_beq_eq_false rfl) (Nat.ne_of_beq_eq_false rfl) (lvK1 2 rfl (Nat.ne_of_beq_eq_false rfl) (Nat.ne_of_beq_eq_false rfl) (lvK2 3 rfl (Nat.ne_of_beq_eq_false rfl) rfl (lvK1 5 rfl (Nat.ne_of_beq_eq_false rfl) (Nat.ne_of_beq_eq_false rfl) lvK0))))) (fun ls hl => ?_)
            obtain ⟨a23, ea23, h⟩ := nm_some h
            have ra23 : R32 a23 := by rw [ea23]; exact w32_R _
            refine m_iinc (k := 5) (pc := 352) C dL_document_352 hl rfl (by decide) ea23 (lvK2 0 rfl (Nat.ne_of_beq_eq_false rfl) rfl (lvK1 1 rfl (Nat.ne_of_beq_eq_false rfl) (Nat.ne_of_beq_eq_false rfl) (lvK1 2 rfl (Nat.ne_of_beq_eq_false rfl) (Nat.ne_of_beq_eq_false rfl) (lvK1 3 rfl (Nat.ne_of_beq_eq_false rfl) (Nat.ne_of_beq_eq_false rfl) (lvK1 4 rfl (Nat.ne_of_beq_eq_false rfl) (Nat.ne_of_beq_eq_false rfl) lvK0))))) (fun ls hl => ?_)
            refine m_goto (tgt := 291) (pc := 355) C dL_document_355 (by decide) ?_
            exact ih _ _ _ _ _ _ _ _ _ h rx1 rx2 rx3 rk_0 ra23 _ _ _ _ _ hb hM (lv_sub hl [2, 3, 4, 5, 1, 0] rfl)
          · have h := if_f h c22
            refine m_aload_n (pc := 327) C dL_document_327 rfl (lv_at hl 0 rfl) ?_
            refine m_iload (pc := 328) C dL_document_328 (lv_at hl 5 rfl) ?_
            refine m_iconst (pc := 330) C dL_document_330 ?_
            obtain ⟨q24, h⟩ := ck_some h
            obtain ⟨a25, μ26, ca25, h⟩ := bd_some h
            refine V_X7_exported (pc := 331) C hM ca25 rx5 rk_3 q24 bw_2_226 ⟨Nat.le_of_ble_eq_true rfl, Nat.le_of_ble_eq_true rfl⟩ hl.1 rc0 ⟨by show _ + 0 ≤ 300; omega, by show _ + 0 ≤ 60000; omega⟩ dL_document_331 (fun ra25 H locs hM => ?_)
            refine m_aload_n (pc := 334) C dL_document_334 rfl (lv_at hl 0 rfl) ?_
            refine m_iconst (pc := 335) C dL_document_335 ?_
            obtain ⟨q27, h⟩ := ck_some h
            obtain ⟨a28, μ29, ca28, h⟩ := bd_some h
            refine V_X7_count (pc := 336) C hM ca28 rk_0 q27 bw_3_4 ⟨Nat.le_of_ble_eq_true rfl, Nat.le_of_ble_eq_true rfl⟩ hl.1 (rcI rc0) ⟨by show _ + 0 ≤ 300; omega, by show _ + 0 ≤ 60000; omega⟩ dL_document_336 (fun ra28 H locs hM => ?_)
            refine m_bipush (pc := 339) C dL_document_339 rfl ?_
            obtain ⟨a30, ea30, h⟩ := nm_some h
            have ra30 : R32 a30 := by rw [ea30]; exact w32_R _
            refine m_iadd (pc := 341) C dL_document_341 ea30 ?_
            refine m_icmp_gt (tgt := 349) (pc := 342) C ra25 ra30 dL_document_342 (by decide) (fun c31 => ?_) (fun c31 => ?_)
            · have h := if_t h c31
              refine m_iconst (pc := 349) C dL_document_349 ?_
              refine m_istore (pc := 350) C dL_document_350 hl (by decide) (lvK1 0 rfl (Nat.ne_of_beq_eq_false rfl) (Nat.ne_of_beq_eq_false rfl) (lvK1 1 rfl (Nat.ne_of_beq_eq_false rfl) (Nat.ne_of_beq_eq_false rfl) (lvK1 2 rfl (Nat.ne_of_beq_eq_false rfl) (Nat.ne_of_beq_eq_false rfl) (lvK2 3 rfl (Nat.ne_of_beq_eq_false rfl) rfl (lvK1 5 rfl (Nat.ne_of_beq_eq_false rfl) (Nat.ne_of_beq_eq_false rfl) lvK0))))) (fun ls hl => ?_)
              obtain ⟨a32, ea32, h⟩ := nm_some h
              have ra32 : R32 a32 := by rw [ea32]; exact w32_R _
              refine m_iinc (k := 5) (pc := 352) C dL_document_352 hl rfl (by decide) ea32 (lvK2 0 rfl (Nat.ne_of_beq_eq_false rfl) rfl (lvK1 1 rfl (Nat.ne_of_beq_eq_false rfl) (Nat.ne_of_beq_eq_false rfl) (lvK1 2 rfl (Nat.ne_of_beq_eq_false rfl) (Nat.ne_of_beq_eq_false rfl) (lvK1 3 rfl (Nat.ne_of_beq_eq_false rfl) (Nat.ne_of_beq_eq_false rfl) (lvK1 4 rfl (Nat.ne_of_beq_eq_false rfl) (Nat.ne_of_beq_eq_false rfl) lvK0))))) (fun ls hl => ?_)
              refine m_goto (tgt := 291) (pc := 355) C dL_document_355 (by decide) ?_
              exact ih _ _ _ _ _ _ _ _ _ h rx1 rx2 rx3 rk_0 ra32 _ _ _ _ _ hb hM (lv_sub hl [2, 3, 4, 5, 1, 0] rfl)
            · have h := if_f h c31
              refine m_iconst (pc := 345) C dL_document_345 ?_
              refine m_goto (tgt := 350) (pc := 346) C dL_document_346 (by decide) ?_
              refine m_istore (pc := 350) C dL_document_350 hl (by decide) (lvK1 0 rfl (Nat.ne_of_beq_eq_false rfl) (Nat.ne_of_beq_eq_false rfl) (lvK1 1 rfl (Nat.ne_of_beq_eq_false rfl) (Nat.ne_of_beq_eq_false rfl) (lvK1 2 rfl (Nat.ne_of_beq_eq_false rfl) (Nat.ne_of_beq_eq_false rfl) (lvK2 3 rfl (Nat.ne_of_beq_eq_false rfl) rfl (lvK1 5 rfl (Nat.ne_of_beq_eq_false rfl) (Nat.ne_of_beq_eq_false rfl) lvK0))))) (fun ls hl => ?_)
              obtain ⟨a33, ea33, h⟩ := nm_some h
              have ra33 : R32 a33 := by rw [ea33]; exact w32_R _
              refine m_iinc (k := 5) (pc := 352) C dL_document_352 hl rfl (by decide) ea33 (lvK2 0 rfl (Nat.ne_of_beq_eq_false rfl) rfl (lvK1 1 rfl (Nat.ne_of_beq_eq_false rfl) (Nat.ne_of_beq_eq_false rfl) (lvK1 2 rfl (Nat.ne_of_beq_eq_false rfl) (Nat.ne_of_beq_eq_false rfl) (lvK1 3 rfl (Nat.ne_of_beq_eq_false rfl) (Nat.ne_of_beq_eq_false rfl) (lvK1 4 rfl (Nat.ne_of_beq_eq_false rfl) (Nat.ne_of_beq_eq_false rfl) lvK0))))) (fun ls hl => ?_)
              refine m_goto (tgt := 291) (pc := 355) C dL_document_355 (by decide) ?_
              exact ih _ _ _ _ _ _ _ _ _ h rx1 rx2 rx3 rk_1 ra33 _ _ _ _ _ hb hM (lv_sub hl [2, 3, 4, 5, 1, 0] rfl)
set_option maxHeartbeats 4000000 in
set_option maxRecDepth 100000 in
theorem k_L_document_b235 (C : gCx p s m args meth c cL_document 9 (some .boolean) "document" RL) (N : Nat) {r : Int} {μ' : Mm} (k46 : Int → Int → Int → Int → Int → Int → Int → Mm → Rs) (hk46 : ∀ (x0 x1 x2 x3 x4 bc bs : Int) (μ : Mm), k46 x0 x1 x2 x3 x4 bc bs μ = some (r, μ') → R32 x1 → R32 x2 → R32 x3 → R32 x4 → ∀ (H : Heap) (locs : List Loc) (ls : Array Slot) (cells slots : Nat), (cells : Int) + bc ≤ 300 ∧ 0 ≤ bc ∧ (slots : Int) + bs ≤ 60000 ∧ 0 ≤ bs → MS E μ s H locs → lv_has ls 9 [(0, vr E x0), (1, vi x1), (2, vi x2), (3, vi x3), (4, vi x4)] → W p l e ({ frames := 8, cells := 300, slots := 60000, locals := 181 } : Room) s m args below meth c H locs cells slots (MQ below (gQ E (some (vi r)) (R32 r) μ') args s 300 60000 (gA E)) (F0 m 46 ls [])) : ∀ (x0 x1 x2 x3 x4 x8 bc bs : Int) (μ : Mm), f_L_document_b235 N k46 x0 x1 x2 x3 x4 x8 bc bs μ = some (r, μ') → R32 x1 → R32 x2 → R32 x3 → R32 x4 → R32 x8 → ∀ (H : Heap) (locs : List Loc) (ls : Array Slot) (cells slots : Nat), (cells : Int) + bc ≤ 300 ∧ 0 ≤ bc ∧ (slots : Int) + bs ≤ 60000 ∧ 0 ≤ bs → MS E μ s H locs → lv_has ls 9 [(0, vr E x0), (1, vi x1), (2, vi x2), (3, vi x3), (4, vi x4), (8, vi x8)] → W p l e ({ frames := 8, cells := 300, slots := 60000, locals := 181 } : Room) s m args below meth c H locs cells slots (MQ below (gQ E (some (vi r)) (R32 r) μ') args s 300 60000 (gA E)) (F0 m 235 ls []) := by
  intro x0 x1 x2 x3 x4 x8 bc bs μ h rx1 rx2 rx3 rx4 rx8 H locs ls cells slots hb hM hl
  unfold f_L_document_b235 at h
  refine m_iload_n (pc := 235) C dL_document_235 rfl (lv_at hl 3 rfl) ?_
  refine m_iload (pc := 236) C dL_document_236 (lv_at hl 5 rfl) ?_
  refine m_if_eq (tgt := 245) (pc := 238) C rx8 dL_document_238 (by decide) (fun c1 => ?_) (fun c1 => ?_)
  · have h := if_t h c1
    refine m_iconst (pc := 245) C dL_document_245 ?_
    obtain ⟨a2, ea2, h⟩ := nm_some h
    have ra2 : R32 a2 := by rw [ea2]; exact w32_R _
    refine m_iadd (pc := 246) C dL_document_246 ea2 ?_
    refine m_istore_n (pc := 247) C dL_document_247 rfl hl (by decide) (lvK1 0 rfl (Nat.ne_of_beq_eq_false rfl) (Nat.ne_of_beq_eq_false rfl) (lvK1 1 rfl (Nat.ne_of_beq_eq_false rfl) (Nat.ne_of_beq_eq_false rfl) (lvK2 2 rfl (Nat.ne_of_beq_eq_false rfl) rfl (lvK1 4 rfl (Nat.ne_of_beq_eq_false rfl) (Nat.ne_of_beq_eq_false rfl) lvK0)))) (fun ls hl => ?_)
    obtain ⟨a3, ea3, h⟩ := nm_some h
    have ra3 : R32 a3 := by rw [ea3]; exact w32_R _
    refine m_iinc (k := 4) (pc := 248) C dL_document_248 hl rfl (by decide) ea3 (lvK2 0 rfl (Nat.ne_of_beq_eq_false rfl) rfl (lvK1 1 rfl (Nat.ne_of_beq_eq_false rfl) (Nat.ne_of_beq_eq_false rfl) (lvK1 2 rfl (Nat.ne_of_beq_eq_false rfl) (Nat.ne_of_beq_eq_false rfl) (lvK1 3 rfl (Nat.ne_of_beq_eq_false rfl) (Nat.ne_of_beq_eq_false rfl) lvK0)))) (fun ls hl => ?_)
    refine m_goto (tgt := 46) (pc := 251) C dL_document_251 (by decide) ?_
    exact hk46 _ _ _ _ _ _ _ _ h rx1 rx2 ra2 ra3 _ _ _ _ _ hb hM (lv_sub hl [2, 3, 4, 1, 0] rfl)
  · have h := if_f h c1
    refine m_iconst (pc := 241) C dL_document_241 ?_
    refine m_goto (tgt := 246) (pc := 242) C dL_document_242 (by decide) ?_
    obtain ⟨a4, ea4, h⟩ := nm_some h
    have ra4 : R32 a4 := by rw [ea4]; exact w32_R _
    refine m_iadd (pc := 246) C dL_document_246 ea4 ?_
    refine m_istore_n (pc := 247) C dL_document_247 rfl hl (by decide) (lvK1 0 rfl (Nat.ne_of_beq_eq_false rfl) (Nat.ne_of_beq_eq_false rfl) (lvK1 1 rfl (Nat.ne_of_beq_eq_false rfl) (Nat.ne_of_beq_eq_false rfl) (lvK2 2 rfl (Nat.ne_of_beq_eq_false rfl) rfl (lvK1 4 rfl (Nat.ne_of_beq_eq_false rfl) (Nat.ne_of_beq_eq_false rfl) lvK0)))) (fun ls hl => ?_)
    obtain ⟨a5, ea5, h⟩ := nm_some h
    have ra5 : R32 a5 := by rw [ea5]; exact w32_R _
    refine m_iinc (k := 4) (pc := 248) C dL_document_248 hl rfl (by decide) ea5 (lvK2 0 rfl (Nat.ne_of_beq_eq_false rfl) rfl (lvK1 1 rfl (Nat.ne_of_beq_eq_false rfl) (Nat.ne_of_beq_eq_false rfl) (lvK1 2 rfl (Nat.ne_of_beq_eq_false rfl) (Nat.ne_of_beq_eq_false rfl) (lvK1 3 rfl (Nat.ne_of_beq_eq_false rfl) (Nat.ne_of_beq_eq_false rfl) lvK0)))) (fun ls hl => ?_)
    refine m_goto (tgt := 46) (pc := 251) C dL_document_251 (by decide) ?_
    exact hk46 _ _ _ _ _ _ _ _ h rx1 rx2 ra4 ra5 _ _ _ _ _ hb hM (lv_sub hl [2, 3, 4, 1, 0] rfl)
set_option maxHeartbeats 4000000 in
set_option maxRecDepth 100000 in
theorem k_L_document_b220 (C : gCx p s m args meth c cL_document 9 (some .boolean) "document" RL) (N : Nat) {r : Int} {μ' : Mm} (k46 : Int → Int → Int → Int → Int → Int → Int → Mm → Rs) (hk46 : ∀ (x0 x1 x2 x3 x4 bc bs : Int) (μ : Mm), k46 x0 x1 x2 x3 x4 bc bs μ = some (r, μ') → R32 x1 → R32 x2 → R32 x3 → R32 x4 → ∀ (H : Heap) (locs : List Loc) (ls : Array Slot) (cells slots : Nat), (cells : Int) + bc ≤ 300 ∧ 0 ≤ bc ∧ (slots : Int) + bs ≤ 60000 ∧ 0 ≤ bs → MS E μ s H locs → lv_has ls 9 [(0, vr E x0), (1, vi x1), (2, vi x2), (3, vi x3), (4, vi x4)] → W p l e ({ frames := 8, cells := 300, slots := 60000, locals := 181 } : Room) s m args below meth c H locs cells slots (MQ below (gQ E (some (vi r)) (R32 r) μ') args s 300 60000 (gA E)) (F0 m 46 ls [])) : ∀ (x0 x1 x2 x3 x4 y0 bc bs : Int) (μ : Mm), f_L_document_b220 N k46 x0 x1 x2 x3 x4 y0 bc bs μ = some (r, μ') → R32 x1 → R32 x2 → R32 x3 → R32 x4 → R32 y0 → ∀ (H : Heap) (locs : List Loc) (ls : Array Slot) (cells slots : Nat), (cells : Int) + bc ≤ 300 ∧ 0 ≤ bc ∧ (slots : Int) + bs ≤ 60000 ∧ 0 ≤ bs → MS E μ s H locs → lv_has ls 9 [(0, vr E x0), (1, vi x1), (2, vi x2), (3, vi x3), (4, vi x4)] → W p l e ({ frames := 8, cells := 300, slots := 60000, locals := 181 } : Room) s m args below meth c H locs cells slots (MQ below (gQ E (some (vi r)) (R32 r) μ') args s 300 60000 (gA E)) (F0 m 220 ls [vi y0]) := by
  intro x0 x1 x2 x3 x4 y0 bc bs μ h rx1 rx2 rx3 rx4 ry0 H locs ls cells slots hb hM hl
  unfold f_L_document_b220 at h
  refine m_istore (pc := 220) C dL_document_220 hl (by decide) (lvK1 0 rfl (Nat.ne_of_beq_eq_false rfl) (Nat.ne_of_beq_eq_false rfl) (lvK1 1 rfl (Nat.ne_of_beq_eq_false rfl) (Nat.ne_of_beq_eq_false rfl) (lvK1 2 rfl (Nat.ne_of_beq_eq_false rfl) (Nat.ne_of_beq_eq_false rfl) (lvK1 3 rfl (Nat.ne_of_beq_eq_false rfl) (Nat.ne_of_beq_eq_false rfl) (lvK1 4 rfl (Nat.ne_of_beq_eq_false rfl) (Nat.ne_of_beq_eq_false rfl) lvK0))))) (fun ls hl => ?_)
  refine m_iload (pc := 222) C dL_document_222 (lv_at hl 5 rfl) ?_
  refine m_iconst (pc := 224) C dL_document_224 ?_
  refine m_icmp_ge (tgt := 235) (pc := 225) C rx4 rk_3 dL_document_225 (by decide) (fun c1 => ?_) (fun c1 => ?_)
  · have h := if_t h c1
    exact k_L_document_b235 C N _ hk46 _ _ _ _ _ _ _ _ _ h rx1 rx2 rx3 rx4 ry0 _ _ _ _ _ hb hM (lv_sub hl [1, 2, 3, 4, 5, 0] rfl)
  · have h := if_f h c1
    refine m_iload (pc := 228) C dL_document_228 (lv_at hl 0 rfl) ?_
    refine m_if_ne (tgt := 235) (pc := 230) C ry0 dL_document_230 (by decide) (fun c2 => ?_) (fun c2 => ?_)
    · have h := if_t h c2
      exact k_L_document_b235 C N _ hk46 _ _ _ _ _ _ _ _ _ h rx1 rx2 rx3 rx4 ry0 _ _ _ _ _ hb hM (lv_sub hl [1, 2, 3, 4, 5, 0] rfl)
    · have h := if_f h c2
      refine m_iconst (pc := 233) C dL_document_233 ?_
      cases h
      refine W.widen (k := 300) (n := 60000) (by omega) (by omega) ?_
      exact m_zret (pc := 234) C rfl hM rk_0 dL_document_234
set_option maxHeartbeats 4000000 in
set_option maxRecDepth 100000 in
theorem k_L_document_b202 (C : gCx p s m args meth c cL_document 9 (some .boolean) "document" RL) (N : Nat) {r : Int} {μ' : Mm} (k46 : Int → Int → Int → Int → Int → Int → Int → Mm → Rs) (hk46 : ∀ (x0 x1 x2 x3 x4 bc bs : Int) (μ : Mm), k46 x0 x1 x2 x3 x4 bc bs μ = some (r, μ') → R32 x1 → R32 x2 → R32 x3 → R32 x4 → ∀ (H : Heap) (locs : List Loc) (ls : Array Slot) (cells slots : Nat), (cells : Int) + bc ≤ 300 ∧ 0 ≤ bc ∧ (slots : Int) + bs ≤ 60000 ∧ 0 ≤ bs → MS E μ s H locs → lv_has ls 9 [(0, vr E x0), (1, vi x1), (2, vi x2), (3, vi x3), (4, vi x4)] → W p l e ({ frames := 8, cells := 300, slots := 60000, locals := 181 } : Room) s m args below meth c H locs cells slots (MQ below (gQ E (some (vi r)) (R32 r) μ') args s 300 60000 (gA E)) (F0 m 46 ls [])) : ∀ (x0 x1 x2 x3 x4 y0 bc bs : Int) (μ : Mm), f_L_document_b202 N k46 x0 x1 x2 x3 x4 y0 bc bs μ = some (r, μ') → R32 x1 → R32 x2 → R32 x3 → R32 x4 → R32 y0 → ∀ (H : Heap) (locs : List Loc) (ls : Array Slot) (cells slots : Nat), (cells : Int) + bc ≤ 300 ∧ 0 ≤ bc ∧ (slots : Int) + bs ≤ 60000 ∧ 0 ≤ bs → MS E μ s H locs → lv_has ls 9 [(0, vr E x0), (1, vi x1), (2, vi x2), (3, vi x3), (4, vi x4)] → W p l e ({ frames := 8, cells := 300, slots := 60000, locals := 181 } : Room) s m args below meth c H locs cells slots (MQ below (gQ E (some (vi r)) (R32 r) μ') args s 300 60000 (gA E)) (F0 m 202 ls [vi y0]) := by
  intro x0 x1 x2 x3 x4 y0 bc bs μ h rx1 rx2 rx3 rx4 ry0 H locs ls cells slots hb hM hl
  unfold f_L_document_b202 at h
  refine m_istore (pc := 202) C dL_document_202 hl (by decide) (lvK1 0 rfl (Nat.ne_of_beq_eq_false rfl) (Nat.ne_of_beq_eq_false rfl) (lvK1 1 rfl (Nat.ne_of_beq_eq_false rfl) (Nat.ne_of_beq_eq_false rfl) (lvK1 2 rfl (Nat.ne_of_beq_eq_false rfl) (Nat.ne_of_beq_eq_false rfl) (lvK1 3 rfl (Nat.ne_of_beq_eq_false rfl) (Nat.ne_of_beq_eq_false rfl) (lvK1 4 rfl (Nat.ne_of_beq_eq_false rfl) (Nat.ne_of_beq_eq_false rfl) lvK0))))) (fun ls hl => ?_)
  refine m_aload_n (pc := 204) C dL_document_204 rfl (lv_at hl 1 rfl) ?_
  refine m_iload_n (pc := 205) C dL_document_205 rfl (lv_at hl 2 rfl) ?_
  refine m_iload_n (pc := 206) C dL_document_206 rfl (lv_at hl 4 rfl) ?_
  obtain ⟨q1, h⟩ := ck_some h
  obtain ⟨q2, h⟩ := ck_some h
  obtain ⟨a3, μ4, ca3, h⟩ := bd_some h
  refine V_X7_documentAt (pc := 207) C hM ca3 rx1 rx3 q1 bw_4_38 ⟨Nat.le_of_ble_eq_true rfl, Nat.le_of_ble_eq_true rfl⟩ hl.1 rc0 ⟨by show _ + 10 ≤ 300; omega, by show _ + 2000 ≤ 60000; omega⟩ dL_document_207 (fun ra3 H locs hM => ?_)
  replace hb : ((cells + 10 : Nat) : Int) + (bc - 10) ≤ 300 ∧ (0 : Int) ≤ bc - 10 ∧ ((slots + 2000 : Nat) : Int) + (bs - 2000) ≤ 60000 ∧ (0 : Int) ≤ bs - 2000 := by omega
  refine m_iload (pc := 210) C dL_document_210 (lv_at hl 0 rfl) ?_
  refine m_icmp_ne (tgt := 219) (pc := 212) C ra3 ry0 dL_document_212 (by decide) (fun c5 => ?_) (fun c5 => ?_)
  · have h := if_t h c5
    refine m_iconst (pc := 219) C dL_document_219 ?_
    exact k_L_document_b220 C N _ hk46 _ _ _ _ _ _ _ _ _ h rx1 rx2 rx3 rx4 rk_0 _ _ _ _ _ hb hM (lv_sub hl [1, 2, 3, 4, 5] rfl)
  · have h := if_f h c5
    refine m_iconst (pc := 215) C dL_document_215 ?_
    refine m_goto (tgt := 220) (pc := 216) C dL_document_216 (by decide) ?_
    exact k_L_document_b220 C N _ hk46 _ _ _ _ _ _ _ _ _ h rx1 rx2 rx3 rx4 rk_1 _ _ _ _ _ hb hM (lv_sub hl [1, 2, 3, 4, 5] rfl)
set_option maxHeartbeats 4000000 in
set_option maxRecDepth 100000 in
theorem k_L_document_b128 (C : gCx p s m args meth c cL_document 9 (some .boolean) "document" RL) (N : Nat) {r : Int} {μ' : Mm} (k46 : Int → Int → Int → Int → Int → Int → Int → Mm → Rs) (hk46 : ∀ (x0 x1 x2 x3 x4 bc bs : Int) (μ : Mm), k46 x0 x1 x2 x3 x4 bc bs μ = some (r, μ') → R32 x1 → R32 x2 → R32 x3 → R32 x4 → ∀ (H : Heap) (locs : List Loc) (ls : Array Slot) (cells slots : Nat), (cells : Int) + bc ≤ 300 ∧ 0 ≤ bc ∧ (slots : Int) + bs ≤ 60000 ∧ 0 ≤ bs → MS E μ s H locs → lv_has ls 9 [(0, vr E x0), (1, vi x1), (2, vi x2), (3, vi x3), (4, vi x4)] → W p l e ({ frames := 8, cells := 300, slots := 60000, locals := 181 } : Room) s m args below meth c H locs cells slots (MQ below (gQ E (some (vi r)) (R32 r) μ') args s 300 60000 (gA E)) (F0 m 46 ls [])) : ∀ (n : Nat), ∀ (x0 x1 x2 x3 x4 x5 x7 bc bs : Int) (μ : Mm), f_L_document_b128 N k46 n x0 x1 x2 x3 x4 x5 x7 bc bs μ = some (r, μ') → R32 x1 → R32 x2 → R32 x3 → R32 x4 → R32 x5 → R32 x7 → ∀ (H : Heap) (locs : List Loc) (ls : Array Slot) (cells slots : Nat), (cells : Int) + bc ≤ 300 ∧ 0 ≤ bc ∧ (slots : Int) + bs ≤ 60000 ∧ 0 ≤ bs → MS E μ s H locs → lv_has ls 9 [(0, vr E x0), (1, vi x1), (2, vi x2), (3, vi x3), (4, vi x4), (5, vi x5), (7, vi x7)] → W p l e ({ frames := 8, cells := 300, slots := 60000, locals := 181 } : Room) s m args below meth c H locs cells slots (MQ below (gQ E (some (vi r)) (R32 r) μ') args s 300 60000 (gA E)) (F0 m 128 ls []) := by
  intro n
  induction n with
  | zero => intro x0 x1 x2 x3 x4 x5 x7 bc bs μ h; simp [f_L_document_b128] at h
  | succ n ih =>
    intro x0 x1 x2 x3 x4 x5 x7 bc bs μ h rx1 rx2 rx3 rx4 rx5 rx7 H locs ls cells slots hb hM hl
    rw [f_L_document_b128] at h
    refine m_iload (pc := 128) C dL_document_128 (lv_at hl 6 rfl) ?_
    refine m_if_le (tgt := 168) (pc := 130) C rx7 dL_document_130 (by decide) (fun c1 => ?_) (fun c1 => ?_)
    · have h := if_t h c1
      refine m_iload (pc := 168) C dL_document_168 (lv_at hl 4 rfl) ?_
      refine m_if_ne (tgt := 178) (pc := 170) C rx4 dL_document_170 (by decide) (fun c2 => ?_) (fun c2 => ?_)
      · have h := if_t h c2
        refine m_iload (pc := 178) C dL_document_178 (lv_at hl 4 rfl) ?_
        refine m_iconst (pc := 180) C dL_document_180 ?_
        refine m_icmp_ne (tgt := 189) (pc := 181) C rx4 rk_1 dL_document_181 (by decide) (fun c3 => ?_) (fun c3 => ?_)
        · have h := if_t h c3
          refine m_iload (pc := 189) C dL_document_189 (lv_at hl 4 rfl) ?_
          refine m_iconst (pc := 191) C dL_document_191 ?_
          refine m_icmp_ne (tgt := 200) (pc := 192) C rx4 rk_2 dL_document_192 (by decide) (fun c4 => ?_) (fun c4 => ?_)
          · have h := if_t h c4
            refine m_bipush (pc := 200) C dL_document_200 rfl ?_
            exact k_L_document_b202 C N _ hk46 _ _ _ _ _ _ _ _ _ h rx1 rx2 rx3 rx4 rk_33 _ _ _ _ _ hb hM (lv_sub hl [0, 1, 2, 3, 4] rfl)
          · have h := if_f h c4
            refine m_bipush (pc := 195) C dL_document_195 rfl ?_
            refine m_goto (tgt := 202) (pc := 197) C dL_document_197 (by decide) ?_
            exact k_L_document_b202 C N _ hk46 _ _ _ _ _ _ _ _ _ h rx1 rx2 rx3 rx4 rk_43 _ _ _ _ _ hb hM (lv_sub hl [0, 1, 2, 3, 4] rfl)
        · have h := if_f h c3
          refine m_bipush (pc := 184) C dL_document_184 rfl ?_
          refine m_goto (tgt := 202) (pc := 186) C dL_document_186 (by decide) ?_
          exact k_L_document_b202 C N _ hk46 _ _ _ _ _ _ _ _ _ h rx1 rx2 rx3 rx4 rk_58 _ _ _ _ _ hb hM (lv_sub hl [0, 1, 2, 3, 4] rfl)
      · have h := if_f h c2
        refine m_bipush (pc := 173) C dL_document_173 rfl ?_
        refine m_goto (tgt := 202) (pc := 175) C dL_document_175 (by decide) ?_
        exact k_L_document_b202 C N _ hk46 _ _ _ _ _ _ _ _ _ h rx1 rx2 rx3 rx4 rk_47 _ _ _ _ _ hb hM (lv_sub hl [0, 1, 2, 3, 4] rfl)
    · have h := if_f h c1
      refine m_aload_n (pc := 133) C dL_document_133 rfl (lv_at hl 0 rfl) ?_
      refine m_iload_n (pc := 134) C dL_document_134 rfl (lv_at hl 1 rfl) ?_
      refine m_iload_n (pc := 135) C dL_document_135 rfl (lv_at hl 3 rfl) ?_
      obtain ⟨q5, h⟩ := ck_some h
      obtain ⟨q6, h⟩ := ck_some h
      obtain ⟨a7, μ8, ca7, h⟩ := bd_some h
      refine V_X7_documentAt (pc := 136) C hM ca7 rx1 rx3 q5 bw_4_38 ⟨Nat.le_of_ble_eq_true rfl, Nat.le_of_ble_eq_true rfl⟩ hl.1 rc0 ⟨by show _ + 10 ≤ 300; omega, by show _ + 2000 ≤ 60000; omega⟩ dL_document_136 (fun ra7 H locs hM => ?_)
      replace hb : ((cells + 10 : Nat) : Int) + (bc - 10) ≤ 300 ∧ (0 : Int) ≤ bc - 10 ∧ ((slots + 2000 : Nat) : Int) + (bs - 2000) ≤ 60000 ∧ (0 : Int) ≤ bs - 2000 := by omega
      refine m_bipush (pc := 139) C dL_document_139 rfl ?_
      refine m_iload (pc := 141) C dL_document_141 (lv_at hl 5 rfl) ?_
      refine m_iload (pc := 143) C dL_document_143 (lv_at hl 6 rfl) ?_
      obtain ⟨q10, h⟩ := ck_some h
      obtain ⟨a9, ea9, h⟩ := nm_some h
      have ra9 : R32 a9 := by rw [ea9]; exact w32_R _
      refine m_idiv (pc := 145) C rx5 rx7 q10 dL_document_145 ea9 ?_
      refine m_bipush (pc := 146) C dL_document_146 rfl ?_
      obtain ⟨a11, ea11, h⟩ := nm_some h
      have ra11 : R32 a11 := by rw [ea11]; exact R32_of _
      refine m_irem (pc := 148) C rk_10 (by decide) dL_document_148 ea11 ?_
      obtain ⟨a13, ea13, h⟩ := nm_some h
      have ra13 : R32 a13 := by rw [ea13]; exact w32_R _
      refine m_iadd (pc := 149) C dL_document_149 ea13 ?_
      refine m_icmp_eq (tgt := 155) (pc := 150) C ra7 ra13 dL_document_150 (by decide) (fun c14 => ?_) (fun c14 => ?_)
      · have h := if_t h c14
        obtain ⟨a15, ea15, h⟩ := nm_some h
        have ra15 : R32 a15 := by rw [ea15]; exact w32_R _
        refine m_iinc (k := 3) (pc := 155) C dL_document_155 hl rfl (by decide) ea15 (lvK1 0 rfl (Nat.ne_of_beq_eq_false rfl) (Nat.ne_of_beq_eq_false rfl) (lvK1 1 rfl (Nat.ne_of_beq_eq_false rfl) (Nat.ne_of_beq_eq_false rfl) (lvK2 2 rfl (Nat.ne_of_beq_eq_false rfl) rfl (lvK1 4 rfl (Nat.ne_of_beq_eq_false rfl) (Nat.ne_of_beq_eq_false rfl) (lvK1 5 rfl (Nat.ne_of_beq_eq_false rfl) (Nat.ne_of_beq_eq_false rfl) (lvK1 6 rfl (Nat.ne_of_beq_eq_false rfl) (Nat.ne_of_beq_eq_false rfl) lvK0)))))) (fun ls hl => ?_)
        refine m_iload (pc := 158) C dL_document_158 (lv_at hl 6 rfl) ?_
        refine m_bipush (pc := 160) C dL_document_160 rfl ?_
        obtain ⟨a16, ea16, h⟩ := nm_some h
        have ra16 : R32 a16 := by rw [ea16]; exact w32_R _
        refine m_idiv (pc := 162) C rx7 rk_10 (by decide) dL_document_162 ea16 ?_
        refine m_istore (pc := 163) C dL_document_163 hl (by decide) (lvK1 0 rfl (Nat.ne_of_beq_eq_false rfl) (Nat.ne_of_beq_eq_false rfl) (lvK1 1 rfl (Nat.ne_of_beq_eq_false rfl) (Nat.ne_of_beq_eq_false rfl) (lvK1 2 rfl (Nat.ne_of_beq_eq_false rfl) (Nat.ne_of_beq_eq_false rfl) (lvK1 3 rfl (Nat.ne_of_beq_eq_false rfl) (Nat.ne_of_beq_eq_false rfl) (lvK1 4 rfl (Nat.ne_of_beq_eq_false rfl) (Nat.ne_of_beq_eq_false rfl) (lvK1 5 rfl (Nat.ne_of_beq_eq_false rfl) (Nat.ne_of_beq_eq_false rfl) lvK0)))))) (fun ls hl => ?_)
        refine m_goto (tgt := 128) (pc := 165) C dL_document_165 (by decide) ?_
        exact ih _ _ _ _ _ _ _ _ _ _ h rx1 rx2 ra15 rx4 rx5 ra16 _ _ _ _ _ hb hM (lv_sub hl [2, 3, 4, 1, 5, 6, 0] rfl)
      · have h := if_f h c14
        refine m_iconst (pc := 153) C dL_document_153 ?_
        cases h
        refine W.widen (k := 300) (n := 60000) (by omega) (by omega) ?_
        exact m_zret (pc := 154) C rfl hM rk_0 dL_document_154
set_option maxHeartbeats 4000000 in
set_option maxRecDepth 100000 in
theorem k_L_document_b104 (C : gCx p s m args meth c cL_document 9 (some .boolean) "document" RL) (N : Nat) {r : Int} {μ' : Mm} (k46 : Int → Int → Int → Int → Int → Int → Int → Mm → Rs) (hk46 : ∀ (x0 x1 x2 x3 x4 bc bs : Int) (μ : Mm), k46 x0 x1 x2 x3 x4 bc bs μ = some (r, μ') → R32 x1 → R32 x2 → R32 x3 → R32 x4 → ∀ (H : Heap) (locs : List Loc) (ls : Array Slot) (cells slots : Nat), (cells : Int) + bc ≤ 300 ∧ 0 ≤ bc ∧ (slots : Int) + bs ≤ 60000 ∧ 0 ≤ bs → MS E μ s H locs → lv_has ls 9 [(0, vr E x0), (1, vi x1), (2, vi x2), (3, vi x3), (4, vi x4)] → W p l e ({ frames := 8, cells := 300, slots := 60000, locals := 181 } : Room) s m args below meth c H locs cells slots (MQ below (gQ E (some (vi r)) (R32 r) μ') args s 300 60000 (gA E)) (F0 m 46 ls [])) : ∀ (n : Nat), ∀ (x0 x1 x2 x3 x4 x5 x6 bc bs : Int) (μ : Mm), f_L_document_b104 N k46 n x0 x1 x2 x3 x4 x5 x6 bc bs μ = some (r, μ') → R32 x1 → R32 x2 → R32 x3 → R32 x4 → R32 x5 → R32 x6 → ∀ (H : Heap) (locs : List Loc) (ls : Array Slot) (cells slots : Nat), (cells : Int) + bc ≤ 300 ∧ 0 ≤ bc ∧ (slots : Int) + bs ≤ 60000 ∧ 0 ≤ bs → MS E μ s H locs → lv_has ls 9 [(0, vr E x0), (1, vi x1), (2, vi x2), (3, vi x3), (4, vi x4), (5, vi x5), (6, vi x6)] → W p l e ({ frames := 8, cells := 300, slots := 60000, locals := 181 } : Room) s m args below meth c H locs cells slots (MQ below (gQ E (some (vi r)) (R32 r) μ') args s 300 60000 (gA E)) (F0 m 104 ls []) := by
  intro n
  induction n with
  | zero => intro x0 x1 x2 x3 x4 x5 x6 bc bs μ h; simp [f_L_document_b104] at h
  | succ n ih =>
    intro x0 x1 x2 x3 x4 x5 x6 bc bs μ h rx1 rx2 rx3 rx4 rx5 rx6 H locs ls cells slots hb hM hl
    rw [f_L_document_b104] at h
    refine m_iload (pc := 104) C dL_document_104 (lv_at hl 6 rfl) ?_
    refine m_iload (pc := 106) C dL_document_106 (lv_at hl 5 rfl) ?_
    refine m_bipush (pc := 108) C dL_document_108 rfl ?_
    obtain ⟨a1, ea1, h⟩ := nm_some h
    have ra1 : R32 a1 := by rw [ea1]; exact w32_R _
    refine m_idiv (pc := 110) C rx5 rk_10 (by decide) dL_document_110 ea1 ?_
    refine m_icmp_gt (tgt := 124) (pc := 111) C rx6 ra1 dL_document_111 (by decide) (fun c3 => ?_) (fun c3 => ?_)
    · have h := if_t h c3
      refine m_iload (pc := 124) C dL_document_124 (lv_at hl 6 rfl) ?_
      refine m_istore (pc := 126) C dL_document_126 hl (by decide) (lvK1 0 rfl (Nat.ne_of_beq_eq_false rfl) (Nat.ne_of_beq_eq_false rfl) (lvK1 1 rfl (Nat.ne_of_beq_eq_false rfl) (Nat.ne_of_beq_eq_false rfl) (lvK1 2 rfl (Nat.ne_of_beq_eq_false rfl) (Nat.ne_of_beq_eq_false rfl) (lvK1 3 rfl (Nat.ne_of_beq_eq_false rfl) (Nat.ne_of_beq_eq_false rfl) (lvK1 4 rfl (Nat.ne_of_beq_eq_false rfl) (Nat.ne_of_beq_eq_false rfl) (lvK1 5 rfl (Nat.ne_of_beq_eq_false rfl) (Nat.ne_of_beq_eq_false rfl) lvK0)))))) (fun ls hl => ?_)
      exact k_L_document_b128 C N _ hk46 N _ _ _ _ _ _ _ _ _ _ h rx1 rx2 rx3 rx4 rx5 rx6 _ _ _ _ _ hb hM (lv_sub hl [1, 2, 3, 4, 5, 6, 0] rfl)
    · have h := if_f h c3
      refine m_iload (pc := 114) C dL_document_114 (lv_at hl 6 rfl) ?_
      refine m_bipush (pc := 116) C dL_document_116 rfl ?_
      obtain ⟨a4, ea4, h⟩ := nm_some h
      have ra4 : R32 a4 := by rw [ea4]; exact w32_R _
      refine m_imul (pc := 118) C dL_document_118 ea4 ?_
      refine m_istore (pc := 119) C dL_document_119 hl (by decide) (lvK1 0 rfl (Nat.ne_of_beq_eq_false rfl) (Nat.ne_of_beq_eq_false rfl) (lvK1 1 rfl (Nat.ne_of_beq_eq_false rfl) (Nat.ne_of_beq_eq_false rfl) (lvK1 2 rfl (Nat.ne_of_beq_eq_false rfl) (Nat.ne_of_beq_eq_false rfl) (lvK1 3 rfl (Nat.ne_of_beq_eq_false rfl) (Nat.ne_of_beq_eq_false rfl) (lvK1 4 rfl (Nat.ne_of_beq_eq_false rfl) (Nat.ne_of_beq_eq_false rfl) (lvK2 5 rfl (Nat.ne_of_beq_eq_false rfl) rfl lvK0)))))) (fun ls hl => ?_)
      refine m_goto (tgt := 104) (pc := 121) C dL_document_121 (by decide) ?_
      exact ih _ _ _ _ _ _ _ _ _ _ h rx1 rx2 rx3 rx4 rx5 ra4 _ _ _ _ _ hb hM (lv_sub hl [1, 2, 3, 4, 5, 6, 0] rfl)
set_option maxHeartbeats 4000000 in
set_option maxRecDepth 100000 in
theorem k_L_document_b46 (C : gCx p s m args meth c cL_document 9 (some .boolean) "document" RL) (N : Nat) {r : Int} {μ' : Mm} : ∀ (n : Nat), ∀ (x0 x1 x2 x3 x4 bc bs : Int) (μ : Mm), f_L_document_b46 N n x0 x1 x2 x3 x4 bc bs μ = some (r, μ') → R32 x1 → R32 x2 → R32 x3 → R32 x4 → ∀ (H : Heap) (locs : List Loc) (ls : Array Slot) (cells slots : Nat), (cells : Int) + bc ≤ 300 ∧ 0 ≤ bc ∧ (slots : Int) + bs ≤ 60000 ∧ 0 ≤ bs → MS E μ s H locs → lv_has ls 9 [(0, vr E x0), (1, vi x1), (2, vi x2), (3, vi x3), (4, vi x4)] → W p l e ({ frames := 8, cells := 300, slots := 60000, locals := 181 } : Room) s m args below meth c H locs cells slots (MQ below (gQ E (some (vi r)) (R32 r) μ') args s 300 60000 (gA E)) (F0 m 46 ls []) := by
  intro n
  induction n with
  | zero => intro x0 x1 x2 x3 x4 bc bs μ h; simp [f_L_document_b46] at h
  | succ n ih =>
    intro x0 x1 x2 x3 x4 bc bs μ h rx1 rx2 rx3 rx4 H locs ls cells slots hb hM hl
    rw [f_L_document_b46] at h
    refine m_iload (pc := 46) C dL_document_46 (lv_at hl 4 rfl) ?_
    refine m_iconst (pc := 48) C dL_document_48 ?_
    refine m_icmp_ge (tgt := 254) (pc := 49) C rx4 rk_4 dL_document_49 (by decide) (fun c1 => ?_) (fun c1 => ?_)
    · have h := if_t h c1
      refine m_aload_n (pc := 254) C dL_document_254 rfl (lv_at hl 0 rfl) ?_
      refine m_iload_n (pc := 255) C dL_document_255 rfl (lv_at hl 1 rfl) ?_
      refine m_bipush (pc := 256) C dL_document_256 rfl ?_
      obtain ⟨q2, h⟩ := ck_some h
      obtain ⟨a3, μ4, ca3, h⟩ := bd_some h
      refine V_X7_lot (pc := 258) C hM ca3 rx1 rk_7 q2 bw_3_54 ⟨Nat.le_of_ble_eq_true rfl, Nat.le_of_ble_eq_true rfl⟩ hl.1 rc0 ⟨by show _ + 0 ≤ 300; omega, by show _ + 0 ≤ 60000; omega⟩ dL_document_258 (fun ra3 H locs hM => ?_)
      refine m_if_le (tgt := 285) (pc := 261) C ra3 dL_document_261 (by decide) (fun c5 => ?_) (fun c5 => ?_)
      · have h := if_t h c5
        refine m_iconst (pc := 285) C dL_document_285 ?_
        refine m_istore (pc := 286) C dL_document_286 hl (by decide) (lvK1 0 rfl (Nat.ne_of_beq_eq_false rfl) (Nat.ne_of_beq_eq_false rfl) (lvK1 1 rfl (Nat.ne_of_beq_eq_false rfl) (Nat.ne_of_beq_eq_false rfl) (lvK1 2 rfl (Nat.ne_of_beq_eq_false rfl) (Nat.ne_of_beq_eq_false rfl) (lvK2 3 rfl (Nat.ne_of_beq_eq_false rfl) rfl lvK0)))) (fun ls hl => ?_)
        refine m_iconst (pc := 288) C dL_document_288 ?_
        refine m_istore (pc := 289) C dL_document_289 hl (by decide) (lvK2 0 rfl (Nat.ne_of_beq_eq_false rfl) rfl (lvK1 1 rfl (Nat.ne_of_beq_eq_false rfl) (Nat.ne_of_beq_eq_false rfl) (lvK1 2 rfl (Nat.ne_of_beq_eq_false rfl) (Nat.ne_of_beq_eq_false rfl) (lvK1 3 rfl (Nat.ne_of_beq_eq_false rfl) (Nat.ne_of_beq_eq_false rfl) (lvK1 4 rfl (Nat.ne_of_beq_eq_false rfl) (Nat.ne_of_beq_eq_false rfl) lvK0))))) (fun ls hl => ?_)
        exact k_L_document_b291 C N N _ _ _ _ _ _ _ _ _ h rx1 rx2 rx3 rk_0 rk_0 _ _ _ _ _ hb hM (lv_sub hl [2, 3, 4, 5, 1, 0] rfl)
      · have h := if_f h c5
        refine m_aload_n (pc := 264) C dL_document_264 rfl (lv_at hl 0 rfl) ?_
        refine m_iload_n (pc := 265) C dL_document_265 rfl (lv_at hl 1 rfl) ?_
        refine m_iconst (pc := 266) C dL_document_266 ?_
        obtain ⟨q6, h⟩ := ck_some h
        obtain ⟨a7, μ8, ca7, h⟩ := bd_some h
        refine V_X7_lot (pc := 267) C hM ca7 rx1 rk_5 q6 bw_3_54 ⟨Nat.le_of_ble_eq_true rfl, Nat.le_of_ble_eq_true rfl⟩ hl.1 rc0 ⟨by show _ + 0 ≤ 300; omega, by show _ + 0 ≤ 60000; omega⟩ dL_document_267 (fun ra7 H locs hM => ?_)
        refine m_aload_n (pc := 270) C dL_document_270 rfl (lv_at hl 0 rfl) ?_
        refine m_iconst (pc := 271) C dL_document_271 ?_
        obtain ⟨q9, h⟩ := ck_some h
        obtain ⟨a10, μ11, ca10, h⟩ := bd_some h
        refine V_X7_count (pc := 272) C hM ca10 rk_0 q9 bw_3_4 ⟨Nat.le_of_ble_eq_true rfl, Nat.le_of_ble_eq_true rfl⟩ hl.1 (rcI rc0) ⟨by show _ + 0 ≤ 300; omega, by show _ + 0 ≤ 60000; omega⟩ dL_document_272 (fun ra10 H locs hM => ?_)
        refine m_bipush (pc := 275) C dL_document_275 rfl ?_
        obtain ⟨a12, ea12, h⟩ := nm_some h
        have ra12 : R32 a12 := by rw [ea12]; exact w32_R _
        refine m_iadd (pc := 277) C dL_document_277 ea12 ?_
        refine m_icmp_gt (tgt := 285) (pc := 278) C ra7 ra12 dL_document_278 (by decide) (fun c13 => ?_) (fun c13 => ?_)
        · have h := if_t h c13
          refine m_iconst (pc := 285) C dL_document_285 ?_
          refine m_istore (pc := 286) C dL_document_286 hl (by decide) (lvK1 0 rfl (Nat.ne_of_beq_eq_false rfl) (Nat.ne_of_beq_eq_false rfl) (lvK1 1 rfl (Nat.ne_of_beq_eq_false rfl) (Nat.ne_of_beq_eq_false rfl) (lvK1 2 rfl (Nat.ne_of_beq_eq_false rfl) (Nat.ne_of_beq_eq_false rfl) (lvK2 3 rfl (Nat.ne_of_beq_eq_false rfl) rfl lvK0)))) (fun ls hl => ?_)
          refine m_iconst (pc := 288) C dL_document_288 ?_
          refine m_istore (pc := 289) C dL_document_289 hl (by decide) (lvK2 0 rfl (Nat.ne_of_beq_eq_false rfl) rfl (lvK1 1 rfl (Nat.ne_of_beq_eq_false rfl) (Nat.ne_of_beq_eq_false rfl) (lvK1 2 rfl (Nat.ne_of_beq_eq_false rfl) (Nat.ne_of_beq_eq_false rfl) (lvK1 3 rfl (Nat.ne_of_beq_eq_false rfl) (Nat.ne_of_beq_eq_false rfl) (lvK1 4 rfl (Nat.ne_of_beq_eq_false rfl) (Nat.ne_of_beq_eq_false rfl) lvK0))))) (fun ls hl => ?_)
          exact k_L_document_b291 C N N _ _ _ _ _ _ _ _ _ h rx1 rx2 rx3 rk_0 rk_0 _ _ _ _ _ hb hM (lv_sub hl [2, 3, 4, 5, 1, 0] rfl)
        · have h := if_f h c13
          refine m_iconst (pc := 281) C dL_document_281 ?_
          refine m_goto (tgt := 286) (pc := 282) C dL_document_282 (by decide) ?_
          refine m_istore (pc := 286) C dL_document_286 hl (by decide) (lvK1 0 rfl (Nat.ne_of_beq_eq_false rfl) (Nat.ne_of_beq_eq_false rfl) (lvK1 1 rfl (Nat.ne_of_beq_eq_false rfl) (Nat.ne_of_beq_eq_false rfl) (lvK1 2 rfl (Nat.ne_of_beq_eq_false rfl) (Nat.ne_of_beq_eq_false rfl) (lvK2 3 rfl (Nat.ne_of_beq_eq_false rfl) rfl lvK0)))) (fun ls hl => ?_)
          refine m_iconst (pc := 288) C dL_document_288 ?_
          refine m_istore (pc := 289) C dL_document_289 hl (by decide) (lvK2 0 rfl (Nat.ne_of_beq_eq_false rfl) rfl (lvK1 1 rfl (Nat.ne_of_beq_eq_false rfl) (Nat.ne_of_beq_eq_false rfl) (lvK1 2 rfl (Nat.ne_of_beq_eq_false rfl) (Nat.ne_of_beq_eq_false rfl) (lvK1 3 rfl (Nat.ne_of_beq_eq_false rfl) (Nat.ne_of_beq_eq_false rfl) (lvK1 4 rfl (Nat.ne_of_beq_eq_false rfl) (Nat.ne_of_beq_eq_false rfl) lvK0))))) (fun ls hl => ?_)
          exact k_L_document_b291 C N N _ _ _ _ _ _ _ _ _ h rx1 rx2 rx3 rk_1 rk_0 _ _ _ _ _ hb hM (lv_sub hl [2, 3, 4, 5, 1, 0] rfl)
    · have h := if_f h c1
      refine m_iload (pc := 52) C dL_document_52 (lv_at hl 4 rfl) ?_
      refine m_if_ne (tgt := 61) (pc := 54) C rx4 dL_document_54 (by decide) (fun c14 => ?_) (fun c14 => ?_)
      · have h := if_t h c14
        refine m_iload (pc := 61) C dL_document_61 (lv_at hl 4 rfl) ?_
        refine m_iconst (pc := 63) C dL_document_63 ?_
        refine m_icmp_ne (tgt := 76) (pc := 64) C rx4 rk_1 dL_document_64 (by decide) (fun c15 => ?_) (fun c15 => ?_)
        · have h := if_t h c15
          refine m_iload (pc := 76) C dL_document_76 (lv_at hl 4 rfl) ?_
          refine m_iconst (pc := 78) C dL_document_78 ?_
          refine m_icmp_ne (tgt := 92) (pc := 79) C rx4 rk_2 dL_document_79 (by decide) (fun c16 => ?_) (fun c16 => ?_)
          · have h := if_t h c16
            refine m_aload_n (pc := 92) C dL_document_92 rfl (lv_at hl 0 rfl) ?_
            refine m_iload_n (pc := 93) C dL_document_93 rfl (lv_at hl 1 rfl) ?_
            refine m_bipush (pc := 94) C dL_document_94 rfl ?_
            obtain ⟨q17, h⟩ := ck_some h
            obtain ⟨a18, μ19, ca18, h⟩ := bd_some h
            refine V_X7_lot (pc := 96) C hM ca18 rx1 rk_12 q17 bw_3_54 ⟨Nat.le_of_ble_eq_true rfl, Nat.le_of_ble_eq_true rfl⟩ hl.1 rc0 ⟨by show _ + 0 ≤ 300; omega, by show _ + 0 ≤ 60000; omega⟩ dL_document_96 (fun ra18 H locs hM => ?_)
            refine m_istore (pc := 99) C dL_document_99 hl (by decide) (lvK1 0 rfl (Nat.ne_of_beq_eq_false rfl) (Nat.ne_of_beq_eq_false rfl) (lvK1 1 rfl (Nat.ne_of_beq_eq_false rfl) (Nat.ne_of_beq_eq_false rfl) (lvK1 2 rfl (Nat.ne_of_beq_eq_false rfl) (Nat.ne_of_beq_eq_false rfl) (lvK1 3 rfl (Nat.ne_of_beq_eq_false rfl) (Nat.ne_of_beq_eq_false rfl) (lvK2 4 rfl (Nat.ne_of_beq_eq_false rfl) rfl lvK0))))) (fun ls hl => ?_)
            refine m_iconst (pc := 101) C dL_document_101 ?_
            refine m_istore (pc := 102) C dL_document_102 hl (by decide) (lvK2 0 rfl (Nat.ne_of_beq_eq_false rfl) rfl (lvK1 1 rfl (Nat.ne_of_beq_eq_false rfl) (Nat.ne_of_beq_eq_false rfl) (lvK1 2 rfl (Nat.ne_of_beq_eq_false rfl) (Nat.ne_of_beq_eq_false rfl) (lvK1 3 rfl (Nat.ne_of_beq_eq_false rfl) (Nat.ne_of_beq_eq_false rfl) (lvK1 4 rfl (Nat.ne_of_beq_eq_false rfl) (Nat.ne_of_beq_eq_false rfl) (lvK1 5 rfl (Nat.ne_of_beq_eq_false rfl) (Nat.ne_of_beq_eq_false rfl) lvK0)))))) (fun ls hl => ?_)
            exact k_L_document_b104 C N _ ih N _ _ _ _ _ _ _ _ _ _ h rx1 rx2 rx3 rx4 ra18 rk_1 _ _ _ _ _ hb hM (lv_sub hl [2, 3, 4, 5, 6, 1, 0] rfl)
          · have h := if_f h c16
            refine m_aload_n (pc := 82) C dL_document_82 rfl (lv_at hl 0 rfl) ?_
            refine m_iload_n (pc := 83) C dL_document_83 rfl (lv_at hl 1 rfl) ?_
            refine m_bipush (pc := 84) C dL_document_84 rfl ?_
            obtain ⟨q20, h⟩ := ck_some h
            obtain ⟨a21, μ22, ca21, h⟩ := bd_some h
            refine V_X7_lot (pc := 86) C hM ca21 rx1 rk_7 q20 bw_3_54 ⟨Nat.le_of_ble_eq_true rfl, Nat.le_of_ble_eq_true rfl⟩ hl.1 rc0 ⟨by show _ + 0 ≤ 300; omega, by show _ + 0 ≤ 60000; omega⟩ dL_document_86 (fun ra21 H locs hM => ?_)
            refine m_goto (tgt := 99) (pc := 89) C dL_document_89 (by decide) ?_
            refine m_istore (pc := 99) C dL_document_99 hl (by decide) (lvK1 0 rfl (Nat.ne_of_beq_eq_false rfl) (Nat.ne_of_beq_eq_false rfl) (lvK1 1 rfl (Nat.ne_of_beq_eq_false rfl) (Nat.ne_of_beq_eq_false rfl) (lvK1 2 rfl (Nat.ne_of_beq_eq_false rfl) (Nat.ne_of_beq_eq_false rfl) (lvK1 3 rfl (Nat.ne_of_beq_eq_false rfl) (Nat.ne_of_beq_eq_false rfl) (lvK2 4 rfl (Nat.ne_of_beq_eq_false rfl) rfl lvK0))))) (fun ls hl => ?_)
            refine m_iconst (pc := 101) C dL_document_101 ?_
            refine m_istore (pc := 102) C dL_document_102 hl (by decide) (lvK2 0 rfl (Nat.ne_of_beq_eq_false rfl) rfl (lvK1 1 rfl (Nat.ne_of_beq_eq_false rfl) (Nat.ne_of_beq_eq_false rfl) (lvK1 2 rfl (Nat.ne_of_beq_eq_false rfl) (Nat.ne_of_beq_eq_false rfl) (lvK1 3 rfl (Nat.ne_of_beq_eq_false rfl) (Nat.ne_of_beq_eq_false rfl) (lvK1 4 rfl (Nat.ne_of_beq_eq_false rfl) (Nat.ne_of_beq_eq_false rfl) (lvK1 5 rfl (Nat.ne_of_beq_eq_false rfl) (Nat.ne_of_beq_eq_false rfl) lvK0)))))) (fun ls hl => ?_)
            exact k_L_document_b104 C N _ ih N _ _ _ _ _ _ _ _ _ _ h rx1 rx2 rx3 rx4 ra21 rk_1 _ _ _ _ _ hb hM (lv_sub hl [2, 3, 4, 5, 6, 1, 0] rfl)
        · have h := if_f h c15
          refine m_aload_n (pc := 67) C dL_document_67 rfl (lv_at hl 0 rfl) ?_
          refine m_iload_n (pc := 68) C dL_document_68 rfl (lv_at hl 1 rfl) ?_
          refine m_iconst (pc := 69) C dL_document_69 ?_
          obtain ⟨q23, h⟩ := ck_some h
          obtain ⟨a24, μ25, ca24, h⟩ := bd_some h
          refine V_X7_lot (pc := 70) C hM ca24 rx1 rk_0 q23 bw_3_54 ⟨Nat.le_of_ble_eq_true rfl, Nat.le_of_ble_eq_true rfl⟩ hl.1 rc0 ⟨by show _ + 0 ≤ 300; omega, by show _ + 0 ≤ 60000; omega⟩ dL_document_70 (fun ra24 H locs hM => ?_)
          refine m_goto (tgt := 99) (pc := 73) C dL_document_73 (by decide) ?_
          refine m_istore (pc := 99) C dL_document_99 hl (by decide) (lvK1 0 rfl (Nat.ne_of_beq_eq_false rfl) (Nat.ne_of_beq_eq_false rfl) (lvK1 1 rfl (Nat.ne_of_beq_eq_false rfl) (Nat.ne_of_beq_eq_false rfl) (lvK1 2 rfl (Nat.ne_of_beq_eq_false rfl) (Nat.ne_of_beq_eq_false rfl) (lvK1 3 rfl (Nat.ne_of_beq_eq_false rfl) (Nat.ne_of_beq_eq_false rfl) (lvK2 4 rfl (Nat.ne_of_beq_eq_false rfl) rfl lvK0))))) (fun ls hl => ?_)
          refine m_iconst (pc := 101) C dL_document_101 ?_
          refine m_istore (pc := 102) C dL_document_102 hl (by decide) (lvK2 0 rfl (Nat.ne_of_beq_eq_false rfl) rfl (lvK1 1 rfl (Nat.ne_of_beq_eq_false rfl) (Nat.ne_of_beq_eq_false rfl) (lvK1 2 rfl (Nat.ne_of_beq_eq_false rfl) (Nat.ne_of_beq_eq_false rfl) (lvK1 3 rfl (Nat.ne_of_beq_eq_false rfl) (Nat.ne_of_beq_eq_false rfl) (lvK1 4 rfl (Nat.ne_of_beq_eq_false rfl) (Nat.ne_of_beq_eq_false rfl) (lvK1 5 rfl (Nat.ne_of_beq_eq_false rfl) (Nat.ne_of_beq_eq_false rfl) lvK0)))))) (fun ls hl => ?_)
          exact k_L_document_b104 C N _ ih N _ _ _ _ _ _ _ _ _ _ h rx1 rx2 rx3 rx4 ra24 rk_1 _ _ _ _ _ hb hM (lv_sub hl [2, 3, 4, 5, 6, 1, 0] rfl)
      · have h := if_f h c14
        refine m_iload_n (pc := 57) C dL_document_57 rfl (lv_at hl 1 rfl) ?_
        refine m_goto (tgt := 99) (pc := 58) C dL_document_58 (by decide) ?_
        refine m_istore (pc := 99) C dL_document_99 hl (by decide) (lvK1 0 rfl (Nat.ne_of_beq_eq_false rfl) (Nat.ne_of_beq_eq_false rfl) (lvK1 1 rfl (Nat.ne_of_beq_eq_false rfl) (Nat.ne_of_beq_eq_false rfl) (lvK1 2 rfl (Nat.ne_of_beq_eq_false rfl) (Nat.ne_of_beq_eq_false rfl) (lvK1 3 rfl (Nat.ne_of_beq_eq_false rfl) (Nat.ne_of_beq_eq_false rfl) (lvK2 4 rfl (Nat.ne_of_beq_eq_false rfl) rfl lvK0))))) (fun ls hl => ?_)
        refine m_iconst (pc := 101) C dL_document_101 ?_
        refine m_istore (pc := 102) C dL_document_102 hl (by decide) (lvK2 0 rfl (Nat.ne_of_beq_eq_false rfl) rfl (lvK1 1 rfl (Nat.ne_of_beq_eq_false rfl) (Nat.ne_of_beq_eq_false rfl) (lvK1 2 rfl (Nat.ne_of_beq_eq_false rfl) (Nat.ne_of_beq_eq_false rfl) (lvK1 3 rfl (Nat.ne_of_beq_eq_false rfl) (Nat.ne_of_beq_eq_false rfl) (lvK1 4 rfl (Nat.ne_of_beq_eq_false rfl) (Nat.ne_of_beq_eq_false rfl) (lvK1 5 rfl (Nat.ne_of_beq_eq_false rfl) (Nat.ne_of_beq_eq_false rfl) lvK0)))))) (fun ls hl => ?_)
        exact k_L_document_b104 C N _ ih N _ _ _ _ _ _ _ _ _ _ h rx1 rx2 rx3 rx4 rx1 rk_1 _ _ _ _ _ hb hM (lv_sub hl [2, 3, 4, 5, 6, 1, 0] rfl)
set_option maxHeartbeats 4000000 in
set_option maxRecDepth 100000 in
theorem c_L_document (l : Launch) (E : gE) (N : Nat) (x0 x1 : Int) (μ μ' : Mm) (r : Int) (h : f_L_document N x0 x1 μ = some (r, μ')) (rx1 : R32 x1) : gMet l E yL_document cL_document 9 (some .boolean) 8 181 [vr E x0, vi x1] (some (vi r)) (R32 r) μ μ' 300 60000 := by
  refine g_ofW [1, 1] (by first | (simp only [List.map_cons, List.map_nil, vr_cat]; done) | (simp only [List.map_cons, List.map_nil, vr_cat]; rfl)) (by decide) (by decide) (fun p e s m below meth c ls C hM hl => ?_)
  replace C : gCx p s m _ meth c cL_document 9 (some .boolean) "document" RL := C
  replace hl : lv_has ls 9 [(0, vr E x0), (1, vi x1)] := hl
  unfold f_L_document at h
  have hb : ((0 : Nat) : Int) + 300 ≤ 300 ∧ (0 : Int) ≤ 300 ∧ ((0 : Nat) : Int) + 60000 ≤ 60000 ∧ (0 : Int) ≤ 60000 := by decide
  refine m_aload_n (pc := 0) C dL_document_0 rfl (lv_at hl 0 rfl) ?_
  refine m_iload_n (pc := 1) C dL_document_1 rfl (lv_at hl 1 rfl) ?_
  obtain ⟨q1, h⟩ := ck_some h
  obtain ⟨q2, h⟩ := ck_some h
  obtain ⟨a3, μ4, ca3, h⟩ := bd_some h
  refine V_X7_documentLength (pc := 2) C hM ca3 rx1 q1 bw_3_112 ⟨Nat.le_of_ble_eq_true rfl, Nat.le_of_ble_eq_true rfl⟩ hl.1 rc0 ⟨by show _ + 10 ≤ 300; omega, by show _ + 2000 ≤ 60000; omega⟩ dL_document_2 (fun ra3 H locs hM => ?_)
  replace hb : ((0 + 10 : Nat) : Int) + (300 - 10) ≤ 300 ∧ (0 : Int) ≤ 300 - 10 ∧ ((0 + 2000 : Nat) : Int) + (60000 - 2000) ≤ 60000 ∧ (0 : Int) ≤ 60000 - 2000 := by omega
  refine m_istore_n (pc := 5) C dL_document_5 rfl hl (by decide) (lvK1 0 rfl (Nat.ne_of_beq_eq_false rfl) (Nat.ne_of_beq_eq_false rfl) (lvK2 1 rfl (Nat.ne_of_beq_eq_false rfl) rfl lvK0)) (fun ls hl => ?_)
  refine m_iconst (pc := 6) C dL_document_6 ?_
  refine m_istore_n (pc := 7) C dL_document_7 rfl hl (by decide) (lvK2 0 rfl (Nat.ne_of_beq_eq_false rfl) rfl (lvK1 1 rfl (Nat.ne_of_beq_eq_false rfl) (Nat.ne_of_beq_eq_false rfl) (lvK1 2 rfl (Nat.ne_of_beq_eq_false rfl) (Nat.ne_of_beq_eq_false rfl) lvK0))) (fun ls hl => ?_)
  refine m_aload_n (pc := 8) C dL_document_8 rfl (lv_at hl 2 rfl) ?_
  refine m_iload_n (pc := 9) C dL_document_9 rfl (lv_at hl 3 rfl) ?_
  refine m_iconst (pc := 10) C dL_document_10 ?_
  obtain ⟨q5, h⟩ := ck_some h
  obtain ⟨q6, h⟩ := ck_some h
  obtain ⟨a7, μ8, ca7, h⟩ := bd_some h
  refine V_X7_documentAt (pc := 11) C hM ca7 rx1 rk_0 q5 bw_4_38 ⟨Nat.le_of_ble_eq_true rfl, Nat.le_of_ble_eq_true rfl⟩ hl.1 rc0 ⟨by show _ + 10 ≤ 300; omega, by show _ + 2000 ≤ 60000; omega⟩ dL_document_11 (fun ra7 H locs hM => ?_)
  replace hb : ((0 + 10 + 10 : Nat) : Int) + (300 - 10 - 10) ≤ 300 ∧ (0 : Int) ≤ 300 - 10 - 10 ∧ ((0 + 2000 + 2000 : Nat) : Int) + (60000 - 2000 - 2000) ≤ 60000 ∧ (0 : Int) ≤ 60000 - 2000 - 2000 := by omega
  refine m_bipush (pc := 14) C dL_document_14 rfl ?_
  refine m_icmp_ne (tgt := 41) (pc := 16) C ra7 rk_76 dL_document_16 (by decide) (fun c9 => ?_) (fun c9 => ?_)
  · have h := if_t h c9
    refine m_iconst (pc := 41) C dL_document_41 ?_
    cases h
    refine W.widen (k := 300) (n := 60000) (by omega) (by omega) ?_
    exact m_zret (pc := 42) C rfl hM rk_0 dL_document_42
  · have h := if_f h c9
    refine m_aload_n (pc := 19) C dL_document_19 rfl (lv_at hl 2 rfl) ?_
    refine m_iload_n (pc := 20) C dL_document_20 rfl (lv_at hl 3 rfl) ?_
    refine m_iload_n (pc := 21) C dL_document_21 rfl (lv_at hl 1 rfl) ?_
    obtain ⟨q10, h⟩ := ck_some h
    obtain ⟨q11, h⟩ := ck_some h
    obtain ⟨a12, μ13, ca12, h⟩ := bd_some h
    refine V_X7_documentAt (pc := 22) C hM ca12 rx1 ra3 q10 bw_4_38 ⟨Nat.le_of_ble_eq_true rfl, Nat.le_of_ble_eq_true rfl⟩ hl.1 rc0 ⟨by show _ + 10 ≤ 300; omega, by show _ + 2000 ≤ 60000; omega⟩ dL_document_22 (fun ra12 H locs hM => ?_)
    replace hb : ((0 + 10 + 10 + 10 : Nat) : Int) + (300 - 10 - 10 - 10) ≤ 300 ∧ (0 : Int) ≤ 300 - 10 - 10 - 10 ∧ ((0 + 2000 + 2000 + 2000 : Nat) : Int) + (60000 - 2000 - 2000 - 2000) ≤ 60000 ∧ (0 : Int) ≤ 60000 - 2000 - 2000 - 2000 := by omega
    refine m_ldc (n := -100000005) (pc := 25) C bw_3_102 rfl dL_document_25 ?_
    refine m_icmp_ne (tgt := 41) (pc := 27) C ra12 rk_m100000005 dL_document_27 (by decide) (fun c14 => ?_) (fun c14 => ?_)
    · have h := if_t h c14
      refine m_iconst (pc := 41) C dL_document_41 ?_
      cases h
      refine W.widen (k := 300) (n := 60000) (by omega) (by omega) ?_
      exact m_zret (pc := 42) C rfl hM rk_0 dL_document_42
    · have h := if_f h c14
      refine m_aload_n (pc := 30) C dL_document_30 rfl (lv_at hl 2 rfl) ?_
      refine m_iload_n (pc := 31) C dL_document_31 rfl (lv_at hl 3 rfl) ?_
      refine m_iconst (pc := 32) C dL_document_32 ?_
      obtain ⟨q15, h⟩ := ck_some h
      obtain ⟨q16, h⟩ := ck_some h
      obtain ⟨a17, μ18, ca17, h⟩ := bd_some h
      refine V_X7_documentAt (pc := 33) C hM ca17 rx1 rk_m1 q15 bw_4_38 ⟨Nat.le_of_ble_eq_true rfl, Nat.le_of_ble_eq_true rfl⟩ hl.1 rc0 ⟨by show _ + 10 ≤ 300; omega, by show _ + 2000 ≤ 60000; omega⟩ dL_document_33 (fun ra17 H locs hM => ?_)
      replace hb : ((0 + 10 + 10 + 10 + 10 : Nat) : Int) + (300 - 10 - 10 - 10 - 10) ≤ 300 ∧ (0 : Int) ≤ 300 - 10 - 10 - 10 - 10 ∧ ((0 + 2000 + 2000 + 2000 + 2000 : Nat) : Int) + (60000 - 2000 - 2000 - 2000 - 2000) ≤ 60000 ∧ (0 : Int) ≤ 60000 - 2000 - 2000 - 2000 - 2000 := by omega
      refine m_ldc (n := -100000002) (pc := 36) C bw_3_83 rfl dL_document_36 ?_
      refine m_icmp_eq (tgt := 43) (pc := 38) C ra17 rk_m100000002 dL_document_38 (by decide) (fun c19 => ?_) (fun c19 => ?_)
      · have h := if_t h c19
        refine m_iconst (pc := 43) C dL_document_43 ?_
        refine m_istore (pc := 44) C dL_document_44 hl (by decide) (lvK2 0 rfl (Nat.ne_of_beq_eq_false rfl) rfl (lvK1 1 rfl (Nat.ne_of_beq_eq_false rfl) (Nat.ne_of_beq_eq_false rfl) (lvK1 2 rfl (Nat.ne_of_beq_eq_false rfl) (Nat.ne_of_beq_eq_false rfl) (lvK1 3 rfl (Nat.ne_of_beq_eq_false rfl) (Nat.ne_of_beq_eq_false rfl) lvK0)))) (fun ls hl => ?_)
        exact k_L_document_b46 C N N _ _ _ _ _ _ _ _ h rx1 ra3 rk_1 rk_0 _ _ _ _ _ hb hM (lv_sub hl [3, 4, 2, 1, 0] rfl)
      · have h := if_f h c19
        refine m_iconst (pc := 41) C dL_document_41 ?_
        cases h
        refine W.widen (k := 300) (n := 60000) (by omega) (by omega) ?_
        exact m_zret (pc := 42) C rfl hM rk_0 dL_document_42
theorem hd_L_document : yL_document.cls ≠ "java/lang/invoke/MethodHandle" ∧ yL_document.cls ≠ "java/lang/invoke/VarHandle" ∧ (parseMethodDescriptor yL_document.desc).map (fun d => d.parameters.length) = some 2 := by decide +kernel

theorem V_L_document {p : Program} {l : Launch} {e : Env} {R : Room} {s : State} {m : MethodId} {args : Array Value} {below : List Frame} {meth : Method} {c : Code} {H : Heap} {locs : List Loc} {cells slots : Nat} {Q : State → Prop} {cc : ByteArray} {pc nL : Nat} {ls : Array Slot} {rest : List Value} {ret : Option FieldType} {nmm own : String} {E : gE} {μ μ1 : Mm} {index : Nat} (C : gCx p s m args meth c cc nL ret nmm own) (hM : MS E μ s H locs) {N : Nat} {x0 x1 v : Int} (hc : f_L_document N x0 x1 μ = some (v, μ1)) (rx1 : R32 x1) (h1 : Cond.methodLink own index yL_document ∈ bigL) (hR : 9 ≤ R.frames ∧ 209 ≤ R.locals) (hl : ls.size = nL) (hcat : RC rest 8) (hf : cells + 300 ≤ R.cells ∧ slots + 60000 ≤ R.slots) (hdg : decode cc pc = .ok (.invokestatic index, 3)) (kk : (R32 v) → ∀ (H1 : Heap) (locs1 : List Loc), MS E μ1 s H1 locs1 → W p l e R s m args below meth c H1 locs1 (cells + 300) (slots + 60000) Q (F0 m (pc + 3) ls (vi v :: rest))) : W p l e R s m args below meth c H locs cells slots Q (F0 m pc ls (vi x1 :: vr E x0 :: rest)) := g_callS C hM (c_L_document l E N x0 x1 μ μ1 v hc rx1) (gS h1 bw_3_110 bw_1_0 bw_3_111) hd_L_document hR rfl hl rfl hcat hf hdg kk
/-! L_moves -/
def f_L_moves_b1010 (N : Nat) (x0 x2 x11 y0 bc bs : Int) (μ : Mm) : Rs :=
  ck (μ x0 (-2) = 9) <|
  bd (f_X7_count N x0 12 μ) fun a2 μ3 =>
  if ¬ a2 = y0 then
    (some (0, μ3))
  else
  nm (o_shr x2 12) fun a5 =>
  nm (o_and a5 3) fun a6 =>
  if ¬ a6 = 0 then
    (some (1, μ3))
  else
  ck (μ3 x0 (-2) = 9) <|
  bd (f_X7_undo N x0 μ3) fun a9 μ10 =>
  nm (w32 (y0 - 1)) fun a11 =>
  if ¬ a9 = a11 then
    (some (0, μ10))
  else
  bd (f_L_digest N x0 μ10) fun a13 μ14 =>
  if ¬ a13 = x11 then
    (some (0, μ14))
  else
  some (1, μ14)
def f_L_moves_b962 (N : Nat) (x0 x2 x11 x13 x18 bc bs : Int) (μ : Mm) : Rs :=
  if 0 ≤ x18 then
    (if ¬ x13 = 6 then
       (nm (w32 (x13 + 1)) fun a3 =>
        f_L_moves_b1010 N x0 x2 x11 a3 bc bs μ)
     else
     f_L_moves_b1010 N x0 x2 x11 6 bc bs μ)
  else
  ck (μ x0 (-2) = 9) <|
  bd (f_X7_count N x0 12 μ) fun a5 μ6 =>
  if ¬ a5 = x13 then
    (some (0, μ6))
  else
  bd (f_L_digest N x0 μ6) fun a8 μ9 =>
  if ¬ a8 = x11 then
    (some (0, μ9))
  else
  some (1, μ9)
def f_L_moves_b861 (N : Nat) (x0 x2 x5 x8 x11 x13 x19 x20 x22 y0 bc bs : Int) (μ : Mm) : Rs :=
  ck (μ x0 (-2) = 9) <|
  bd (f_X7_give N x0 x5 x19 μ) fun a2 μ3 =>
  if ¬ x19 = x8 then
    (if x22 = 0 then
       (if ¬ y0 = 0 then
          (if ¬ a2 = x8 then
             (some (0, μ3))
           else
           ck (μ3 x0 (-2) = 9) <|
           bd (f_X7_owner N x0 x19 3 μ3) fun a9 μ10 =>
           if a9 = x20 then
             (f_L_moves_b962 N x0 x2 x11 x13 a2 bc bs μ10)
           else
           some (0, μ10))
        else
        if ¬ a2 = ((-100000003)) then
          (some (0, μ3))
        else
        ck (μ3 x0 (-2) = 9) <|
        bd (f_X7_count N x0 11 μ3) fun a14 μ15 =>
        if a14 = 2 then
          (f_L_moves_b962 N x0 x2 x11 x13 a2 bc bs μ15)
        else
        some (0, μ15))
     else
     if ¬ a2 = ((-100000003)) then
       (some (0, μ3))
     else
     ck (μ3 x0 (-2) = 9) <|
     bd (f_X7_count N x0 11 μ3) fun a19 μ20 =>
     if a19 = 1 then
       (f_L_moves_b962 N x0 x2 x11 x13 a2 bc bs μ20)
     else
     some (0, μ20))
  else
  if a2 = ((-100000002)) then
    (f_L_moves_b962 N x0 x2 x11 x13 a2 bc bs μ3)
  else
  some (0, μ3)
def f_L_moves_b829 (N : Nat) (x0 x2 x5 x8 x11 x13 x19 x20 y0 bc bs : Int) (μ : Mm) : Rs :=
  ck (μ x0 (-2) = 9) <|
  bd (f_X7_count N x0 8 μ) fun a2 μ3 =>
  nm (w64 (x20 * a2)) fun a4 =>
  nm (w64 (Int.tdiv a4 100)) fun a5 =>
  ck (μ3 x0 (-2) = 9) <|
  bd (f_X7_owner N x0 x19 1 μ3) fun a8 μ9 =>
  if a8 < a5 then
    (f_L_moves_b861 N x0 x2 x5 x8 x11 x13 x19 x20 y0 0 bc bs μ9)
  else
  f_L_moves_b861 N x0 x2 x5 x8 x11 x13 x19 x20 y0 1 bc bs μ9
def f_L_moves_b776 (N : Nat) (x0 x2 x11 x13 x18 bc bs : Int) (μ : Mm) : Rs :=
  f_L_moves_b962 N x0 x2 x11 x13 x18 bc bs μ
def f_L_moves_b663 (N : Nat) (x0 x2 x11 x13 x18 bc bs : Int) (μ : Mm) : Rs :=
  f_L_moves_b962 N x0 x2 x11 x13 x18 bc bs μ
def f_L_moves_b527 (N : Nat) (x0 x2 x11 x13 x18 bc bs : Int) (μ : Mm) : Rs :=
  f_L_moves_b962 N x0 x2 x11 x13 x18 bc bs μ
def f_L_moves_b508 (N : Nat) (x0 x2 x8 x9 x11 x13 x18 bc bs : Int) (μ : Mm) : Rs :=
  ck (μ x0 (-2) = 9) <|
  bd (f_X7_owner N x0 x8 0 μ) fun a2 μ3 =>
  nm (w64 (x9 - x18)) fun a4 =>
  if a2 = a4 then
    (f_L_moves_b527 N x0 x2 x11 x13 x18 bc bs μ3)
  else
  some (0, μ3)
def f_L_moves_b492 (N : Nat) (x0 x2 x8 x9 x11 x13 x16 x18 x19 bc bs : Int) (μ : Mm) : Rs :=
  if 0 < x19 then
    (f_L_moves_b508 N x0 x2 x8 x9 x11 x13 x18 bc bs μ)
  else
  if ¬ x18 = x16 then
    (some (0, μ))
  else
  f_L_moves_b508 N x0 x2 x8 x9 x11 x13 x18 bc bs μ
def f_L_moves_b435 (N : Nat) (x0 x2 x5 x7 x8 x9 x11 x13 x16 x18 x19 x21 x22 bc bs : Int) (μ : Mm) : Rs :=
  if x18 < 0 then
    (f_L_moves_b527 N x0 x2 x11 x13 x18 bc bs μ)
  else
  ck (μ x0 (-2) = 9) <|
  bd (f_X7_lot N x0 x5 11 μ) fun a3 μ4 =>
  nm (w32 (x21 + x7)) fun a5 =>
  if ¬ a3 = a5 then
    (some (0, μ4))
  else
  ck (μ4 x0 (-2) = 9) <|
  bd (f_X7_lot N x0 x5 10 μ4) fun a8 μ9 =>
  nm (w64 (a8 - x22)) fun a10 =>
  nm (w64 (a10 + x18)) fun a11 =>
  if ¬ a11 = x16 then
    (some (0, μ9))
  else
  if x19 < x7 then
    (f_L_moves_b492 N x0 x2 x8 x9 x11 x13 x16 x18 x19 bc bs μ9)
  else
  if ¬ x18 = 0 then
    (some (0, μ9))
  else
  f_L_moves_b492 N x0 x2 x8 x9 x11 x13 x16 x18 x19 bc bs μ9
def f_L_moves_b134 (N : Nat) (x0 x1 x2 x5 x6 y0 bc bs : Int) (μ : Mm) : Rs :=
  ck (μ x0 (-2) = 9) <|
  bd (f_X7_lot N x0 x5 0 μ) fun a2 μ3 =>
  ck (μ3 x0 (-2) = 9) <|
  bd (f_X7_owner N x0 a2 0 μ3) fun a5 μ6 =>
  bd (f_L_digest N x0 μ6) fun a7 μ8 =>
  ck (μ8 x0 (-2) = 9) <|
  bd (f_X7_count N x0 12 μ8) fun a10 μ11 =>
  ck (μ11 x0 (-2) = 9) <|
  bd (f_X7_lot N x0 x5 2 μ11) fun a13 μ14 =>
  ck (μ14 x0 (-2) = 9) <|
  bd (f_X7_lot N x0 x5 6 μ14) fun a16 μ17 =>
  nm (w64 (a13 - x6)) fun a18 =>
  nm (w64 (a18 + y0)) fun a19 =>
  nm (w64 (a16 * a19)) fun a20 =>
  ck (a13 ≠ 0) <|
  nm (w64 (Int.tdiv a20 a13)) fun a21 =>
  ck (μ17 x0 (-2) = 9) <|
  bd (f_X7_lot N x0 x5 6 μ17) fun a24 μ25 =>
  nm (w64 (a13 - x6)) fun a26 =>
  nm (w64 (a24 * a26)) fun a27 =>
  ck (a13 ≠ 0) <|
  nm (w64 (Int.tdiv a27 a13)) fun a28 =>
  nm (w64 (a21 - a28)) fun a30 =>
  if ¬ x1 = 0 then
    (if ¬ x1 = 1 then
       (if ¬ x1 = 2 then
          (if ¬ x1 = 3 then
             (nm (o_shr x2 7) fun a35 =>
              ck (μ25 x0 (-2) = 9) <|
              bd (f_X7_count N x0 1 μ25) fun a37 μ38 =>
              bd (f_L_low N a35 a37 μ38) fun a39 μ40 =>
              ck (μ40 x0 (-2) = 9) <|
              bd (f_X7_owner N x0 a39 3 μ40) fun a42 μ43 =>
              ck (μ43 x0 (-2) = 9) <|
              bd (f_X7_lot N x0 x5 8 μ43) fun a45 μ46 =>
              nm (w64 (a42 + a45)) fun a47 =>
              ck (μ46 x0 (-2) = 9) <|
              bd (f_X7_owner N x0 a39 2 μ46) fun a49 μ50 =>
              if a49 ≤ 0 then
                (f_L_moves_b829 N x0 x2 x5 a2 a7 a10 a39 a47 0 bc bs μ50)
              else
              f_L_moves_b829 N x0 x2 x5 a2 a7 a10 a39 a47 1 bc bs μ50)
           else
           ck (μ25 x0 (-2) = 9) <|
           bd (f_X7_destroy N x0 x5 y0 μ25) fun a53 μ54 =>
           ck (μ54 x0 (-2) = 9) <|
           bd (f_X7_count N x0 10 μ54) fun a56 μ57 =>
           nm (w64 (a56 * y0)) fun a58 =>
           if y0 ≤ x6 then
             (if a58 ≤ a5 then
                (if ¬ a53 = a30 then
                   (some (0, μ57))
                 else
                 ck (μ57 x0 (-2) = 9) <|
                 bd (f_X7_owner N x0 a2 0 μ57) fun a63 μ64 =>
                 nm (w64 (a5 - a58)) fun a65 =>
                 if a63 = a65 then
                   (f_L_moves_b776 N x0 x2 a7 a10 a53 bc bs μ64)
                 else
                 some (0, μ64))
              else
              if ¬ a53 = ((-100000003)) then
                (some (0, μ57))
              else
              ck (μ57 x0 (-2) = 9) <|
              bd (f_X7_count N x0 11 μ57) fun a69 μ70 =>
              if a69 = 3 then
                (f_L_moves_b776 N x0 x2 a7 a10 a53 bc bs μ70)
              else
              some (0, μ70))
           else
           if ¬ a53 = ((-100000003)) then
             (some (0, μ57))
           else
           ck (μ57 x0 (-2) = 9) <|
           bd (f_X7_count N x0 11 μ57) fun a74 μ75 =>
           if a74 = 4 then
             (f_L_moves_b776 N x0 x2 a7 a10 a53 bc bs μ75)
           else
           some (0, μ75))
        else
        ck (μ25 x0 (-2) = 9) <|
        bd (f_X7_count N x0 3 μ25) fun a78 μ79 =>
        ck (μ79 x0 (-2) = 9) <|
        bd (f_X7_export N x0 x5 y0 μ79) fun a81 μ82 =>
        if y0 ≤ x6 then
          (if ¬ a78 = 30 then
             (if ¬ a81 = a78 then
                (some (0, μ82))
              else
              ck (μ82 x0 (-2) = 9) <|
              bd (f_X7_exported N x0 a81 2 μ82) fun a87 μ88 =>
              if ¬ a87 = a30 then
                (some (0, μ88))
              else
              ck (μ88 x0 (-2) = 9) <|
              bd (f_X7_exported N x0 a81 1 μ88) fun a91 μ92 =>
              if ¬ a91 = y0 then
                (some (0, μ92))
              else
              ck (μ92 x0 (-2) = 9) <|
              bd (f_X7_exported N x0 a81 3 μ92) fun a95 μ96 =>
              ck (μ96 x0 (-2) = 9) <|
              bd (f_X7_count N x0 0 μ96) fun a98 μ99 =>
              ck (μ99 x0 (-2) = 9) <|
              bd (f_X7_count N x0 7 μ99) fun a101 μ102 =>
              nm (w32 (a98 + a101)) fun a103 =>
              if a95 = a103 then
                (f_L_moves_b663 N x0 x2 a7 a10 a81 bc bs μ102)
              else
              some (0, μ102))
           else
           if ¬ a81 = ((-100000003)) then
             (some (0, μ82))
           else
           ck (μ82 x0 (-2) = 9) <|
           bd (f_X7_count N x0 11 μ82) fun a107 μ108 =>
           if a107 = 5 then
             (f_L_moves_b663 N x0 x2 a7 a10 a81 bc bs μ108)
           else
           some (0, μ108))
        else
        if ¬ a81 = ((-100000003)) then
          (some (0, μ82))
        else
        ck (μ82 x0 (-2) = 9) <|
        bd (f_X7_count N x0 11 μ82) fun a112 μ113 =>
        if a112 = 4 then
          (f_L_moves_b663 N x0 x2 a7 a10 a81 bc bs μ113)
        else
        some (0, μ113))
     else
     ck (μ25 x0 (-2) = 9) <|
     bd (f_X7_count N x0 9 μ25) fun a116 μ117 =>
     nm (w64 (a13 * a116)) fun a118 =>
     nm (w64 (Int.tdiv a118 1000)) fun a119 =>
     ck (μ117 x0 (-2) = 9) <|
     bd (f_X7_lot N x0 x5 11 μ117) fun a122 μ123 =>
     nm (w64 (a119 - a122)) fun a124 =>
     ck (μ123 x0 (-2) = 9) <|
     bd (f_X7_lot N x0 x5 11 μ123) fun a126 μ127 =>
     ck (μ127 x0 (-2) = 9) <|
     bd (f_X7_lot N x0 x5 10 μ127) fun a129 μ130 =>
     ck (μ130 x0 (-2) = 9) <|
     bd (f_X7_sample N x0 x5 y0 μ130) fun a132 μ133 =>
     if y0 ≤ x6 then
       (if 0 ≤ a132 then
          (f_L_moves_b435 N x0 x2 x5 y0 a2 a5 a7 a10 a30 a132 a124 a126 a129 bc bs μ133)
        else
        if ¬ a132 = ((-100000003)) then
          (some (0, μ133))
        else
        ck (μ133 x0 (-2) = 9) <|
        bd (f_X7_count N x0 11 μ133) fun a138 μ139 =>
        if a138 = 3 then
          (f_L_moves_b435 N x0 x2 x5 y0 a2 a5 a7 a10 a30 a132 a124 a126 a129 bc bs μ139)
        else
        some (0, μ139))
     else
     if ¬ a132 = ((-100000003)) then
       (some (0, μ133))
     else
     ck (μ133 x0 (-2) = 9) <|
     bd (f_X7_count N x0 11 μ133) fun a143 μ144 =>
     if a143 = 4 then
       (f_L_moves_b435 N x0 x2 x5 y0 a2 a5 a7 a10 a30 a132 a124 a126 a129 bc bs μ144)
     else
     some (0, μ144))
  else
  ck (μ25 x0 (-2) = 9) <|
  bd (f_X7_release N x0 x5 y0 μ25) fun a147 μ148 =>
  if y0 ≤ x6 then
    (if a30 ≤ a5 then
       (if ¬ a147 = a30 then
          (some (0, μ148))
        else
        ck (μ148 x0 (-2) = 9) <|
        bd (f_X7_owner N x0 a2 0 μ148) fun a153 μ154 =>
        nm (w64 (a5 - a30)) fun a155 =>
        if a153 = a155 then
          (f_L_moves_b962 N x0 x2 a7 a10 a147 bc bs μ154)
        else
        some (0, μ154))
     else
     if ¬ a147 = ((-100000003)) then
       (some (0, μ148))
     else
     ck (μ148 x0 (-2) = 9) <|
     bd (f_X7_count N x0 11 μ148) fun a159 μ160 =>
     if a159 = 3 then
       (f_L_moves_b962 N x0 x2 a7 a10 a147 bc bs μ160)
     else
     some (0, μ160))
  else
  if ¬ a147 = ((-100000003)) then
    (some (0, μ148))
  else
  ck (μ148 x0 (-2) = 9) <|
  bd (f_X7_count N x0 11 μ148) fun a164 μ165 =>
  if a164 = 4 then
    (f_L_moves_b962 N x0 x2 a7 a10 a147 bc bs μ165)
  else
  some (0, μ165)
def f_L_moves (N : Nat) (x0 x1 x2 x3 : Int) (μ : Mm) : Rs :=
  ck (μ x0 (-2) = 9) <|
  bd (f_X7_count N x0 2 μ) fun a2 μ3 =>
  if ¬ a2 = 0 then
    (bd (f_L_low N x2 a2 μ3) fun a5 μ6 =>
     ck (μ6 x0 (-2) = 9) <|
     bd (f_X7_lot N x0 a5 7 μ6) fun a8 μ9 =>
     if ¬ a8 = 0 then
       (nm (o_and x3 7) fun a11 =>
        if ¬ a11 = 0 then
          (nm (o_shr x3 3) fun a13 =>
           bd (f_L_low N a13 a8 μ9) fun a14 μ15 =>
           nm (w32 (1 + a14)) fun a16 =>
           f_L_moves_b134 N x0 x1 x2 a5 a8 a16 10 2000 μ15)
        else
        nm (w32 (a8 + 1)) fun a17 =>
        f_L_moves_b134 N x0 x1 x2 a5 a8 a17 10 2000 μ9)
     else
     f_L_moves_b134 N x0 x1 x2 a5 a8 1 10 2000 μ9)
  else
  ck (μ3 x0 (-2) = 9) <|
  bd (f_X7_release N x0 0 1 μ3) fun a19 μ20 =>
  if ¬ a19 = ((-100000001)) then
    (some (0, μ20))
  else
  ck (μ20 x0 (-2) = 9) <|
  bd (f_X7_sample N x0 0 1 μ20) fun a23 μ24 =>
  if ¬ a23 = ((-100000001)) then
    (some (0, μ24))
  else
  ck (μ24 x0 (-2) = 9) <|
  bd (f_X7_export N x0 0 1 μ24) fun a27 μ28 =>
  if ¬ a27 = ((-100000001)) then
    (some (0, μ28))
  else
  ck (μ28 x0 (-2) = 9) <|
  bd (f_X7_destroy N x0 0 1 μ28) fun a31 μ32 =>
  if ¬ a31 = ((-100000001)) then
    (some (0, μ32))
  else
  ck (μ32 x0 (-2) = 9) <|
  bd (f_X7_give N x0 0 0 μ32) fun a35 μ36 =>
  if ¬ a35 = ((-100000001)) then
    (some (0, μ36))
  else
  ck (μ36 x0 (-2) = 9) <|
  ck ((10 : Int) ≤ 10 ∧ (2000 : Int) ≤ 2000) <|
  bd (f_X7_documentLength N x0 0 μ36) fun a40 μ41 =>
  if ¬ a40 = ((-100000001)) then
    (some (0, μ41))
  else
  some (1, μ41)
set_option maxHeartbeats 4000000 in
set_option maxRecDepth 100000 in
theorem k_L_moves_b1010 (C : gCx p s m args meth c cL_moves 24 (some .boolean) "moves" RL) (N : Nat) {r : Int} {μ' : Mm} : ∀ (x0 x2 x11 y0 bc bs : Int) (μ : Mm), f_L_moves_b1010 N x0 x2 x11 y0 bc bs μ = some (r, μ') → R32 x2 → R64 x11 → R32 y0 → ∀ (H : Heap) (locs : List Loc) (ls : Array Slot) (cells slots : Nat), (cells : Int) + bc ≤ 10 ∧ 0 ≤ bc ∧ (slots : Int) + bs ≤ 2000 ∧ 0 ≤ bs → MS E μ s H locs → lv_has ls 24 [(0, vr E x0), (2, vi x2), (11, vl x11)] → W p l e ({ frames := 8, cells := 10, slots := 2000, locals := 180 } : Room) s m args below meth c H locs cells slots (MQ below (gQ E (some (vi r)) (R32 r) μ') args s 10 2000 (gA E)) (F0 m 1010 ls [vi y0]) := by
  intro x0 x2 x11 y0 bc bs μ h rx2 rx11 ry0 H locs ls cells slots hb hM hl
  unfold f_L_moves_b1010 at h
  refine m_istore (pc := 1010) C dL_moves_1010 hl (by decide) (lvK1 0 rfl (Nat.ne_of_beq_eq_false rfl) (Nat.ne_of_beq_eq_false rfl) (lvK1 1 rfl (Nat.ne_of_beq_eq_false rfl) (Nat.ne_of_beq_eq_false rfl) (lvK1 2 rfl (Nat.ne_of_beq_eq_false rfl) (Nat.ne_of_beq_eq_false rfl) lvK0))) (fun ls hl => ?_)
  refine m_aload_n (pc := 1012) C dL_moves_1012 rfl (lv_at hl 1 rfl) ?_
  refine m_bipush (pc := 1013) C dL_moves_1013 rfl ?_
  obtain ⟨q1, h⟩ := ck_some h
  obtain ⟨a2, μ3, ca2, h⟩ := bd_some h
  refine V_X7_count (pc := 1015) C hM ca2 rk_12 q1 bw_3_4 ⟨Nat.le_of_ble_eq_true rfl, Nat.le_of_ble_eq_true rfl⟩ hl.1 rc0 ⟨by show _ + 0 ≤ 10; omega, by show _ + 0 ≤ 2000; omega⟩ dL_moves_1015 (fun ra2 H locs hM => ?_)
  refine m_iload (pc := 1018) C dL_moves_1018 (lv_at hl 0 rfl) ?_
  refine m_icmp_ne (tgt := 1057) (pc := 1020) C ra2 ry0 dL_moves_1020 (by decide) (fun c4 => ?_) (fun c4 => ?_)
  · have h := if_t h c4
    refine m_iconst (pc := 1057) C dL_moves_1057 ?_
    cases h
    refine W.widen (k := 10) (n := 2000) (by omega) (by omega) ?_
    exact m_zret (pc := 1058) C rfl hM rk_0 dL_moves_1058
  · have h := if_f h c4
    refine m_iload_n (pc := 1023) C dL_moves_1023 rfl (lv_at hl 2 rfl) ?_
    refine m_bipush (pc := 1024) C dL_moves_1024 rfl ?_
    obtain ⟨a5, ea5, h⟩ := nm_some h
    have ra5 : R32 a5 := by rw [ea5]; exact R32_of _
    refine m_ishr (pc := 1026) C dL_moves_1026 ea5 ?_
    refine m_iconst (pc := 1027) C dL_moves_1027 ?_
    obtain ⟨a6, ea6, h⟩ := nm_some h
    have ra6 : R32 a6 := by rw [ea6]; exact R32_of _
    refine m_iand (pc := 1028) C dL_moves_1028 ea6 ?_
    refine m_if_ne (tgt := 1053) (pc := 1029) C ra6 dL_moves_1029 (by decide) (fun c7 => ?_) (fun c7 => ?_)
    · have h := if_t h c7
      refine m_iconst (pc := 1053) C dL_moves_1053 ?_
      refine m_goto (tgt := 1058) (pc := 1054) C dL_moves_1054 (by decide) ?_
      cases h
      refine W.widen (k := 10) (n := 2000) (by omega) (by omega) ?_
      exact m_zret (pc := 1058) C rfl hM rk_1 dL_moves_1058
    · have h := if_f h c7
      refine m_aload_n (pc := 1032) C dL_moves_1032 rfl (lv_at hl 1 rfl) ?_
      obtain ⟨q8, h⟩ := ck_some h
      obtain ⟨a9, μ10, ca9, h⟩ := bd_some h
      refine V_X7_undo (pc := 1033) C hM ca9 q8 bw_2_208 ⟨Nat.le_of_ble_eq_true rfl, Nat.le_of_ble_eq_true rfl⟩ hl.1 rc0 ⟨by show _ + 0 ≤ 10; omega, by show _ + 0 ≤ 2000; omega⟩ dL_moves_1033 (fun ra9 H locs hM => ?_)
      refine m_iload (pc := 1036) C dL_moves_1036 (lv_at hl 0 rfl) ?_
      refine m_iconst (pc := 1038) C dL_moves_1038 ?_
      obtain ⟨a11, ea11, h⟩ := nm_some h
      have ra11 : R32 a11 := by rw [ea11]; exact w32_R _
      refine m_isub (pc := 1039) C dL_moves_1039 ea11 ?_
      refine m_icmp_ne (tgt := 1057) (pc := 1040) C ra9 ra11 dL_moves_1040 (by decide) (fun c12 => ?_) (fun c12 => ?_)
      · have h := if_t h c12
        refine m_iconst (pc := 1057) C dL_moves_1057 ?_
        cases h
        refine W.widen (k := 10) (n := 2000) (by omega) (by omega) ?_
        exact m_zret (pc := 1058) C rfl hM rk_0 dL_moves_1058
      · have h := if_f h c12
        refine m_aload_n (pc := 1043) C dL_moves_1043 rfl (lv_at hl 1 rfl) ?_
        obtain ⟨a13, μ14, ca13, h⟩ := bd_some h
        refine V_L_digest (pc := 1044) C hM ca13 bw_3_21 ⟨Nat.le_of_ble_eq_true rfl, Nat.le_of_ble_eq_true rfl⟩ hl.1 rc0 ⟨by show _ + 0 ≤ 10; omega, by show _ + 0 ≤ 2000; omega⟩ dL_moves_1044 (fun ra13 H locs hM => ?_)
        refine m_lload (pc := 1047) C dL_moves_1047 (lv_at hl 3 rfl) ?_
        refine m_lcmp_ne (tgt := 1057) (pc := 1049) C ra13 rx11 dL_moves_1049 dL_moves_1050 (by decide) (fun c15 => ?_) (fun c15 => ?_)
        · have h := if_t h c15
          refine m_iconst (pc := 1057) C dL_moves_1057 ?_
          cases h
          refine W.widen (k := 10) (n := 2000) (by omega) (by omega) ?_
          exact m_zret (pc := 1058) C rfl hM rk_0 dL_moves_1058
        · have h := if_f h c15
          refine m_iconst (pc := 1053) C dL_moves_1053 ?_
          refine m_goto (tgt := 1058) (pc := 1054) C dL_moves_1054 (by decide) ?_
          cases h
          refine W.widen (k := 10) (n := 2000) (by omega) (by omega) ?_
          exact m_zret (pc := 1058) C rfl hM rk_1 dL_moves_1058
set_option maxHeartbeats 4000000 in
set_option maxRecDepth 100000 in
theorem k_L_moves_b962 (C : gCx p s m args meth c cL_moves 24 (some .boolean) "moves" RL) (N : Nat) {r : Int} {μ' : Mm} : ∀ (x0 x2 x11 x13 x18 bc bs : Int) (μ : Mm), f_L_moves_b962 N x0 x2 x11 x13 x18 bc bs μ = some (r, μ') → R32 x2 → R64 x11 → R32 x13 → R32 x18 → ∀ (H : Heap) (locs : List Loc) (ls : Array Slot) (cells slots : Nat), (cells : Int) + bc ≤ 10 ∧ 0 ≤ bc ∧ (slots : Int) + bs ≤ 2000 ∧ 0 ≤ bs → MS E μ s H locs → lv_has ls 24 [(0, vr E x0), (2, vi x2), (11, vl x11), (13, vi x13), (18, vi x18)] → W p l e ({ frames := 8, cells := 10, slots := 2000, locals := 180 } : Room) s m args below meth c H locs cells slots (MQ below (gQ E (some (vi r)) (R32 r) μ') args s 10 2000 (gA E)) (F0 m 962 ls []) := by
  intro x0 x2 x11 x13 x18 bc bs μ h rx2 rx11 rx13 rx18 H locs ls cells slots hb hM hl
  unfold f_L_moves_b962 at h
  refine m_iload (pc := 962) C dL_moves_962 (lv_at hl 4 rfl) ?_
  refine m_if_ge (tgt := 994) (pc := 964) C rx18 dL_moves_964 (by decide) (fun c1 => ?_) (fun c1 => ?_)
  · have h := if_t h c1
    refine m_iload (pc := 994) C dL_moves_994 (lv_at hl 3 rfl) ?_
    refine m_bipush (pc := 996) C dL_moves_996 rfl ?_
    refine m_icmp_ne (tgt := 1006) (pc := 998) C rx13 rk_6 dL_moves_998 (by decide) (fun c2 => ?_) (fun c2 => ?_)
    · have h := if_t h c2
      refine m_iload (pc := 1006) C dL_moves_1006 (lv_at hl 3 rfl) ?_
      refine m_iconst (pc := 1008) C dL_moves_1008 ?_
      obtain ⟨a3, ea3, h⟩ := nm_some h
      have ra3 : R32 a3 := by rw [ea3]; exact w32_R _
      refine m_iadd (pc := 1009) C dL_moves_1009 ea3 ?_
      exact k_L_moves_b1010 C N _ _ _ _ _ _ _ h rx2 rx11 ra3 _ _ _ _ _ hb hM (lv_sub hl [0, 1, 2] rfl)
    · have h := if_f h c2
      refine m_bipush (pc := 1001) C dL_moves_1001 rfl ?_
      refine m_goto (tgt := 1010) (pc := 1003) C dL_moves_1003 (by decide) ?_
      exact k_L_moves_b1010 C N _ _ _ _ _ _ _ h rx2 rx11 rk_6 _ _ _ _ _ hb hM (lv_sub hl [0, 1, 2] rfl)
  · have h := if_f h c1
    refine m_aload_n (pc := 967) C dL_moves_967 rfl (lv_at hl 0 rfl) ?_
    refine m_bipush (pc := 968) C dL_moves_968 rfl ?_
    obtain ⟨q4, h⟩ := ck_some h
    obtain ⟨a5, μ6, ca5, h⟩ := bd_some h
    refine V_X7_count (pc := 970) C hM ca5 rk_12 q4 bw_3_4 ⟨Nat.le_of_ble_eq_true rfl, Nat.le_of_ble_eq_true rfl⟩ hl.1 rc0 ⟨by show _ + 0 ≤ 10; omega, by show _ + 0 ≤ 2000; omega⟩ dL_moves_970 (fun ra5 H locs hM => ?_)
    refine m_iload (pc := 973) C dL_moves_973 (lv_at hl 3 rfl) ?_
    refine m_icmp_ne (tgt := 992) (pc := 975) C ra5 rx13 dL_moves_975 (by decide) (fun c7 => ?_) (fun c7 => ?_)
    · have h := if_t h c7
      refine m_iconst (pc := 992) C dL_moves_992 ?_
      cases h
      refine W.widen (k := 10) (n := 2000) (by omega) (by omega) ?_
      exact m_zret (pc := 993) C rfl hM rk_0 dL_moves_993
    · have h := if_f h c7
      refine m_aload_n (pc := 978) C dL_moves_978 rfl (lv_at hl 0 rfl) ?_
      obtain ⟨a8, μ9, ca8, h⟩ := bd_some h
      refine V_L_digest (pc := 979) C hM ca8 bw_3_21 ⟨Nat.le_of_ble_eq_true rfl, Nat.le_of_ble_eq_true rfl⟩ hl.1 rc0 ⟨by show _ + 0 ≤ 10; omega, by show _ + 0 ≤ 2000; omega⟩ dL_moves_979 (fun ra8 H locs hM => ?_)
      refine m_lload (pc := 982) C dL_moves_982 (lv_at hl 2 rfl) ?_
      refine m_lcmp_ne (tgt := 992) (pc := 984) C ra8 rx11 dL_moves_984 dL_moves_985 (by decide) (fun c10 => ?_) (fun c10 => ?_)
      · have h := if_t h c10
        refine m_iconst (pc := 992) C dL_moves_992 ?_
        cases h
        refine W.widen (k := 10) (n := 2000) (by omega) (by omega) ?_
        exact m_zret (pc := 993) C rfl hM rk_0 dL_moves_993
      · have h := if_f h c10
        refine m_iconst (pc := 988) C dL_moves_988 ?_
        refine m_goto (tgt := 993) (pc := 989) C dL_moves_989 (by decide) ?_
        cases h
        refine W.widen (k := 10) (n := 2000) (by omega) (by omega) ?_
        exact m_zret (pc := 993) C rfl hM rk_1 dL_moves_993
set_option maxHeartbeats 4000000 in
set_option maxRecDepth 100000 in
theorem k_L_moves_b861 (C : gCx p s m args meth c cL_moves 24 (some .boolean) "moves" RL) (N : Nat) {r : Int} {μ' : Mm} : ∀ (x0 x2 x5 x8 x11 x13 x19 x20 x22 y0 bc bs : Int) (μ : Mm), f_L_moves_b861 N x0 x2 x5 x8 x11 x13 x19 x20 x22 y0 bc bs μ = some (r, μ') → R32 x2 → R32 x5 → R32 x8 → R64 x11 → R32 x13 → R32 x19 → R64 x20 → R32 x22 → R32 y0 → ∀ (H : Heap) (locs : List Loc) (ls : Array Slot) (cells slots : Nat), (cells : Int) + bc ≤ 10 ∧ 0 ≤ bc ∧ (slots : Int) + bs ≤ 2000 ∧ 0 ≤ bs → MS E μ s H locs → lv_has ls 24 [(0, vr E x0), (2, vi x2), (5, vi x5), (8, vi x8), (11, vl x11), (13, vi x13), (19, vi x19), (20, vl x20), (22, vi x22)] → W p l e ({ frames := 8, cells := 10, slots := 2000, locals := 180 } : Room) s m args below meth c H locs cells slots (MQ below (gQ E (some (vi r)) (R32 r) μ') args s 10 2000 (gA E)) (F0 m 861 ls [vi y0]) := by
  intro x0 x2 x5 x8 x11 x13 x19 x20 x22 y0 bc bs μ h rx2 rx5 rx8 rx11 rx13 rx19 rx20 rx22 ry0 H locs ls cells slots hb hM hl
  unfold f_L_moves_b861 at h
  refine m_istore (pc := 861) C dL_moves_861 hl (by decide) (lvK1 0 rfl (Nat.ne_of_beq_eq_false rfl) (Nat.ne_of_beq_eq_false rfl) (lvK1 1 rfl (Nat.ne_of_beq_eq_false rfl) (Nat.ne_of_beq_eq_false rfl) (lvK1 2 rfl (Nat.ne_of_beq_eq_false rfl) (Nat.ne_of_beq_eq_false rfl) (lvK1 3 rfl (Nat.ne_of_beq_eq_false rfl) (Nat.ne_of_beq_eq_false rfl) (lvK1 4 rfl (Nat.ne_of_beq_eq_false rfl) (Nat.ne_of_beq_eq_false rfl) (lvK1 5 rfl (Nat.ne_of_beq_eq_false rfl) (Nat.ne_of_beq_eq_false rfl) (lvK1 6 rfl (Nat.ne_of_beq_eq_false rfl) (Nat.ne_of_beq_eq_false rfl) (lvK1 7 rfl (Nat.ne_of_beq_eq_false rfl) (Nat.ne_of_beq_eq_false rfl) (lvK2 8 rfl (Nat.ne_of_beq_eq_false rfl) rfl lvK0))))))))) (fun ls hl => ?_)
  refine m_aload_n (pc := 863) C dL_moves_863 rfl (lv_at hl 1 rfl) ?_
  refine m_iload (pc := 864) C dL_moves_864 (lv_at hl 3 rfl) ?_
  refine m_iload (pc := 866) C dL_moves_866 (lv_at hl 7 rfl) ?_
  obtain ⟨q1, h⟩ := ck_some h
  obtain ⟨a2, μ3, ca2, h⟩ := bd_some h
  refine V_X7_give (pc := 868) C hM ca2 rx5 rx19 q1 bw_4_101 ⟨Nat.le_of_ble_eq_true rfl, Nat.le_of_ble_eq_true rfl⟩ hl.1 rc0 ⟨by show _ + 0 ≤ 10; omega, by show _ + 0 ≤ 2000; omega⟩ dL_moves_868 (fun ra2 H locs hM => ?_)
  refine m_istore (pc := 871) C dL_moves_871 hl (by decide) (lvK1 0 rfl (Nat.ne_of_beq_eq_false rfl) (Nat.ne_of_beq_eq_false rfl) (lvK1 1 rfl (Nat.ne_of_beq_eq_false rfl) (Nat.ne_of_beq_eq_false rfl) (lvK1 2 rfl (Nat.ne_of_beq_eq_false rfl) (Nat.ne_of_beq_eq_false rfl) (lvK1 4 rfl (Nat.ne_of_beq_eq_false rfl) (Nat.ne_of_beq_eq_false rfl) (lvK1 5 rfl (Nat.ne_of_beq_eq_false rfl) (Nat.ne_of_beq_eq_false rfl) (lvK1 6 rfl (Nat.ne_of_beq_eq_false rfl) (Nat.ne_of_beq_eq_false rfl) (lvK1 7 rfl (Nat.ne_of_beq_eq_false rfl) (Nat.ne_of_beq_eq_false rfl) (lvK1 8 rfl (Nat.ne_of_beq_eq_false rfl) (Nat.ne_of_beq_eq_false rfl) (lvK1 9 rfl (Nat.ne_of_beq_eq_false rfl) (Nat.ne_of_beq_eq_false rfl) lvK0))))))))) (fun ls hl => ?_)
  refine m_iload (pc := 873) C dL_moves_873 (lv_at hl 7 rfl) ?_
  refine m_iload (pc := 875) C dL_moves_875 (lv_at hl 4 rfl) ?_
  refine m_icmp_ne (tgt := 890) (pc := 877) C rx19 rx8 dL_moves_877 (by decide) (fun c4 => ?_) (fun c4 => ?_)
  · have h := if_t h c4
    refine m_iload (pc := 890) C dL_moves_890 (lv_at hl 9 rfl) ?_
    refine m_if_eq (tgt := 915) (pc := 892) C rx22 dL_moves_892 (by decide) (fun c5 => ?_) (fun c5 => ?_)
    · have h := if_t h c5
      refine m_iload (pc := 915) C dL_moves_915 (lv_at hl 1 rfl) ?_
      refine m_if_ne (tgt := 940) (pc := 917) C ry0 dL_moves_917 (by decide) (fun c6 => ?_) (fun c6 => ?_)
      · have h := if_t h c6
        refine m_iload (pc := 940) C dL_moves_940 (lv_at hl 0 rfl) ?_
        refine m_iload (pc := 942) C dL_moves_942 (lv_at hl 4 rfl) ?_
        refine m_icmp_ne (tgt := 960) (pc := 944) C ra2 rx8 dL_moves_944 (by decide) (fun c7 => ?_) (fun c7 => ?_)
        · have h := if_t h c7
          refine m_iconst (pc := 960) C dL_moves_960 ?_
          cases h
          refine W.widen (k := 10) (n := 2000) (by omega) (by omega) ?_
          exact m_zret (pc := 961) C rfl hM rk_0 dL_moves_961
        · have h := if_f h c7
          refine m_aload_n (pc := 947) C dL_moves_947 rfl (lv_at hl 2 rfl) ?_
          refine m_iload (pc := 948) C dL_moves_948 (lv_at hl 7 rfl) ?_
          refine m_iconst (pc := 950) C dL_moves_950 ?_
          obtain ⟨q8, h⟩ := ck_some h
          obtain ⟨a9, μ10, ca9, h⟩ := bd_some h
          refine V_X7_owner (pc := 951) C hM ca9 rx19 rk_3 q8 bw_3_30 ⟨Nat.le_of_ble_eq_true rfl, Nat.le_of_ble_eq_true rfl⟩ hl.1 rc0 ⟨by show _ + 0 ≤ 10; omega, by show _ + 0 ≤ 2000; omega⟩ dL_moves_951 (fun ra9 H locs hM => ?_)
          refine m_lload (pc := 954) C dL_moves_954 (lv_at hl 8 rfl) ?_
          refine m_lcmp_eq (tgt := 962) (pc := 956) C ra9 rx20 dL_moves_956 dL_moves_957 (by decide) (fun c11 => ?_) (fun c11 => ?_)
          · have h := if_t h c11
            exact k_L_moves_b962 C N _ _ _ _ _ _ _ _ h rx2 rx11 rx13 ra2 _ _ _ _ _ hb hM (lv_sub hl [2, 3, 5, 6, 0] rfl)
          · have h := if_f h c11
            refine m_iconst (pc := 960) C dL_moves_960 ?_
            cases h
            refine W.widen (k := 10) (n := 2000) (by omega) (by omega) ?_
            exact m_zret (pc := 961) C rfl hM rk_0 dL_moves_961
      · have h := if_f h c6
        refine m_iload (pc := 920) C dL_moves_920 (lv_at hl 0 rfl) ?_
        refine m_ldc (n := -100000003) (pc := 922) C bw_4_109 rfl dL_moves_922 ?_
        refine m_icmp_ne (tgt := 960) (pc := 924) C ra2 rk_m100000003 dL_moves_924 (by decide) (fun c12 => ?_) (fun c12 => ?_)
        · have h := if_t h c12
          refine m_iconst (pc := 960) C dL_moves_960 ?_
          cases h
          refine W.widen (k := 10) (n := 2000) (by omega) (by omega) ?_
          exact m_zret (pc := 961) C rfl hM rk_0 dL_moves_961
        · have h := if_f h c12
          refine m_aload_n (pc := 927) C dL_moves_927 rfl (lv_at hl 2 rfl) ?_
          refine m_bipush (pc := 928) C dL_moves_928 rfl ?_
          obtain ⟨q13, h⟩ := ck_some h
          obtain ⟨a14, μ15, ca14, h⟩ := bd_some h
          refine V_X7_count (pc := 930) C hM ca14 rk_11 q13 bw_3_4 ⟨Nat.le_of_ble_eq_true rfl, Nat.le_of_ble_eq_true rfl⟩ hl.1 rc0 ⟨by show _ + 0 ≤ 10; omega, by show _ + 0 ≤ 2000; omega⟩ dL_moves_930 (fun ra14 H locs hM => ?_)
          refine m_iconst (pc := 933) C dL_moves_933 ?_
          refine m_icmp_eq (tgt := 962) (pc := 934) C ra14 rk_2 dL_moves_934 (by decide) (fun c16 => ?_) (fun c16 => ?_)
          · have h := if_t h c16
            exact k_L_moves_b962 C N _ _ _ _ _ _ _ _ h rx2 rx11 rx13 ra2 _ _ _ _ _ hb hM (lv_sub hl [2, 3, 5, 6, 0] rfl)
          · have h := if_f h c16
            refine m_goto (tgt := 960) (pc := 937) C dL_moves_937 (by decide) ?_
            refine m_iconst (pc := 960) C dL_moves_960 ?_
            cases h
            refine W.widen (k := 10) (n := 2000) (by omega) (by omega) ?_
            exact m_zret (pc := 961) C rfl hM rk_0 dL_moves_961
    · have h := if_f h c5
      refine m_iload (pc := 895) C dL_moves_895 (lv_at hl 0 rfl) ?_
      refine m_ldc (n := -100000003) (pc := 897) C bw_4_109 rfl dL_moves_897 ?_
      refine m_icmp_ne (tgt := 960) (pc := 899) C ra2 rk_m100000003 dL_moves_899 (by decide) (fun c17 => ?_) (fun c17 => ?_)
      · have h := if_t h c17
        refine m_iconst (pc := 960) C dL_moves_960 ?_
        cases h
        refine W.widen (k := 10) (n := 2000) (by omega) (by omega) ?_
        exact m_zret (pc := 961) C rfl hM rk_0 dL_moves_961
      · have h := if_f h c17
        refine m_aload_n (pc := 902) C dL_moves_902 rfl (lv_at hl 2 rfl) ?_
        refine m_bipush (pc := 903) C dL_moves_903 rfl ?_
        obtain ⟨q18, h⟩ := ck_some h
        obtain ⟨a19, μ20, ca19, h⟩ := bd_some h
        refine V_X7_count (pc := 905) C hM ca19 rk_11 q18 bw_3_4 ⟨Nat.le_of_ble_eq_true rfl, Nat.le_of_ble_eq_true rfl⟩ hl.1 rc0 ⟨by show _ + 0 ≤ 10; omega, by show _ + 0 ≤ 2000; omega⟩ dL_moves_905 (fun ra19 H locs hM => ?_)
        refine m_iconst (pc := 908) C dL_moves_908 ?_
        refine m_icmp_eq (tgt := 962) (pc := 909) C ra19 rk_1 dL_moves_909 (by decide) (fun c21 => ?_) (fun c21 => ?_)
        · have h := if_t h c21
          exact k_L_moves_b962 C N _ _ _ _ _ _ _ _ h rx2 rx11 rx13 ra2 _ _ _ _ _ hb hM (lv_sub hl [2, 3, 5, 6, 0] rfl)
        · have h := if_f h c21
          refine m_goto (tgt := 960) (pc := 912) C dL_moves_912 (by decide) ?_
          refine m_iconst (pc := 960) C dL_moves_960 ?_
          cases h
          refine W.widen (k := 10) (n := 2000) (by omega) (by omega) ?_
          exact m_zret (pc := 961) C rfl hM rk_0 dL_moves_961
  · have h := if_f h c4
    refine m_iload (pc := 880) C dL_moves_880 (lv_at hl 0 rfl) ?_
    refine m_ldc (n := -100000002) (pc := 882) C bw_3_83 rfl dL_moves_882 ?_
    refine m_icmp_eq (tgt := 962) (pc := 884) C ra2 rk_m100000002 dL_moves_884 (by decide) (fun c22 => ?_) (fun c22 => ?_)
    · have h := if_t h c22
      exact k_L_moves_b962 C N _ _ _ _ _ _ _ _ h rx2 rx11 rx13 ra2 _ _ _ _ _ hb hM (lv_sub hl [2, 3, 5, 6, 0] rfl)
    · have h := if_f h c22
      refine m_goto (tgt := 960) (pc := 887) C dL_moves_887 (by decide) ?_
      refine m_iconst (pc := 960) C dL_moves_960 ?_
      cases h
      refine W.widen (k := 10) (n := 2000) (by omega) (by omega) ?_
      exact m_zret (pc := 961) C rfl hM rk_0 dL_moves_961
set_option maxHeartbeats 4000000 in
set_option maxRecDepth 100000 in
theorem k_L_moves_b829 (C : gCx p s m args meth c cL_moves 24 (some .boolean) "moves" RL) (N : Nat) {r : Int} {μ' : Mm} : ∀ (x0 x2 x5 x8 x11 x13 x19 x20 y0 bc bs : Int) (μ : Mm), f_L_moves_b829 N x0 x2 x5 x8 x11 x13 x19 x20 y0 bc bs μ = some (r, μ') → R32 x2 → R32 x5 → R32 x8 → R64 x11 → R32 x13 → R32 x19 → R64 x20 → R32 y0 → ∀ (H : Heap) (locs : List Loc) (ls : Array Slot) (cells slots : Nat), (cells : Int) + bc ≤ 10 ∧ 0 ≤ bc ∧ (slots : Int) + bs ≤ 2000 ∧ 0 ≤ bs → MS E μ s H locs → lv_has ls 24 [(0, vr E x0), (2, vi x2), (5, vi x5), (8, vi x8), (11, vl x11), (13, vi x13), (19, vi x19), (20, vl x20)] → W p l e ({ frames := 8, cells := 10, slots := 2000, locals := 180 } : Room) s m args below meth c H locs cells slots (MQ below (gQ E (some (vi r)) (R32 r) μ') args s 10 2000 (gA E)) (F0 m 829 ls [vi y0]) := by
  intro x0 x2 x5 x8 x11 x13 x19 x20 y0 bc bs μ h rx2 rx5 rx8 rx11 rx13 rx19 rx20 ry0 H locs ls cells slots hb hM hl
  unfold f_L_moves_b829 at h
  refine m_istore (pc := 829) C dL_moves_829 hl (by decide) (lvK1 0 rfl (Nat.ne_of_beq_eq_false rfl) (Nat.ne_of_beq_eq_false rfl) (lvK1 1 rfl (Nat.ne_of_beq_eq_false rfl) (Nat.ne_of_beq_eq_false rfl) (lvK1 2 rfl (Nat.ne_of_beq_eq_false rfl) (Nat.ne_of_beq_eq_false rfl) (lvK1 3 rfl (Nat.ne_of_beq_eq_false rfl) (Nat.ne_of_beq_eq_false rfl) (lvK1 4 rfl (Nat.ne_of_beq_eq_false rfl) (Nat.ne_of_beq_eq_false rfl) (lvK1 5 rfl (Nat.ne_of_beq_eq_false rfl) (Nat.ne_of_beq_eq_false rfl) (lvK1 6 rfl (Nat.ne_of_beq_eq_false rfl) (Nat.ne_of_beq_eq_false rfl) (lvK1 7 rfl (Nat.ne_of_beq_eq_false rfl) (Nat.ne_of_beq_eq_false rfl) lvK0)))))))) (fun ls hl => ?_)
  refine m_lload (pc := 831) C dL_moves_831 (lv_at hl 8 rfl) ?_
  refine m_aload_n (pc := 833) C dL_moves_833 rfl (lv_at hl 1 rfl) ?_
  refine m_bipush (pc := 834) C dL_moves_834 rfl ?_
  obtain ⟨q1, h⟩ := ck_some h
  obtain ⟨a2, μ3, ca2, h⟩ := bd_some h
  refine V_X7_count (pc := 836) C hM ca2 rk_8 q1 bw_3_4 ⟨Nat.le_of_ble_eq_true rfl, Nat.le_of_ble_eq_true rfl⟩ hl.1 (rcL rc0) ⟨by show _ + 0 ≤ 10; omega, by show _ + 0 ≤ 2000; omega⟩ dL_moves_836 (fun ra2 H locs hM => ?_)
  refine m_i2l (pc := 839) C ra2 dL_moves_839 ?_
  obtain ⟨a4, ea4, h⟩ := nm_some h
  have ra4 : R64 a4 := by rw [ea4]; exact w64_R _
  refine m_lmul (pc := 840) C dL_moves_840 ea4 ?_
  refine m_ldc2 (n := 100) (pc := 841) C bw_3_89 rfl dL_moves_841 ?_
  obtain ⟨a5, ea5, h⟩ := nm_some h
  have ra5 : R64 a5 := by rw [ea5]; exact w64_R _
  refine m_ldiv (pc := 844) C ra4 rl_100 (by decide) dL_moves_844 ea5 ?_
  refine m_aload_n (pc := 845) C dL_moves_845 rfl (lv_at hl 1 rfl) ?_
  refine m_iload (pc := 846) C dL_moves_846 (lv_at hl 7 rfl) ?_
  refine m_iconst (pc := 848) C dL_moves_848 ?_
  obtain ⟨q7, h⟩ := ck_some h
  obtain ⟨a8, μ9, ca8, h⟩ := bd_some h
  refine V_X7_owner (pc := 849) C hM ca8 rx19 rk_1 q7 bw_3_30 ⟨Nat.le_of_ble_eq_true rfl, Nat.le_of_ble_eq_true rfl⟩ hl.1 (rcL rc0) ⟨by show _ + 0 ≤ 10; omega, by show _ + 0 ≤ 2000; omega⟩ dL_moves_849 (fun ra8 H locs hM => ?_)
  refine m_lcmp_gt (tgt := 860) (pc := 852) C ra5 ra8 dL_moves_852 dL_moves_853 (by decide) (fun c10 => ?_) (fun c10 => ?_)
  · have h := if_t h c10
    refine m_iconst (pc := 860) C dL_moves_860 ?_
    exact k_L_moves_b861 C N _ _ _ _ _ _ _ _ _ _ _ _ _ h rx2 rx5 rx8 rx11 rx13 rx19 rx20 ry0 rk_0 _ _ _ _ _ hb hM (lv_sub hl [1, 2, 3, 4, 5, 6, 7, 8, 0] rfl)
  · have h := if_f h c10
    refine m_iconst (pc := 856) C dL_moves_856 ?_
    refine m_goto (tgt := 861) (pc := 857) C dL_moves_857 (by decide) ?_
    exact k_L_moves_b861 C N _ _ _ _ _ _ _ _ _ _ _ _ _ h rx2 rx5 rx8 rx11 rx13 rx19 rx20 ry0 rk_1 _ _ _ _ _ hb hM (lv_sub hl [1, 2, 3, 4, 5, 6, 7, 8, 0] rfl)
set_option maxHeartbeats 4000000 in
set_option maxRecDepth 100000 in
theorem k_L_moves_b776 (C : gCx p s m args meth c cL_moves 24 (some .boolean) "moves" RL) (N : Nat) {r : Int} {μ' : Mm} : ∀ (x0 x2 x11 x13 x18 bc bs : Int) (μ : Mm), f_L_moves_b776 N x0 x2 x11 x13 x18 bc bs μ = some (r, μ') → R32 x2 → R64 x11 → R32 x13 → R32 x18 → ∀ (H : Heap) (locs : List Loc) (ls : Array Slot) (cells slots : Nat), (cells : Int) + bc ≤ 10 ∧ 0 ≤ bc ∧ (slots : Int) + bs ≤ 2000 ∧ 0 ≤ bs → MS E μ s H locs → lv_has ls 24 [(0, vr E x0), (2, vi x2), (11, vl x11), (13, vi x13), (18, vi x18)] → W p l e ({ frames := 8, cells := 10, slots := 2000, locals := 180 } : Room) s m args below meth c H locs cells slots (MQ below (gQ E (some (vi r)) (R32 r) μ') args s 10 2000 (gA E)) (F0 m 776 ls []) := by
  intro x0 x2 x11 x13 x18 bc bs μ h rx2 rx11 rx13 rx18 H locs ls cells slots hb hM hl
  unfold f_L_moves_b776 at h
  refine m_goto (tgt := 962) (pc := 776) C dL_moves_776 (by decide) ?_
  exact k_L_moves_b962 C N _ _ _ _ _ _ _ _ h rx2 rx11 rx13 rx18 _ _ _ _ _ hb hM (lv_sub hl [0, 1, 2, 3, 4] rfl)
set_option maxHeartbeats 4000000 in
set_option maxRecDepth 100000 in
theorem k_L_moves_b663 (C : gCx p s m args meth c cL_moves 24 (some .boolean) "moves" RL) (N : Nat) {r : Int} {μ' : Mm} : ∀ (x0 x2 x11 x13 x18 bc bs : Int) (μ : Mm), f_L_moves_b663 N x0 x2 x11 x13 x18 bc bs μ = some (r, μ') → R32 x2 → R64 x11 → R32 x13 → R32 x18 → ∀ (H : Heap) (locs : List Loc) (ls : Array Slot) (cells slots : Nat), (cells : Int) + bc ≤ 10 ∧ 0 ≤ bc ∧ (slots : Int) + bs ≤ 2000 ∧ 0 ≤ bs → MS E μ s H locs → lv_has ls 24 [(0, vr E x0), (2, vi x2), (11, vl x11), (13, vi x13), (18, vi x18)] → W p l e ({ frames := 8, cells := 10, slots := 2000, locals := 180 } : Room) s m args below meth c H locs cells slots (MQ below (gQ E (some (vi r)) (R32 r) μ') args s 10 2000 (gA E)) (F0 m 663 ls []) := by
  intro x0 x2 x11 x13 x18 bc bs μ h rx2 rx11 rx13 rx18 H locs ls cells slots hb hM hl
  unfold f_L_moves_b663 at h
  refine m_goto (tgt := 962) (pc := 663) C dL_moves_663 (by decide) ?_
  exact k_L_moves_b962 C N _ _ _ _ _ _ _ _ h rx2 rx11 rx13 rx18 _ _ _ _ _ hb hM (lv_sub hl [0, 1, 2, 3, 4] rfl)
set_option maxHeartbeats 4000000 in
set_option maxRecDepth 100000 in
theorem k_L_moves_b527 (C : gCx p s m args meth c cL_moves 24 (some .boolean) "moves" RL) (N : Nat) {r : Int} {μ' : Mm} : ∀ (x0 x2 x11 x13 x18 bc bs : Int) (μ : Mm), f_L_moves_b527 N x0 x2 x11 x13 x18 bc bs μ = some (r, μ') → R32 x2 → R64 x11 → R32 x13 → R32 x18 → ∀ (H : Heap) (locs : List Loc) (ls : Array Slot) (cells slots : Nat), (cells : Int) + bc ≤ 10 ∧ 0 ≤ bc ∧ (slots : Int) + bs ≤ 2000 ∧ 0 ≤ bs → MS E μ s H locs → lv_has ls 24 [(0, vr E x0), (2, vi x2), (11, vl x11), (13, vi x13), (18, vi x18)] → W p l e ({ frames := 8, cells := 10, slots := 2000, locals := 180 } : Room) s m args below meth c H locs cells slots (MQ below (gQ E (some (vi r)) (R32 r) μ') args s 10 2000 (gA E)) (F0 m 527 ls []) := by
  intro x0 x2 x11 x13 x18 bc bs μ h rx2 rx11 rx13 rx18 H locs ls cells slots hb hM hl
  unfold f_L_moves_b527 at h
  refine m_goto (tgt := 962) (pc := 527) C dL_moves_527 (by decide) ?_
  exact k_L_moves_b962 C N _ _ _ _ _ _ _ _ h rx2 rx11 rx13 rx18 _ _ _ _ _ hb hM (lv_sub hl [0, 1, 2, 3, 4] rfl)
set_option maxHeartbeats 4000000 in
set_option maxRecDepth 100000 in
theorem k_L_moves_b508 (C : gCx p s m args meth c cL_moves 24 (some .boolean) "moves" RL) (N : Nat) {r : Int} {μ' : Mm} : ∀ (x0 x2 x8 x9 x11 x13 x18 bc bs : Int) (μ : Mm), f_L_moves_b508 N x0 x2 x8 x9 x11 x13 x18 bc bs μ = some (r, μ') → R32 x2 → R32 x8 → R64 x9 → R64 x11 → R32 x13 → R32 x18 → ∀ (H : Heap) (locs : List Loc) (ls : Array Slot) (cells slots : Nat), (cells : Int) + bc ≤ 10 ∧ 0 ≤ bc ∧ (slots : Int) + bs ≤ 2000 ∧ 0 ≤ bs → MS E μ s H locs → lv_has ls 24 [(0, vr E x0), (2, vi x2), (8, vi x8), (9, vl x9), (11, vl x11), (13, vi x13), (18, vi x18)] → W p l e ({ frames := 8, cells := 10, slots := 2000, locals := 180 } : Room) s m args below meth c H locs cells slots (MQ below (gQ E (some (vi r)) (R32 r) μ') args s 10 2000 (gA E)) (F0 m 508 ls []) := by
  intro x0 x2 x8 x9 x11 x13 x18 bc bs μ h rx2 rx8 rx9 rx11 rx13 rx18 H locs ls cells slots hb hM hl
  unfold f_L_moves_b508 at h
  refine m_aload_n (pc := 508) C dL_moves_508 rfl (lv_at hl 0 rfl) ?_
  refine m_iload (pc := 509) C dL_moves_509 (lv_at hl 2 rfl) ?_
  refine m_iconst (pc := 511) C dL_moves_511 ?_
  obtain ⟨q1, h⟩ := ck_some h
  obtain ⟨a2, μ3, ca2, h⟩ := bd_some h
  refine V_X7_owner (pc := 512) C hM ca2 rx8 rk_0 q1 bw_3_30 ⟨Nat.le_of_ble_eq_true rfl, Nat.le_of_ble_eq_true rfl⟩ hl.1 rc0 ⟨by show _ + 0 ≤ 10; omega, by show _ + 0 ≤ 2000; omega⟩ dL_moves_512 (fun ra2 H locs hM => ?_)
  refine m_lload (pc := 515) C dL_moves_515 (lv_at hl 3 rfl) ?_
  refine m_iload (pc := 517) C dL_moves_517 (lv_at hl 6 rfl) ?_
  refine m_i2l (pc := 519) C rx18 dL_moves_519 ?_
  obtain ⟨a4, ea4, h⟩ := nm_some h
  have ra4 : R64 a4 := by rw [ea4]; exact w64_R _
  refine m_lsub (pc := 520) C dL_moves_520 ea4 ?_
  refine m_lcmp_eq (tgt := 527) (pc := 521) C ra2 ra4 dL_moves_521 dL_moves_522 (by decide) (fun c5 => ?_) (fun c5 => ?_)
  · have h := if_t h c5
    exact k_L_moves_b527 C N _ _ _ _ _ _ _ _ h rx2 rx11 rx13 rx18 _ _ _ _ _ hb hM (lv_sub hl [0, 1, 4, 5, 6] rfl)
  · have h := if_f h c5
    refine m_iconst (pc := 525) C dL_moves_525 ?_
    cases h
    refine W.widen (k := 10) (n := 2000) (by omega) (by omega) ?_
    exact m_zret (pc := 526) C rfl hM rk_0 dL_moves_526
set_option maxHeartbeats 4000000 in
set_option maxRecDepth 100000 in
theorem k_L_moves_b492 (C : gCx p s m args meth c cL_moves 24 (some .boolean) "moves" RL) (N : Nat) {r : Int} {μ' : Mm} : ∀ (x0 x2 x8 x9 x11 x13 x16 x18 x19 bc bs : Int) (μ : Mm), f_L_moves_b492 N x0 x2 x8 x9 x11 x13 x16 x18 x19 bc bs μ = some (r, μ') → R32 x2 → R32 x8 → R64 x9 → R64 x11 → R32 x13 → R64 x16 → R32 x18 → R64 x19 → ∀ (H : Heap) (locs : List Loc) (ls : Array Slot) (cells slots : Nat), (cells : Int) + bc ≤ 10 ∧ 0 ≤ bc ∧ (slots : Int) + bs ≤ 2000 ∧ 0 ≤ bs → MS E μ s H locs → lv_has ls 24 [(0, vr E x0), (2, vi x2), (8, vi x8), (9, vl x9), (11, vl x11), (13, vi x13), (16, vl x16), (18, vi x18), (19, vl x19)] → W p l e ({ frames := 8, cells := 10, slots := 2000, locals := 180 } : Room) s m args below meth c H locs cells slots (MQ below (gQ E (some (vi r)) (R32 r) μ') args s 10 2000 (gA E)) (F0 m 492 ls []) := by
  intro x0 x2 x8 x9 x11 x13 x16 x18 x19 bc bs μ h rx2 rx8 rx9 rx11 rx13 rx16 rx18 rx19 H locs ls cells slots hb hM hl
  unfold f_L_moves_b492 at h
  refine m_lload (pc := 492) C dL_moves_492 (lv_at hl 8 rfl) ?_
  refine m_lconst (v := 0) (pc := 494) C dL_moves_494 rfl ?_
  refine m_lcmp_gt (tgt := 508) (pc := 495) C rx19 rl_0 dL_moves_495 dL_moves_496 (by decide) (fun c1 => ?_) (fun c1 => ?_)
  · have h := if_t h c1
    exact k_L_moves_b508 C N _ _ _ _ _ _ _ _ _ _ h rx2 rx8 rx9 rx11 rx13 rx18 _ _ _ _ _ hb hM (lv_sub hl [0, 1, 2, 3, 4, 5, 7] rfl)
  · have h := if_f h c1
    refine m_iload (pc := 499) C dL_moves_499 (lv_at hl 7 rfl) ?_
    refine m_i2l (pc := 501) C rx18 dL_moves_501 ?_
    refine m_lload (pc := 502) C dL_moves_502 (lv_at hl 6 rfl) ?_
    refine m_lcmp_ne (tgt := 525) (pc := 504) C (R32.to64 rx18) rx16 dL_moves_504 dL_moves_505 (by decide) (fun c2 => ?_) (fun c2 => ?_)
    · have h := if_t h c2
      refine m_iconst (pc := 525) C dL_moves_525 ?_
      cases h
      refine W.widen (k := 10) (n := 2000) (by omega) (by omega) ?_
      exact m_zret (pc := 526) C rfl hM rk_0 dL_moves_526
    · have h := if_f h c2
      exact k_L_moves_b508 C N _ _ _ _ _ _ _ _ _ _ h rx2 rx8 rx9 rx11 rx13 rx18 _ _ _ _ _ hb hM (lv_sub hl [0, 1, 2, 3, 4, 5, 7] rfl)
set_option maxHeartbeats 4000000 in
set_option maxRecDepth 100000 in
theorem k_L_moves_b435 (C : gCx p s m args meth c cL_moves 24 (some .boolean) "moves" RL) (N : Nat) {r : Int} {μ' : Mm} : ∀ (x0 x2 x5 x7 x8 x9 x11 x13 x16 x18 x19 x21 x22 bc bs : Int) (μ : Mm), f_L_moves_b435 N x0 x2 x5 x7 x8 x9 x11 x13 x16 x18 x19 x21 x22 bc bs μ = some (r, μ') → R32 x2 → R32 x5 → R32 x7 → R32 x8 → R64 x9 → R64 x11 → R32 x13 → R64 x16 → R32 x18 → R64 x19 → R32 x21 → R64 x22 → ∀ (H : Heap) (locs : List Loc) (ls : Array Slot) (cells slots : Nat), (cells : Int) + bc ≤ 10 ∧ 0 ≤ bc ∧ (slots : Int) + bs ≤ 2000 ∧ 0 ≤ bs → MS E μ s H locs → lv_has ls 24 [(0, vr E x0), (2, vi x2), (5, vi x5), (7, vi x7), (8, vi x8), (9, vl x9), (11, vl x11), (13, vi x13), (16, vl x16), (18, vi x18), (19, vl x19), (21, vi x21), (22, vl x22)] → W p l e ({ frames := 8, cells := 10, slots := 2000, locals := 180 } : Room) s m args below meth c H locs cells slots (MQ below (gQ E (some (vi r)) (R32 r) μ') args s 10 2000 (gA E)) (F0 m 435 ls []) := by
  intro x0 x2 x5 x7 x8 x9 x11 x13 x16 x18 x19 x21 x22 bc bs μ h rx2 rx5 rx7 rx8 rx9 rx11 rx13 rx16 rx18 rx19 rx21 rx22 H locs ls cells slots hb hM hl
  unfold f_L_moves_b435 at h
  refine m_iload (pc := 435) C dL_moves_435 (lv_at hl 9 rfl) ?_
  refine m_if_lt (tgt := 527) (pc := 437) C rx18 dL_moves_437 (by decide) (fun c1 => ?_) (fun c1 => ?_)
  · have h := if_t h c1
    exact k_L_moves_b527 C N _ _ _ _ _ _ _ _ h rx2 rx11 rx13 rx18 _ _ _ _ _ hb hM (lv_sub hl [0, 1, 6, 7, 9] rfl)
  · have h := if_f h c1
    refine m_aload_n (pc := 440) C dL_moves_440 rfl (lv_at hl 0 rfl) ?_
    refine m_iload (pc := 441) C dL_moves_441 (lv_at hl 2 rfl) ?_
    refine m_bipush (pc := 443) C dL_moves_443 rfl ?_
    obtain ⟨q2, h⟩ := ck_some h
    obtain ⟨a3, μ4, ca3, h⟩ := bd_some h
    refine V_X7_lot (pc := 445) C hM ca3 rx5 rk_11 q2 bw_3_54 ⟨Nat.le_of_ble_eq_true rfl, Nat.le_of_ble_eq_true rfl⟩ hl.1 rc0 ⟨by show _ + 0 ≤ 10; omega, by show _ + 0 ≤ 2000; omega⟩ dL_moves_445 (fun ra3 H locs hM => ?_)
    refine m_iload (pc := 448) C dL_moves_448 (lv_at hl 11 rfl) ?_
    refine m_iload (pc := 450) C dL_moves_450 (lv_at hl 3 rfl) ?_
    obtain ⟨a5, ea5, h⟩ := nm_some h
    have ra5 : R32 a5 := by rw [ea5]; exact w32_R _
    refine m_iadd (pc := 452) C dL_moves_452 ea5 ?_
    refine m_icmp_ne (tgt := 525) (pc := 453) C ra3 ra5 dL_moves_453 (by decide) (fun c6 => ?_) (fun c6 => ?_)
    · have h := if_t h c6
      refine m_iconst (pc := 525) C dL_moves_525 ?_
      cases h
      refine W.widen (k := 10) (n := 2000) (by omega) (by omega) ?_
      exact m_zret (pc := 526) C rfl hM rk_0 dL_moves_526
    · have h := if_f h c6
      refine m_aload_n (pc := 456) C dL_moves_456 rfl (lv_at hl 0 rfl) ?_
      refine m_iload (pc := 457) C dL_moves_457 (lv_at hl 2 rfl) ?_
      refine m_bipush (pc := 459) C dL_moves_459 rfl ?_
      obtain ⟨q7, h⟩ := ck_some h
      obtain ⟨a8, μ9, ca8, h⟩ := bd_some h
      refine V_X7_lot (pc := 461) C hM ca8 rx5 rk_10 q7 bw_3_54 ⟨Nat.le_of_ble_eq_true rfl, Nat.le_of_ble_eq_true rfl⟩ hl.1 rc0 ⟨by show _ + 0 ≤ 10; omega, by show _ + 0 ≤ 2000; omega⟩ dL_moves_461 (fun ra8 H locs hM => ?_)
      refine m_i2l (pc := 464) C ra8 dL_moves_464 ?_
      refine m_lload (pc := 465) C dL_moves_465 (lv_at hl 12 rfl) ?_
      obtain ⟨a10, ea10, h⟩ := nm_some h
      have ra10 : R64 a10 := by rw [ea10]; exact w64_R _
      refine m_lsub (pc := 467) C dL_moves_467 ea10 ?_
      refine m_iload (pc := 468) C dL_moves_468 (lv_at hl 9 rfl) ?_
      refine m_i2l (pc := 470) C rx18 dL_moves_470 ?_
      obtain ⟨a11, ea11, h⟩ := nm_some h
      have ra11 : R64 a11 := by rw [ea11]; exact w64_R _
      refine m_ladd (pc := 471) C dL_moves_471 ea11 ?_
      refine m_lload (pc := 472) C dL_moves_472 (lv_at hl 8 rfl) ?_
      refine m_lcmp_ne (tgt := 525) (pc := 474) C ra11 rx16 dL_moves_474 dL_moves_475 (by decide) (fun c12 => ?_) (fun c12 => ?_)
      · have h := if_t h c12
        refine m_iconst (pc := 525) C dL_moves_525 ?_
        cases h
        refine W.widen (k := 10) (n := 2000) (by omega) (by omega) ?_
        exact m_zret (pc := 526) C rfl hM rk_0 dL_moves_526
      · have h := if_f h c12
        refine m_lload (pc := 478) C dL_moves_478 (lv_at hl 10 rfl) ?_
        refine m_iload (pc := 480) C dL_moves_480 (lv_at hl 3 rfl) ?_
        refine m_i2l (pc := 482) C rx7 dL_moves_482 ?_
        refine m_lcmp_lt (tgt := 492) (pc := 483) C rx19 (R32.to64 rx7) dL_moves_483 dL_moves_484 (by decide) (fun c13 => ?_) (fun c13 => ?_)
        · have h := if_t h c13
          exact k_L_moves_b492 C N _ _ _ _ _ _ _ _ _ _ _ _ h rx2 rx8 rx9 rx11 rx13 rx16 rx18 rx19 _ _ _ _ _ hb hM (lv_sub hl [0, 1, 4, 5, 6, 7, 8, 9, 10] rfl)
        · have h := if_f h c13
          refine m_iload (pc := 487) C dL_moves_487 (lv_at hl 9 rfl) ?_
          refine m_if_ne (tgt := 525) (pc := 489) C rx18 dL_moves_489 (by decide) (fun c14 => ?_) (fun c14 => ?_)
          · have h := if_t h c14
            refine m_iconst (pc := 525) C dL_moves_525 ?_
            cases h
            refine W.widen (k := 10) (n := 2000) (by omega) (by omega) ?_
            exact m_zret (pc := 526) C rfl hM rk_0 dL_moves_526
          · have h := if_f h c14
            exact k_L_moves_b492 C N _ _ _ _ _ _ _ _ _ _ _ _ h rx2 rx8 rx9 rx11 rx13 rx16 rx18 rx19 _ _ _ _ _ hb hM (lv_sub hl [0, 1, 4, 5, 6, 7, 8, 9, 10] rfl)
set_option maxHeartbeats 4000000 in
set_option maxRecDepth 100000 in
theorem k_L_moves_b134 (C : gCx p s m args meth c cL_moves 24 (some .boolean) "moves" RL) (N : Nat) {r : Int} {μ' : Mm} : ∀ (x0 x1 x2 x5 x6 y0 bc bs : Int) (μ : Mm), f_L_moves_b134 N x0 x1 x2 x5 x6 y0 bc bs μ = some (r, μ') → R32 x1 → R32 x2 → R32 x5 → R32 x6 → R32 y0 → ∀ (H : Heap) (locs : List Loc) (ls : Array Slot) (cells slots : Nat), (cells : Int) + bc ≤ 10 ∧ 0 ≤ bc ∧ (slots : Int) + bs ≤ 2000 ∧ 0 ≤ bs → MS E μ s H locs → lv_has ls 24 [(0, vr E x0), (1, vi x1), (2, vi x2), (5, vi x5), (6, vi x6)] → W p l e ({ frames := 8, cells := 10, slots := 2000, locals := 180 } : Room) s m args below meth c H locs cells slots (MQ below (gQ E (some (vi r)) (R32 r) μ') args s 10 2000 (gA E)) (F0 m 134 ls [vi y0]) := by
  intro x0 x1 x2 x5 x6 y0 bc bs μ h rx1 rx2 rx5 rx6 ry0 H locs ls cells slots hb hM hl
  unfold f_L_moves_b134 at h
  refine m_istore (pc := 134) C dL_moves_134 hl (by decide) (lvK1 0 rfl (Nat.ne_of_beq_eq_false rfl) (Nat.ne_of_beq_eq_false rfl) (lvK1 1 rfl (Nat.ne_of_beq_eq_false rfl) (Nat.ne_of_beq_eq_false rfl) (lvK1 2 rfl (Nat.ne_of_beq_eq_false rfl) (Nat.ne_of_beq_eq_false rfl) (lvK1 3 rfl (Nat.ne_of_beq_eq_false rfl) (Nat.ne_of_beq_eq_false rfl) (lvK2 4 rfl (Nat.ne_of_beq_eq_false rfl) rfl lvK0))))) (fun ls hl => ?_)
  refine m_aload_n (pc := 136) C dL_moves_136 rfl (lv_at hl 1 rfl) ?_
  refine m_iload (pc := 137) C dL_moves_137 (lv_at hl 4 rfl) ?_
  refine m_iconst (pc := 139) C dL_moves_139 ?_
  obtain ⟨q1, h⟩ := ck_some h
  obtain ⟨a2, μ3, ca2, h⟩ := bd_some h
  refine V_X7_lot (pc := 140) C hM ca2 rx5 rk_0 q1 bw_3_54 ⟨Nat.le_of_ble_eq_true rfl, Nat.le_of_ble_eq_true rfl⟩ hl.1 rc0 ⟨by show _ + 0 ≤ 10; omega, by show _ + 0 ≤ 2000; omega⟩ dL_moves_140 (fun ra2 H locs hM => ?_)
  refine m_istore (pc := 143) C dL_moves_143 hl (by decide) (lvK2 0 rfl (Nat.ne_of_beq_eq_false rfl) rfl (lvK1 1 rfl (Nat.ne_of_beq_eq_false rfl) (Nat.ne_of_beq_eq_false rfl) (lvK1 2 rfl (Nat.ne_of_beq_eq_false rfl) (Nat.ne_of_beq_eq_false rfl) (lvK1 3 rfl (Nat.ne_of_beq_eq_false rfl) (Nat.ne_of_beq_eq_false rfl) (lvK1 4 rfl (Nat.ne_of_beq_eq_false rfl) (Nat.ne_of_beq_eq_false rfl) (lvK1 5 rfl (Nat.ne_of_beq_eq_false rfl) (Nat.ne_of_beq_eq_false rfl) lvK0)))))) (fun ls hl => ?_)
  refine m_aload_n (pc := 145) C dL_moves_145 rfl (lv_at hl 2 rfl) ?_
  refine m_iload (pc := 146) C dL_moves_146 (lv_at hl 0 rfl) ?_
  refine m_iconst (pc := 148) C dL_moves_148 ?_
  obtain ⟨q4, h⟩ := ck_some h
  obtain ⟨a5, μ6, ca5, h⟩ := bd_some h
  refine V_X7_owner (pc := 149) C hM ca5 ra2 rk_0 q4 bw_3_30 ⟨Nat.le_of_ble_eq_true rfl, Nat.le_of_ble_eq_true rfl⟩ hl.1 rc0 ⟨by show _ + 0 ≤ 10; omega, by show _ + 0 ≤ 2000; omega⟩ dL_moves_149 (fun ra5 H locs hM => ?_)
  refine m_lstore (pc := 152) C dL_moves_152 hl (by decide) (lvK2 0 rfl (Nat.ne_of_beq_eq_false rfl) rfl (lvK1 1 rfl (Nat.ne_of_beq_eq_false rfl) (Nat.ne_of_beq_eq_false rfl) (lvK1 2 rfl (Nat.ne_of_beq_eq_false rfl) (Nat.ne_of_beq_eq_false rfl) (lvK1 3 rfl (Nat.ne_of_beq_eq_false rfl) (Nat.ne_of_beq_eq_false rfl) (lvK1 4 rfl (Nat.ne_of_beq_eq_false rfl) (Nat.ne_of_beq_eq_false rfl) (lvK1 5 rfl (Nat.ne_of_beq_eq_false rfl) (Nat.ne_of_beq_eq_false rfl) (lvK1 6 rfl (Nat.ne_of_beq_eq_false rfl) (Nat.ne_of_beq_eq_false rfl) lvK0))))))) (lvN1 (Nat.ne_of_beq_eq_false rfl) (lvN1 (Nat.ne_of_beq_eq_false rfl) (lvN1 (Nat.ne_of_beq_eq_false rfl) (lvN1 (Nat.ne_of_beq_eq_false rfl) (lvN1 (Nat.ne_of_beq_eq_false rfl) (lvN1 (Nat.ne_of_beq_eq_false rfl) (lvN1 (Nat.ne_of_beq_eq_false rfl) lvN0))))))) (fun ls hl => ?_)
  refine m_aload_n (pc := 154) C dL_moves_154 rfl (lv_at hl 3 rfl) ?_
  obtain ⟨a7, μ8, ca7, h⟩ := bd_some h
  refine V_L_digest (pc := 155) C hM ca7 bw_3_21 ⟨Nat.le_of_ble_eq_true rfl, Nat.le_of_ble_eq_true rfl⟩ hl.1 rc0 ⟨by show _ + 0 ≤ 10; omega, by show _ + 0 ≤ 2000; omega⟩ dL_moves_155 (fun ra7 H locs hM => ?_)
  refine m_lstore (pc := 158) C dL_moves_158 hl (by decide) (lvK1 0 rfl (Nat.ne_of_beq_eq_false rfl) (Nat.ne_of_beq_eq_false rfl) (lvK1 1 rfl (Nat.ne_of_beq_eq_false rfl) (Nat.ne_of_beq_eq_false rfl) (lvK1 2 rfl (Nat.ne_of_beq_eq_false rfl) (Nat.ne_of_beq_eq_false rfl) (lvK1 3 rfl (Nat.ne_of_beq_eq_false rfl) (Nat.ne_of_beq_eq_false rfl) (lvK1 4 rfl (Nat.ne_of_beq_eq_false rfl) (Nat.ne_of_beq_eq_false rfl) (lvK1 5 rfl (Nat.ne_of_beq_eq_false rfl) (Nat.ne_of_beq_eq_false rfl) (lvK1 6 rfl (Nat.ne_of_beq_eq_false rfl) (Nat.ne_of_beq_eq_false rfl) (lvK1 7 rfl (Nat.ne_of_beq_eq_false rfl) (Nat.ne_of_beq_eq_false rfl) lvK0)))))))) (lvN1 (Nat.ne_of_beq_eq_false rfl) (lvN1 (Nat.ne_of_beq_eq_false rfl) (lvN1 (Nat.ne_of_beq_eq_false rfl) (lvN1 (Nat.ne_of_beq_eq_false rfl) (lvN1 (Nat.ne_of_beq_eq_false rfl) (lvN1 (Nat.ne_of_beq_eq_false rfl) (lvN1 (Nat.ne_of_beq_eq_false rfl) (lvN1 (Nat.ne_of_beq_eq_false rfl) lvN0)))))))) (fun ls hl => ?_)
  refine m_aload_n (pc := 160) C dL_moves_160 rfl (lv_at hl 4 rfl) ?_
  refine m_bipush (pc := 161) C dL_moves_161 rfl ?_
  obtain ⟨q9, h⟩ := ck_some h
  obtain ⟨a10, μ11, ca10, h⟩ := bd_some h
  refine V_X7_count (pc := 163) C hM ca10 rk_12 q9 bw_3_4 ⟨Nat.le_of_ble_eq_true rfl, Nat.le_of_ble_eq_true rfl⟩ hl.1 rc0 ⟨by show _ + 0 ≤ 10; omega, by show _ + 0 ≤ 2000; omega⟩ dL_moves_163 (fun ra10 H locs hM => ?_)
  refine m_istore (pc := 166) C dL_moves_166 hl (by decide) (lvK1 0 rfl (Nat.ne_of_beq_eq_false rfl) (Nat.ne_of_beq_eq_false rfl) (lvK1 1 rfl (Nat.ne_of_beq_eq_false rfl) (Nat.ne_of_beq_eq_false rfl) (lvK1 2 rfl (Nat.ne_of_beq_eq_false rfl) (Nat.ne_of_beq_eq_false rfl) (lvK1 3 rfl (Nat.ne_of_beq_eq_false rfl) (Nat.ne_of_beq_eq_false rfl) (lvK1 4 rfl (Nat.ne_of_beq_eq_false rfl) (Nat.ne_of_beq_eq_false rfl) (lvK1 5 rfl (Nat.ne_of_beq_eq_false rfl) (Nat.ne_of_beq_eq_false rfl) (lvK1 6 rfl (Nat.ne_of_beq_eq_false rfl) (Nat.ne_of_beq_eq_false rfl) (lvK1 7 rfl (Nat.ne_of_beq_eq_false rfl) (Nat.ne_of_beq_eq_false rfl) (lvK1 8 rfl (Nat.ne_of_beq_eq_false rfl) (Nat.ne_of_beq_eq_false rfl) lvK0))))))))) (fun ls hl => ?_)
  refine m_aload_n (pc := 168) C dL_moves_168 rfl (lv_at hl 5 rfl) ?_
  refine m_iload (pc := 169) C dL_moves_169 (lv_at hl 8 rfl) ?_
  refine m_iconst (pc := 171) C dL_moves_171 ?_
  obtain ⟨q12, h⟩ := ck_some h
  obtain ⟨a13, μ14, ca13, h⟩ := bd_some h
  refine V_X7_lot (pc := 172) C hM ca13 rx5 rk_2 q12 bw_3_54 ⟨Nat.le_of_ble_eq_true rfl, Nat.le_of_ble_eq_true rfl⟩ hl.1 rc0 ⟨by show _ + 0 ≤ 10; omega, by show _ + 0 ≤ 2000; omega⟩ dL_moves_172 (fun ra13 H locs hM => ?_)
  refine m_i2l (pc := 175) C ra13 dL_moves_175 ?_
  refine m_lstore (pc := 176) C dL_moves_176 hl (by decide) (lvK2 0 rfl (Nat.ne_of_beq_eq_false rfl) rfl (lvK1 1 rfl (Nat.ne_of_beq_eq_false rfl) (Nat.ne_of_beq_eq_false rfl) (lvK1 2 rfl (Nat.ne_of_beq_eq_false rfl) (Nat.ne_of_beq_eq_false rfl) (lvK1 3 rfl (Nat.ne_of_beq_eq_false rfl) (Nat.ne_of_beq_eq_false rfl) (lvK1 4 rfl (Nat.ne_of_beq_eq_false rfl) (Nat.ne_of_beq_eq_false rfl) (lvK1 5 rfl (Nat.ne_of_beq_eq_false rfl) (Nat.ne_of_beq_eq_false rfl) (lvK1 6 rfl (Nat.ne_of_beq_eq_false rfl) (Nat.ne_of_beq_eq_false rfl) (lvK1 7 rfl (Nat.ne_of_beq_eq_false rfl) (Nat.ne_of_beq_eq_false rfl) (lvK1 8 rfl (Nat.ne_of_beq_eq_false rfl) (Nat.ne_of_beq_eq_false rfl) (lvK1 9 rfl (Nat.ne_of_beq_eq_false rfl) (Nat.ne_of_beq_eq_false rfl) lvK0)))))))))) (lvN1 (Nat.ne_of_beq_eq_false rfl) (lvN1 (Nat.ne_of_beq_eq_false rfl) (lvN1 (Nat.ne_of_beq_eq_false rfl) (lvN1 (Nat.ne_of_beq_eq_false rfl) (lvN1 (Nat.ne_of_beq_eq_false rfl) (lvN1 (Nat.ne_of_beq_eq_false rfl) (lvN1 (Nat.ne_of_beq_eq_false rfl) (lvN1 (Nat.ne_of_beq_eq_false rfl) (lvN1 (Nat.ne_of_beq_eq_false rfl) (lvN1 (Nat.ne_of_beq_eq_false rfl) lvN0)))))))))) (fun ls hl => ?_)
  refine m_aload_n (pc := 178) C dL_moves_178 rfl (lv_at hl 6 rfl) ?_
  refine m_iload (pc := 179) C dL_moves_179 (lv_at hl 9 rfl) ?_
  refine m_bipush (pc := 181) C dL_moves_181 rfl ?_
  obtain ⟨q15, h⟩ := ck_some h
  obtain ⟨a16, μ17, ca16, h⟩ := bd_some h
  refine V_X7_lot (pc := 183) C hM ca16 rx5 rk_6 q15 bw_3_54 ⟨Nat.le_of_ble_eq_true rfl, Nat.le_of_ble_eq_true rfl⟩ hl.1 rc0 ⟨by show _ + 0 ≤ 10; omega, by show _ + 0 ≤ 2000; omega⟩ dL_moves_183 (fun ra16 H locs hM => ?_)
  refine m_i2l (pc := 186) C ra16 dL_moves_186 ?_
  refine m_lload (pc := 187) C dL_moves_187 (lv_at hl 0 rfl) ?_
  refine m_iload (pc := 189) C dL_moves_189 (lv_at hl 10 rfl) ?_
  refine m_i2l (pc := 191) C rx6 dL_moves_191 ?_
  obtain ⟨a18, ea18, h⟩ := nm_some h
  have ra18 : R64 a18 := by rw [ea18]; exact w64_R _
  refine m_lsub (pc := 192) C dL_moves_192 ea18 ?_
  refine m_iload (pc := 193) C dL_moves_193 (lv_at hl 5 rfl) ?_
  refine m_i2l (pc := 195) C ry0 dL_moves_195 ?_
  obtain ⟨a19, ea19, h⟩ := nm_some h
  have ra19 : R64 a19 := by rw [ea19]; exact w64_R _
  refine m_ladd (pc := 196) C dL_moves_196 ea19 ?_
  obtain ⟨a20, ea20, h⟩ := nm_some h
  have ra20 : R64 a20 := by rw [ea20]; exact w64_R _
  refine m_lmul (pc := 197) C dL_moves_197 ea20 ?_
  refine m_lload (pc := 198) C dL_moves_198 (lv_at hl 0 rfl) ?_
  obtain ⟨q22, h⟩ := ck_some h
  obtain ⟨a21, ea21, h⟩ := nm_some h
  have ra21 : R64 a21 := by rw [ea21]; exact w64_R _
  refine m_ldiv (pc := 200) C ra20 (R32.to64 ra13) q22 dL_moves_200 ea21 ?_
  refine m_aload_n (pc := 201) C dL_moves_201 rfl (lv_at hl 6 rfl) ?_
  refine m_iload (pc := 202) C dL_moves_202 (lv_at hl 9 rfl) ?_
  refine m_bipush (pc := 204) C dL_moves_204 rfl ?_
  obtain ⟨q23, h⟩ := ck_some h
  obtain ⟨a24, μ25, ca24, h⟩ := bd_some h
  refine V_X7_lot (pc := 206) C hM ca24 rx5 rk_6 q23 bw_3_54 ⟨Nat.le_of_ble_eq_true rfl, Nat.le_of_ble_eq_true rfl⟩ hl.1 (rcL rc0) ⟨by show _ + 0 ≤ 10; omega, by show _ + 0 ≤ 2000; omega⟩ dL_moves_206 (fun ra24 H locs hM => ?_)
  refine m_i2l (pc := 209) C ra24 dL_moves_209 ?_
  refine m_lload (pc := 210) C dL_moves_210 (lv_at hl 0 rfl) ?_
  refine m_iload (pc := 212) C dL_moves_212 (lv_at hl 10 rfl) ?_
  refine m_i2l (pc := 214) C rx6 dL_moves_214 ?_
  obtain ⟨a26, ea26, h⟩ := nm_some h
  have ra26 : R64 a26 := by rw [ea26]; exact w64_R _
  refine m_lsub (pc := 215) C dL_moves_215 ea26 ?_
  obtain ⟨a27, ea27, h⟩ := nm_some h
  have ra27 : R64 a27 := by rw [ea27]; exact w64_R _
  refine m_lmul (pc := 216) C dL_moves_216 ea27 ?_
  refine m_lload (pc := 217) C dL_moves_217 (lv_at hl 0 rfl) ?_
  obtain ⟨q29, h⟩ := ck_some h
  obtain ⟨a28, ea28, h⟩ := nm_some h
  have ra28 : R64 a28 := by rw [ea28]; exact w64_R _
  refine m_ldiv (pc := 219) C ra27 (R32.to64 ra13) q29 dL_moves_219 ea28 ?_
  obtain ⟨a30, ea30, h⟩ := nm_some h
  have ra30 : R64 a30 := by rw [ea30]; exact w64_R _
  refine m_lsub (pc := 220) C dL_moves_220 ea30 ?_
  refine m_lstore (pc := 221) C dL_moves_221 hl (by decide) (lvK1 0 rfl (Nat.ne_of_beq_eq_false rfl) (Nat.ne_of_beq_eq_false rfl) (lvK1 1 rfl (Nat.ne_of_beq_eq_false rfl) (Nat.ne_of_beq_eq_false rfl) (lvK1 2 rfl (Nat.ne_of_beq_eq_false rfl) (Nat.ne_of_beq_eq_false rfl) (lvK1 3 rfl (Nat.ne_of_beq_eq_false rfl) (Nat.ne_of_beq_eq_false rfl) (lvK1 4 rfl (Nat.ne_of_beq_eq_false rfl) (Nat.ne_of_beq_eq_false rfl) (lvK1 5 rfl (Nat.ne_of_beq_eq_false rfl) (Nat.ne_of_beq_eq_false rfl) (lvK1 6 rfl (Nat.ne_of_beq_eq_false rfl) (Nat.ne_of_beq_eq_false rfl) (lvK1 7 rfl (Nat.ne_of_beq_eq_false rfl) (Nat.ne_of_beq_eq_false rfl) (lvK1 8 rfl (Nat.ne_of_beq_eq_false rfl) (Nat.ne_of_beq_eq_false rfl) (lvK1 9 rfl (Nat.ne_of_beq_eq_false rfl) (Nat.ne_of_beq_eq_false rfl) (lvK1 10 rfl (Nat.ne_of_beq_eq_false rfl) (Nat.ne_of_beq_eq_false rfl) lvK0))))))))))) (lvN1 (Nat.ne_of_beq_eq_false rfl) (lvN1 (Nat.ne_of_beq_eq_false rfl) (lvN1 (Nat.ne_of_beq_eq_false rfl) (lvN1 (Nat.ne_of_beq_eq_false rfl) (lvN1 (Nat.ne_of_beq_eq_false rfl) (lvN1 (Nat.ne_of_beq_eq_false rfl) (lvN1 (Nat.ne_of_beq_eq_false rfl) (lvN1 (Nat.ne_of_beq_eq_false rfl) (lvN1 (Nat.ne_of_beq_eq_false rfl) (lvN1 (Nat.ne_of_beq_eq_false rfl) (lvN1 (Nat.ne_of_beq_eq_false rfl) lvN0))))))))))) (fun ls hl => ?_)
  refine m_iconst (pc := 223) C dL_moves_223 ?_
  refine m_istore (pc := 224) C dL_moves_224 hl (by decide) (lvK1 0 rfl (Nat.ne_of_beq_eq_false rfl) (Nat.ne_of_beq_eq_false rfl) (lvK1 1 rfl (Nat.ne_of_beq_eq_false rfl) (Nat.ne_of_beq_eq_false rfl) (lvK1 2 rfl (Nat.ne_of_beq_eq_false rfl) (Nat.ne_of_beq_eq_false rfl) (lvK1 3 rfl (Nat.ne_of_beq_eq_false rfl) (Nat.ne_of_beq_eq_false rfl) (lvK1 4 rfl (Nat.ne_of_beq_eq_false rfl) (Nat.ne_of_beq_eq_false rfl) (lvK1 5 rfl (Nat.ne_of_beq_eq_false rfl) (Nat.ne_of_beq_eq_false rfl) (lvK1 6 rfl (Nat.ne_of_beq_eq_false rfl) (Nat.ne_of_beq_eq_false rfl) (lvK1 7 rfl (Nat.ne_of_beq_eq_false rfl) (Nat.ne_of_beq_eq_false rfl) (lvK1 8 rfl (Nat.ne_of_beq_eq_false rfl) (Nat.ne_of_beq_eq_false rfl) (lvK1 9 rfl (Nat.ne_of_beq_eq_false rfl) (Nat.ne_of_beq_eq_false rfl) (lvK1 10 rfl (Nat.ne_of_beq_eq_false rfl) (Nat.ne_of_beq_eq_false rfl) (lvK1 11 rfl (Nat.ne_of_beq_eq_false rfl) (Nat.ne_of_beq_eq_false rfl) lvK0)))))))))))) (fun ls hl => ?_)
  refine m_iload_n (pc := 226) C dL_moves_226 rfl (lv_at hl 9 rfl) ?_
  refine m_if_ne (tgt := 322) (pc := 227) C rx1 dL_moves_227 (by decide) (fun c31 => ?_) (fun c31 => ?_)
  · have h := if_t h c31
    refine m_iload_n (pc := 322) C dL_moves_322 rfl (lv_at hl 9 rfl) ?_
    refine m_iconst (pc := 323) C dL_moves_323 ?_
    refine m_icmp_ne (tgt := 530) (pc := 324) C rx1 rk_1 dL_moves_324 (by decide) (fun c32 => ?_) (fun c32 => ?_)
    · have h := if_t h c32
      refine m_iload_n (pc := 530) C dL_moves_530 rfl (lv_at hl 9 rfl) ?_
      refine m_iconst (pc := 531) C dL_moves_531 ?_
      refine m_icmp_ne (tgt := 666) (pc := 532) C rx1 rk_2 dL_moves_532 (by decide) (fun c33 => ?_) (fun c33 => ?_)
      · have h := if_t h c33
        refine m_iload_n (pc := 666) C dL_moves_666 rfl (lv_at hl 9 rfl) ?_
        refine m_iconst (pc := 667) C dL_moves_667 ?_
        refine m_icmp_ne (tgt := 779) (pc := 668) C rx1 rk_3 dL_moves_668 (by decide) (fun c34 => ?_) (fun c34 => ?_)
        · have h := if_t h c34
          refine m_iload_n (pc := 779) C dL_moves_779 rfl (lv_at hl 10 rfl) ?_
          refine m_bipush (pc := 780) C dL_moves_780 rfl ?_
          obtain ⟨a35, ea35, h⟩ := nm_some h
          have ra35 : R32 a35 := by rw [ea35]; exact R32_of _
          refine m_ishr (pc := 782) C dL_moves_782 ea35 ?_
          refine m_aload_n (pc := 783) C dL_moves_783 rfl (lv_at hl 8 rfl) ?_
          refine m_iconst (pc := 784) C dL_moves_784 ?_
          obtain ⟨q36, h⟩ := ck_some h
          obtain ⟨a37, μ38, ca37, h⟩ := bd_some h
          refine V_X7_count (pc := 785) C hM ca37 rk_1 q36 bw_3_4 ⟨Nat.le_of_ble_eq_true rfl, Nat.le_of_ble_eq_true rfl⟩ hl.1 (rcI rc0) ⟨by show _ + 0 ≤ 10; omega, by show _ + 0 ≤ 2000; omega⟩ dL_moves_785 (fun ra37 H locs hM => ?_)
          obtain ⟨a39, μ40, ca39, h⟩ := bd_some h
          refine V_L_low (pc := 788) C hM ca39 ra35 ra37 bw_3_17 ⟨Nat.le_of_ble_eq_true rfl, Nat.le_of_ble_eq_true rfl⟩ hl.1 rc0 ⟨by show _ + 0 ≤ 10; omega, by show _ + 0 ≤ 2000; omega⟩ dL_moves_788 (fun ra39 H locs hM => ?_)
          refine m_istore (pc := 791) C dL_moves_791 hl (by decide) (lvK1 3 rfl (Nat.ne_of_beq_eq_false rfl) (Nat.ne_of_beq_eq_false rfl) (lvK1 4 rfl (Nat.ne_of_beq_eq_false rfl) (Nat.ne_of_beq_eq_false rfl) (lvK1 6 rfl (Nat.ne_of_beq_eq_false rfl) (Nat.ne_of_beq_eq_false rfl) (lvK1 8 rfl (Nat.ne_of_beq_eq_false rfl) (Nat.ne_of_beq_eq_false rfl) (lvK1 10 rfl (Nat.ne_of_beq_eq_false rfl) (Nat.ne_of_beq_eq_false rfl) (lvK1 11 rfl (Nat.ne_of_beq_eq_false rfl) (Nat.ne_of_beq_eq_false rfl) lvK0)))))) (fun ls hl => ?_)
          refine m_aload_n (pc := 793) C dL_moves_793 rfl (lv_at hl 4 rfl) ?_
          refine m_iload (pc := 794) C dL_moves_794 (lv_at hl 0 rfl) ?_
          refine m_iconst (pc := 796) C dL_moves_796 ?_
          obtain ⟨q41, h⟩ := ck_some h
          obtain ⟨a42, μ43, ca42, h⟩ := bd_some h
          refine V_X7_owner (pc := 797) C hM ca42 ra39 rk_3 q41 bw_3_30 ⟨Nat.le_of_ble_eq_true rfl, Nat.le_of_ble_eq_true rfl⟩ hl.1 rc0 ⟨by show _ + 0 ≤ 10; omega, by show _ + 0 ≤ 2000; omega⟩ dL_moves_797 (fun ra42 H locs hM => ?_)
          refine m_aload_n (pc := 800) C dL_moves_800 rfl (lv_at hl 4 rfl) ?_
          refine m_iload (pc := 801) C dL_moves_801 (lv_at hl 6 rfl) ?_
          refine m_bipush (pc := 803) C dL_moves_803 rfl ?_
          obtain ⟨q44, h⟩ := ck_some h
          obtain ⟨a45, μ46, ca45, h⟩ := bd_some h
          refine V_X7_lot (pc := 805) C hM ca45 rx5 rk_8 q44 bw_3_54 ⟨Nat.le_of_ble_eq_true rfl, Nat.le_of_ble_eq_true rfl⟩ hl.1 (rcL rc0) ⟨by show _ + 0 ≤ 10; omega, by show _ + 0 ≤ 2000; omega⟩ dL_moves_805 (fun ra45 H locs hM => ?_)
          refine m_i2l (pc := 808) C ra45 dL_moves_808 ?_
          obtain ⟨a47, ea47, h⟩ := nm_some h
          have ra47 : R64 a47 := by rw [ea47]; exact w64_R _
          refine m_ladd (pc := 809) C dL_moves_809 ea47 ?_
          refine m_lstore (pc := 810) C dL_moves_810 hl (by decide) (lvK2 0 rfl (Nat.ne_of_beq_eq_false rfl) rfl (lvK1 1 rfl (Nat.ne_of_beq_eq_false rfl) (Nat.ne_of_beq_eq_false rfl) (lvK1 2 rfl (Nat.ne_of_beq_eq_false rfl) (Nat.ne_of_beq_eq_false rfl) (lvK1 3 rfl (Nat.ne_of_beq_eq_false rfl) (Nat.ne_of_beq_eq_false rfl) (lvK1 4 rfl (Nat.ne_of_beq_eq_false rfl) (Nat.ne_of_beq_eq_false rfl) (lvK1 5 rfl (Nat.ne_of_beq_eq_false rfl) (Nat.ne_of_beq_eq_false rfl) (lvK1 6 rfl (Nat.ne_of_beq_eq_false rfl) (Nat.ne_of_beq_eq_false rfl) lvK0))))))) (lvN1 (Nat.ne_of_beq_eq_false rfl) (lvN1 (Nat.ne_of_beq_eq_false rfl) (lvN1 (Nat.ne_of_beq_eq_false rfl) (lvN1 (Nat.ne_of_beq_eq_false rfl) (lvN1 (Nat.ne_of_beq_eq_false rfl) (lvN1 (Nat.ne_of_beq_eq_false rfl) (lvN1 (Nat.ne_of_beq_eq_false rfl) lvN0))))))) (fun ls hl => ?_)
          refine m_aload_n (pc := 812) C dL_moves_812 rfl (lv_at hl 5 rfl) ?_
          refine m_iload (pc := 813) C dL_moves_813 (lv_at hl 1 rfl) ?_
          refine m_iconst (pc := 815) C dL_moves_815 ?_
          obtain ⟨q48, h⟩ := ck_some h
          obtain ⟨a49, μ50, ca49, h⟩ := bd_some h
          refine V_X7_owner (pc := 816) C hM ca49 ra39 rk_2 q48 bw_3_30 ⟨Nat.le_of_ble_eq_true rfl, Nat.le_of_ble_eq_true rfl⟩ hl.1 rc0 ⟨by show _ + 0 ≤ 10; omega, by show _ + 0 ≤ 2000; omega⟩ dL_moves_816 (fun ra49 H locs hM => ?_)
          refine m_lconst (v := 0) (pc := 819) C dL_moves_819 rfl ?_
          refine m_lcmp_le (tgt := 828) (pc := 820) C ra49 rl_0 dL_moves_820 dL_moves_821 (by decide) (fun c51 => ?_) (fun c51 => ?_)
          · have h := if_t h c51
            refine m_iconst (pc := 828) C dL_moves_828 ?_
            exact k_L_moves_b829 C N _ _ _ _ _ _ _ _ _ _ _ _ h rx2 rx5 ra2 ra7 ra10 ra39 ra47 rk_0 _ _ _ _ _ hb hM (lv_sub hl [5, 6, 7, 4, 3, 2, 1, 0] rfl)
          · have h := if_f h c51
            refine m_iconst (pc := 824) C dL_moves_824 ?_
            refine m_goto (tgt := 829) (pc := 825) C dL_moves_825 (by decide) ?_
            exact k_L_moves_b829 C N _ _ _ _ _ _ _ _ _ _ _ _ h rx2 rx5 ra2 ra7 ra10 ra39 ra47 rk_1 _ _ _ _ _ hb hM (lv_sub hl [5, 6, 7, 4, 3, 2, 1, 0] rfl)
        · have h := if_f h c34
          refine m_aload_n (pc := 671) C dL_moves_671 rfl (lv_at hl 8 rfl) ?_
          refine m_iload (pc := 672) C dL_moves_672 (lv_at hl 11 rfl) ?_
          refine m_iload (pc := 674) C dL_moves_674 (lv_at hl 7 rfl) ?_
          obtain ⟨q52, h⟩ := ck_some h
          obtain ⟨a53, μ54, ca53, h⟩ := bd_some h
          refine V_X7_destroy (pc := 676) C hM ca53 rx5 ry0 q52 bw_4_93 ⟨Nat.le_of_ble_eq_true rfl, Nat.le_of_ble_eq_true rfl⟩ hl.1 rc0 ⟨by show _ + 0 ≤ 10; omega, by show _ + 0 ≤ 2000; omega⟩ dL_moves_676 (fun ra53 H locs hM => ?_)
          refine m_istore (pc := 679) C dL_moves_679 hl (by decide) (lvK1 1 rfl (Nat.ne_of_beq_eq_false rfl) (Nat.ne_of_beq_eq_false rfl) (lvK1 3 rfl (Nat.ne_of_beq_eq_false rfl) (Nat.ne_of_beq_eq_false rfl) (lvK1 4 rfl (Nat.ne_of_beq_eq_false rfl) (Nat.ne_of_beq_eq_false rfl) (lvK1 5 rfl (Nat.ne_of_beq_eq_false rfl) (Nat.ne_of_beq_eq_false rfl) (lvK1 6 rfl (Nat.ne_of_beq_eq_false rfl) (Nat.ne_of_beq_eq_false rfl) (lvK1 7 rfl (Nat.ne_of_beq_eq_false rfl) (Nat.ne_of_beq_eq_false rfl) (lvK1 8 rfl (Nat.ne_of_beq_eq_false rfl) (Nat.ne_of_beq_eq_false rfl) (lvK1 10 rfl (Nat.ne_of_beq_eq_false rfl) (Nat.ne_of_beq_eq_false rfl) (lvK1 12 rfl (Nat.ne_of_beq_eq_false rfl) (Nat.ne_of_beq_eq_false rfl) lvK0))))))))) (fun ls hl => ?_)
          refine m_aload_n (pc := 681) C dL_moves_681 rfl (lv_at hl 7 rfl) ?_
          refine m_bipush (pc := 682) C dL_moves_682 rfl ?_
          obtain ⟨q55, h⟩ := ck_some h
          obtain ⟨a56, μ57, ca56, h⟩ := bd_some h
          refine V_X7_count (pc := 684) C hM ca56 rk_10 q55 bw_3_4 ⟨Nat.le_of_ble_eq_true rfl, Nat.le_of_ble_eq_true rfl⟩ hl.1 rc0 ⟨by show _ + 0 ≤ 10; omega, by show _ + 0 ≤ 2000; omega⟩ dL_moves_684 (fun ra56 H locs hM => ?_)
          refine m_i2l (pc := 687) C ra56 dL_moves_687 ?_
          refine m_iload (pc := 688) C dL_moves_688 (lv_at hl 6 rfl) ?_
          refine m_i2l (pc := 690) C ry0 dL_moves_690 ?_
          obtain ⟨a58, ea58, h⟩ := nm_some h
          have ra58 : R64 a58 := by rw [ea58]; exact w64_R _
          refine m_lmul (pc := 691) C dL_moves_691 ea58 ?_
          refine m_lstore (pc := 692) C dL_moves_692 hl (by decide) (lvK2 0 rfl (Nat.ne_of_beq_eq_false rfl) rfl (lvK1 1 rfl (Nat.ne_of_beq_eq_false rfl) (Nat.ne_of_beq_eq_false rfl) (lvK1 2 rfl (Nat.ne_of_beq_eq_false rfl) (Nat.ne_of_beq_eq_false rfl) (lvK1 3 rfl (Nat.ne_of_beq_eq_false rfl) (Nat.ne_of_beq_eq_false rfl) (lvK1 4 rfl (Nat.ne_of_beq_eq_false rfl) (Nat.ne_of_beq_eq_false rfl) (lvK1 5 rfl (Nat.ne_of_beq_eq_false rfl) (Nat.ne_of_beq_eq_false rfl) (lvK1 6 rfl (Nat.ne_of_beq_eq_false rfl) (Nat.ne_of_beq_eq_false rfl) (lvK1 7 rfl (Nat.ne_of_beq_eq_false rfl) (Nat.ne_of_beq_eq_false rfl) (lvK1 8 rfl (Nat.ne_of_beq_eq_false rfl) (Nat.ne_of_beq_eq_false rfl) (lvK1 9 rfl (Nat.ne_of_beq_eq_false rfl) (Nat.ne_of_beq_eq_false rfl) lvK0)))))))))) (lvN1 (Nat.ne_of_beq_eq_false rfl) (lvN1 (Nat.ne_of_beq_eq_false rfl) (lvN1 (Nat.ne_of_beq_eq_false rfl) (lvN1 (Nat.ne_of_beq_eq_false rfl) (lvN1 (Nat.ne_of_beq_eq_false rfl) (lvN1 (Nat.ne_of_beq_eq_false rfl) (lvN1 (Nat.ne_of_beq_eq_false rfl) (lvN1 (Nat.ne_of_beq_eq_false rfl) (lvN1 (Nat.ne_of_beq_eq_false rfl) (lvN1 (Nat.ne_of_beq_eq_false rfl) lvN0)))))))))) (fun ls hl => ?_)
          refine m_iload (pc := 694) C dL_moves_694 (lv_at hl 7 rfl) ?_
          refine m_iload (pc := 696) C dL_moves_696 (lv_at hl 10 rfl) ?_
          refine m_icmp_le (tgt := 721) (pc := 698) C ry0 rx6 dL_moves_698 (by decide) (fun c59 => ?_) (fun c59 => ?_)
          · have h := if_t h c59
            refine m_lload (pc := 721) C dL_moves_721 (lv_at hl 0 rfl) ?_
            refine m_lload (pc := 723) C dL_moves_723 (lv_at hl 5 rfl) ?_
            refine m_lcmp_le (tgt := 749) (pc := 725) C ra58 ra5 dL_moves_725 dL_moves_726 (by decide) (fun c60 => ?_) (fun c60 => ?_)
            · have h := if_t h c60
              refine m_iload (pc := 749) C dL_moves_749 (lv_at hl 1 rfl) ?_
              refine m_i2l (pc := 751) C ra53 dL_moves_751 ?_
              refine m_lload (pc := 752) C dL_moves_752 (lv_at hl 2 rfl) ?_
              refine m_lcmp_ne (tgt := 774) (pc := 754) C (R32.to64 ra53) ra30 dL_moves_754 dL_moves_755 (by decide) (fun c61 => ?_) (fun c61 => ?_)
              · have h := if_t h c61
                refine m_iconst (pc := 774) C dL_moves_774 ?_
                cases h
                refine W.widen (k := 10) (n := 2000) (by omega) (by omega) ?_
                exact m_zret (pc := 775) C rfl hM rk_0 dL_moves_775
              · have h := if_f h c61
                refine m_aload_n (pc := 758) C dL_moves_758 rfl (lv_at hl 8 rfl) ?_
                refine m_iload (pc := 759) C dL_moves_759 (lv_at hl 6 rfl) ?_
                refine m_iconst (pc := 761) C dL_moves_761 ?_
                obtain ⟨q62, h⟩ := ck_some h
                obtain ⟨a63, μ64, ca63, h⟩ := bd_some h
                refine V_X7_owner (pc := 762) C hM ca63 ra2 rk_0 q62 bw_3_30 ⟨Nat.le_of_ble_eq_true rfl, Nat.le_of_ble_eq_true rfl⟩ hl.1 rc0 ⟨by show _ + 0 ≤ 10; omega, by show _ + 0 ≤ 2000; omega⟩ dL_moves_762 (fun ra63 H locs hM => ?_)
                refine m_lload (pc := 765) C dL_moves_765 (lv_at hl 5 rfl) ?_
                refine m_lload (pc := 767) C dL_moves_767 (lv_at hl 0 rfl) ?_
                obtain ⟨a65, ea65, h⟩ := nm_some h
                have ra65 : R64 a65 := by rw [ea65]; exact w64_R _
                refine m_lsub (pc := 769) C dL_moves_769 ea65 ?_
                refine m_lcmp_eq (tgt := 776) (pc := 770) C ra63 ra65 dL_moves_770 dL_moves_771 (by decide) (fun c66 => ?_) (fun c66 => ?_)
                · have h := if_t h c66
                  exact k_L_moves_b776 C N _ _ _ _ _ _ _ _ h rx2 ra7 ra10 ra53 _ _ _ _ _ hb hM (lv_sub hl [8, 9, 4, 3, 1] rfl)
                · have h := if_f h c66
                  refine m_iconst (pc := 774) C dL_moves_774 ?_
                  cases h
                  refine W.widen (k := 10) (n := 2000) (by omega) (by omega) ?_
                  exact m_zret (pc := 775) C rfl hM rk_0 dL_moves_775
            · have h := if_f h c60
              refine m_iload (pc := 729) C dL_moves_729 (lv_at hl 1 rfl) ?_
              refine m_ldc (n := -100000003) (pc := 731) C bw_4_109 rfl dL_moves_731 ?_
              refine m_icmp_ne (tgt := 774) (pc := 733) C ra53 rk_m100000003 dL_moves_733 (by decide) (fun c67 => ?_) (fun c67 => ?_)
              · have h := if_t h c67
                refine m_iconst (pc := 774) C dL_moves_774 ?_
                cases h
                refine W.widen (k := 10) (n := 2000) (by omega) (by omega) ?_
                exact m_zret (pc := 775) C rfl hM rk_0 dL_moves_775
              · have h := if_f h c67
                refine m_aload_n (pc := 736) C dL_moves_736 rfl (lv_at hl 8 rfl) ?_
                refine m_bipush (pc := 737) C dL_moves_737 rfl ?_
                obtain ⟨q68, h⟩ := ck_some h
                obtain ⟨a69, μ70, ca69, h⟩ := bd_some h
                refine V_X7_count (pc := 739) C hM ca69 rk_11 q68 bw_3_4 ⟨Nat.le_of_ble_eq_true rfl, Nat.le_of_ble_eq_true rfl⟩ hl.1 rc0 ⟨by show _ + 0 ≤ 10; omega, by show _ + 0 ≤ 2000; omega⟩ dL_moves_739 (fun ra69 H locs hM => ?_)
                refine m_iconst (pc := 742) C dL_moves_742 ?_
                refine m_icmp_eq (tgt := 776) (pc := 743) C ra69 rk_3 dL_moves_743 (by decide) (fun c71 => ?_) (fun c71 => ?_)
                · have h := if_t h c71
                  exact k_L_moves_b776 C N _ _ _ _ _ _ _ _ h rx2 ra7 ra10 ra53 _ _ _ _ _ hb hM (lv_sub hl [8, 9, 4, 3, 1] rfl)
                · have h := if_f h c71
                  refine m_goto (tgt := 774) (pc := 746) C dL_moves_746 (by decide) ?_
                  refine m_iconst (pc := 774) C dL_moves_774 ?_
                  cases h
                  refine W.widen (k := 10) (n := 2000) (by omega) (by omega) ?_
                  exact m_zret (pc := 775) C rfl hM rk_0 dL_moves_775
          · have h := if_f h c59
            refine m_iload (pc := 701) C dL_moves_701 (lv_at hl 1 rfl) ?_
            refine m_ldc (n := -100000003) (pc := 703) C bw_4_109 rfl dL_moves_703 ?_
            refine m_icmp_ne (tgt := 774) (pc := 705) C ra53 rk_m100000003 dL_moves_705 (by decide) (fun c72 => ?_) (fun c72 => ?_)
            · have h := if_t h c72
              refine m_iconst (pc := 774) C dL_moves_774 ?_
              cases h
              refine W.widen (k := 10) (n := 2000) (by omega) (by omega) ?_
              exact m_zret (pc := 775) C rfl hM rk_0 dL_moves_775
            · have h := if_f h c72
              refine m_aload_n (pc := 708) C dL_moves_708 rfl (lv_at hl 8 rfl) ?_
              refine m_bipush (pc := 709) C dL_moves_709 rfl ?_
              obtain ⟨q73, h⟩ := ck_some h
              obtain ⟨a74, μ75, ca74, h⟩ := bd_some h
              refine V_X7_count (pc := 711) C hM ca74 rk_11 q73 bw_3_4 ⟨Nat.le_of_ble_eq_true rfl, Nat.le_of_ble_eq_true rfl⟩ hl.1 rc0 ⟨by show _ + 0 ≤ 10; omega, by show _ + 0 ≤ 2000; omega⟩ dL_moves_711 (fun ra74 H locs hM => ?_)
              refine m_iconst (pc := 714) C dL_moves_714 ?_
              refine m_icmp_eq (tgt := 776) (pc := 715) C ra74 rk_4 dL_moves_715 (by decide) (fun c76 => ?_) (fun c76 => ?_)
              · have h := if_t h c76
                exact k_L_moves_b776 C N _ _ _ _ _ _ _ _ h rx2 ra7 ra10 ra53 _ _ _ _ _ hb hM (lv_sub hl [8, 9, 4, 3, 1] rfl)
              · have h := if_f h c76
                refine m_goto (tgt := 774) (pc := 718) C dL_moves_718 (by decide) ?_
                refine m_iconst (pc := 774) C dL_moves_774 ?_
                cases h
                refine W.widen (k := 10) (n := 2000) (by omega) (by omega) ?_
                exact m_zret (pc := 775) C rfl hM rk_0 dL_moves_775
      · have h := if_f h c33
        refine m_aload_n (pc := 535) C dL_moves_535 rfl (lv_at hl 8 rfl) ?_
        refine m_iconst (pc := 536) C dL_moves_536 ?_
        obtain ⟨q77, h⟩ := ck_some h
        obtain ⟨a78, μ79, ca78, h⟩ := bd_some h
        refine V_X7_count (pc := 537) C hM ca78 rk_3 q77 bw_3_4 ⟨Nat.le_of_ble_eq_true rfl, Nat.le_of_ble_eq_true rfl⟩ hl.1 rc0 ⟨by show _ + 0 ≤ 10; omega, by show _ + 0 ≤ 2000; omega⟩ dL_moves_537 (fun ra78 H locs hM => ?_)
        refine m_istore (pc := 540) C dL_moves_540 hl (by decide) (lvK1 1 rfl (Nat.ne_of_beq_eq_false rfl) (Nat.ne_of_beq_eq_false rfl) (lvK1 3 rfl (Nat.ne_of_beq_eq_false rfl) (Nat.ne_of_beq_eq_false rfl) (lvK1 4 rfl (Nat.ne_of_beq_eq_false rfl) (Nat.ne_of_beq_eq_false rfl) (lvK1 7 rfl (Nat.ne_of_beq_eq_false rfl) (Nat.ne_of_beq_eq_false rfl) (lvK1 8 rfl (Nat.ne_of_beq_eq_false rfl) (Nat.ne_of_beq_eq_false rfl) (lvK1 10 rfl (Nat.ne_of_beq_eq_false rfl) (Nat.ne_of_beq_eq_false rfl) (lvK1 11 rfl (Nat.ne_of_beq_eq_false rfl) (Nat.ne_of_beq_eq_false rfl) (lvK1 12 rfl (Nat.ne_of_beq_eq_false rfl) (Nat.ne_of_beq_eq_false rfl) lvK0)))))))) (fun ls hl => ?_)
        refine m_aload_n (pc := 542) C dL_moves_542 rfl (lv_at hl 5 rfl) ?_
        refine m_iload (pc := 543) C dL_moves_543 (lv_at hl 7 rfl) ?_
        refine m_iload (pc := 545) C dL_moves_545 (lv_at hl 4 rfl) ?_
        obtain ⟨q80, h⟩ := ck_some h
        obtain ⟨a81, μ82, ca81, h⟩ := bd_some h
        refine V_X7_export (pc := 547) C hM ca81 rx5 ry0 q80 bw_4_85 ⟨Nat.le_of_ble_eq_true rfl, Nat.le_of_ble_eq_true rfl⟩ hl.1 rc0 ⟨by show _ + 0 ≤ 10; omega, by show _ + 0 ≤ 2000; omega⟩ dL_moves_547 (fun ra81 H locs hM => ?_)
        refine m_istore (pc := 550) C dL_moves_550 hl (by decide) (lvK1 0 rfl (Nat.ne_of_beq_eq_false rfl) (Nat.ne_of_beq_eq_false rfl) (lvK1 1 rfl (Nat.ne_of_beq_eq_false rfl) (Nat.ne_of_beq_eq_false rfl) (lvK1 2 rfl (Nat.ne_of_beq_eq_false rfl) (Nat.ne_of_beq_eq_false rfl) (lvK1 3 rfl (Nat.ne_of_beq_eq_false rfl) (Nat.ne_of_beq_eq_false rfl) (lvK1 4 rfl (Nat.ne_of_beq_eq_false rfl) (Nat.ne_of_beq_eq_false rfl) (lvK1 5 rfl (Nat.ne_of_beq_eq_false rfl) (Nat.ne_of_beq_eq_false rfl) (lvK1 6 rfl (Nat.ne_of_beq_eq_false rfl) (Nat.ne_of_beq_eq_false rfl) (lvK1 8 rfl (Nat.ne_of_beq_eq_false rfl) (Nat.ne_of_beq_eq_false rfl) lvK0)))))))) (fun ls hl => ?_)
        refine m_iload (pc := 552) C dL_moves_552 (lv_at hl 5 rfl) ?_
        refine m_iload (pc := 554) C dL_moves_554 (lv_at hl 8 rfl) ?_
        refine m_icmp_le (tgt := 579) (pc := 556) C ry0 rx6 dL_moves_556 (by decide) (fun c83 => ?_) (fun c83 => ?_)
        · have h := if_t h c83
          refine m_iload (pc := 579) C dL_moves_579 (lv_at hl 1 rfl) ?_
          refine m_bipush (pc := 581) C dL_moves_581 rfl ?_
          refine m_icmp_ne (tgt := 606) (pc := 583) C ra78 rk_30 dL_moves_583 (by decide) (fun c84 => ?_) (fun c84 => ?_)
          · have h := if_t h c84
            refine m_iload (pc := 606) C dL_moves_606 (lv_at hl 0 rfl) ?_
            refine m_iload (pc := 608) C dL_moves_608 (lv_at hl 1 rfl) ?_
            refine m_icmp_ne (tgt := 661) (pc := 610) C ra81 ra78 dL_moves_610 (by decide) (fun c85 => ?_) (fun c85 => ?_)
            · have h := if_t h c85
              refine m_iconst (pc := 661) C dL_moves_661 ?_
              cases h
              refine W.widen (k := 10) (n := 2000) (by omega) (by omega) ?_
              exact m_zret (pc := 662) C rfl hM rk_0 dL_moves_662
            · have h := if_f h c85
              refine m_aload_n (pc := 613) C dL_moves_613 rfl (lv_at hl 6 rfl) ?_
              refine m_iload (pc := 614) C dL_moves_614 (lv_at hl 0 rfl) ?_
              refine m_iconst (pc := 616) C dL_moves_616 ?_
              obtain ⟨q86, h⟩ := ck_some h
              obtain ⟨a87, μ88, ca87, h⟩ := bd_some h
              refine V_X7_exported (pc := 617) C hM ca87 ra81 rk_2 q86 bw_2_226 ⟨Nat.le_of_ble_eq_true rfl, Nat.le_of_ble_eq_true rfl⟩ hl.1 rc0 ⟨by show _ + 0 ≤ 10; omega, by show _ + 0 ≤ 2000; omega⟩ dL_moves_617 (fun ra87 H locs hM => ?_)
              refine m_i2l (pc := 620) C ra87 dL_moves_620 ?_
              refine m_lload (pc := 621) C dL_moves_621 (lv_at hl 2 rfl) ?_
              refine m_lcmp_ne (tgt := 661) (pc := 623) C (R32.to64 ra87) ra30 dL_moves_623 dL_moves_624 (by decide) (fun c89 => ?_) (fun c89 => ?_)
              · have h := if_t h c89
                refine m_iconst (pc := 661) C dL_moves_661 ?_
                cases h
                refine W.widen (k := 10) (n := 2000) (by omega) (by omega) ?_
                exact m_zret (pc := 662) C rfl hM rk_0 dL_moves_662
              · have h := if_f h c89
                refine m_aload_n (pc := 627) C dL_moves_627 rfl (lv_at hl 6 rfl) ?_
                refine m_iload (pc := 628) C dL_moves_628 (lv_at hl 0 rfl) ?_
                refine m_iconst (pc := 630) C dL_moves_630 ?_
                obtain ⟨q90, h⟩ := ck_some h
                obtain ⟨a91, μ92, ca91, h⟩ := bd_some h
                refine V_X7_exported (pc := 631) C hM ca91 ra81 rk_1 q90 bw_2_226 ⟨Nat.le_of_ble_eq_true rfl, Nat.le_of_ble_eq_true rfl⟩ hl.1 rc0 ⟨by show _ + 0 ≤ 10; omega, by show _ + 0 ≤ 2000; omega⟩ dL_moves_631 (fun ra91 H locs hM => ?_)
                refine m_iload (pc := 634) C dL_moves_634 (lv_at hl 5 rfl) ?_
                refine m_icmp_ne (tgt := 661) (pc := 636) C ra91 ry0 dL_moves_636 (by decide) (fun c93 => ?_) (fun c93 => ?_)
                · have h := if_t h c93
                  refine m_iconst (pc := 661) C dL_moves_661 ?_
                  cases h
                  refine W.widen (k := 10) (n := 2000) (by omega) (by omega) ?_
                  exact m_zret (pc := 662) C rfl hM rk_0 dL_moves_662
                · have h := if_f h c93
                  refine m_aload_n (pc := 639) C dL_moves_639 rfl (lv_at hl 6 rfl) ?_
                  refine m_iload (pc := 640) C dL_moves_640 (lv_at hl 0 rfl) ?_
                  refine m_iconst (pc := 642) C dL_moves_642 ?_
                  obtain ⟨q94, h⟩ := ck_some h
                  obtain ⟨a95, μ96, ca95, h⟩ := bd_some h
                  refine V_X7_exported (pc := 643) C hM ca95 ra81 rk_3 q94 bw_2_226 ⟨Nat.le_of_ble_eq_true rfl, Nat.le_of_ble_eq_true rfl⟩ hl.1 rc0 ⟨by show _ + 0 ≤ 10; omega, by show _ + 0 ≤ 2000; omega⟩ dL_moves_643 (fun ra95 H locs hM => ?_)
                  refine m_aload_n (pc := 646) C dL_moves_646 rfl (lv_at hl 6 rfl) ?_
                  refine m_iconst (pc := 647) C dL_moves_647 ?_
                  obtain ⟨q97, h⟩ := ck_some h
                  obtain ⟨a98, μ99, ca98, h⟩ := bd_some h
                  refine V_X7_count (pc := 648) C hM ca98 rk_0 q97 bw_3_4 ⟨Nat.le_of_ble_eq_true rfl, Nat.le_of_ble_eq_true rfl⟩ hl.1 (rcI rc0) ⟨by show _ + 0 ≤ 10; omega, by show _ + 0 ≤ 2000; omega⟩ dL_moves_648 (fun ra98 H locs hM => ?_)
                  refine m_aload_n (pc := 651) C dL_moves_651 rfl (lv_at hl 6 rfl) ?_
                  refine m_bipush (pc := 652) C dL_moves_652 rfl ?_
                  obtain ⟨q100, h⟩ := ck_some h
                  obtain ⟨a101, μ102, ca101, h⟩ := bd_some h
                  refine V_X7_count (pc := 654) C hM ca101 rk_7 q100 bw_3_4 ⟨Nat.le_of_ble_eq_true rfl, Nat.le_of_ble_eq_true rfl⟩ hl.1 (rcI (rcI rc0)) ⟨by show _ + 0 ≤ 10; omega, by show _ + 0 ≤ 2000; omega⟩ dL_moves_654 (fun ra101 H locs hM => ?_)
                  obtain ⟨a103, ea103, h⟩ := nm_some h
                  have ra103 : R32 a103 := by rw [ea103]; exact w32_R _
                  refine m_iadd (pc := 657) C dL_moves_657 ea103 ?_
                  refine m_icmp_eq (tgt := 663) (pc := 658) C ra95 ra103 dL_moves_658 (by decide) (fun c104 => ?_) (fun c104 => ?_)
                  · have h := if_t h c104
                    exact k_L_moves_b663 C N _ _ _ _ _ _ _ _ h rx2 ra7 ra10 ra81 _ _ _ _ _ hb hM (lv_sub hl [6, 7, 4, 3, 0] rfl)
                  · have h := if_f h c104
                    refine m_iconst (pc := 661) C dL_moves_661 ?_
                    cases h
                    refine W.widen (k := 10) (n := 2000) (by omega) (by omega) ?_
                    exact m_zret (pc := 662) C rfl hM rk_0 dL_moves_662
          · have h := if_f h c84
            refine m_iload (pc := 586) C dL_moves_586 (lv_at hl 0 rfl) ?_
            refine m_ldc (n := -100000003) (pc := 588) C bw_4_109 rfl dL_moves_588 ?_
            refine m_icmp_ne (tgt := 661) (pc := 590) C ra81 rk_m100000003 dL_moves_590 (by decide) (fun c105 => ?_) (fun c105 => ?_)
            · have h := if_t h c105
              refine m_iconst (pc := 661) C dL_moves_661 ?_
              cases h
              refine W.widen (k := 10) (n := 2000) (by omega) (by omega) ?_
              exact m_zret (pc := 662) C rfl hM rk_0 dL_moves_662
            · have h := if_f h c105
              refine m_aload_n (pc := 593) C dL_moves_593 rfl (lv_at hl 6 rfl) ?_
              refine m_bipush (pc := 594) C dL_moves_594 rfl ?_
              obtain ⟨q106, h⟩ := ck_some h
              obtain ⟨a107, μ108, ca107, h⟩ := bd_some h
              refine V_X7_count (pc := 596) C hM ca107 rk_11 q106 bw_3_4 ⟨Nat.le_of_ble_eq_true rfl, Nat.le_of_ble_eq_true rfl⟩ hl.1 rc0 ⟨by show _ + 0 ≤ 10; omega, by show _ + 0 ≤ 2000; omega⟩ dL_moves_596 (fun ra107 H locs hM => ?_)
              refine m_iconst (pc := 599) C dL_moves_599 ?_
              refine m_icmp_eq (tgt := 663) (pc := 600) C ra107 rk_5 dL_moves_600 (by decide) (fun c109 => ?_) (fun c109 => ?_)
              · have h := if_t h c109
                exact k_L_moves_b663 C N _ _ _ _ _ _ _ _ h rx2 ra7 ra10 ra81 _ _ _ _ _ hb hM (lv_sub hl [6, 7, 4, 3, 0] rfl)
              · have h := if_f h c109
                refine m_goto (tgt := 661) (pc := 603) C dL_moves_603 (by decide) ?_
                refine m_iconst (pc := 661) C dL_moves_661 ?_
                cases h
                refine W.widen (k := 10) (n := 2000) (by omega) (by omega) ?_
                exact m_zret (pc := 662) C rfl hM rk_0 dL_moves_662
        · have h := if_f h c83
          refine m_iload (pc := 559) C dL_moves_559 (lv_at hl 0 rfl) ?_
          refine m_ldc (n := -100000003) (pc := 561) C bw_4_109 rfl dL_moves_561 ?_
          refine m_icmp_ne (tgt := 661) (pc := 563) C ra81 rk_m100000003 dL_moves_563 (by decide) (fun c110 => ?_) (fun c110 => ?_)
          · have h := if_t h c110
            refine m_iconst (pc := 661) C dL_moves_661 ?_
            cases h
            refine W.widen (k := 10) (n := 2000) (by omega) (by omega) ?_
            exact m_zret (pc := 662) C rfl hM rk_0 dL_moves_662
          · have h := if_f h c110
            refine m_aload_n (pc := 566) C dL_moves_566 rfl (lv_at hl 6 rfl) ?_
            refine m_bipush (pc := 567) C dL_moves_567 rfl ?_
            obtain ⟨q111, h⟩ := ck_some h
            obtain ⟨a112, μ113, ca112, h⟩ := bd_some h
            refine V_X7_count (pc := 569) C hM ca112 rk_11 q111 bw_3_4 ⟨Nat.le_of_ble_eq_true rfl, Nat.le_of_ble_eq_true rfl⟩ hl.1 rc0 ⟨by show _ + 0 ≤ 10; omega, by show _ + 0 ≤ 2000; omega⟩ dL_moves_569 (fun ra112 H locs hM => ?_)
            refine m_iconst (pc := 572) C dL_moves_572 ?_
            refine m_icmp_eq (tgt := 663) (pc := 573) C ra112 rk_4 dL_moves_573 (by decide) (fun c114 => ?_) (fun c114 => ?_)
            · have h := if_t h c114
              exact k_L_moves_b663 C N _ _ _ _ _ _ _ _ h rx2 ra7 ra10 ra81 _ _ _ _ _ hb hM (lv_sub hl [6, 7, 4, 3, 0] rfl)
            · have h := if_f h c114
              refine m_goto (tgt := 661) (pc := 576) C dL_moves_576 (by decide) ?_
              refine m_iconst (pc := 661) C dL_moves_661 ?_
              cases h
              refine W.widen (k := 10) (n := 2000) (by omega) (by omega) ?_
              exact m_zret (pc := 662) C rfl hM rk_0 dL_moves_662
    · have h := if_f h c32
      refine m_lload (pc := 327) C dL_moves_327 (lv_at hl 2 rfl) ?_
      refine m_aload_n (pc := 329) C dL_moves_329 rfl (lv_at hl 8 rfl) ?_
      refine m_bipush (pc := 330) C dL_moves_330 rfl ?_
      obtain ⟨q115, h⟩ := ck_some h
      obtain ⟨a116, μ117, ca116, h⟩ := bd_some h
      refine V_X7_count (pc := 332) C hM ca116 rk_9 q115 bw_3_4 ⟨Nat.le_of_ble_eq_true rfl, Nat.le_of_ble_eq_true rfl⟩ hl.1 (rcL rc0) ⟨by show _ + 0 ≤ 10; omega, by show _ + 0 ≤ 2000; omega⟩ dL_moves_332 (fun ra116 H locs hM => ?_)
      refine m_i2l (pc := 335) C ra116 dL_moves_335 ?_
      obtain ⟨a118, ea118, h⟩ := nm_some h
      have ra118 : R64 a118 := by rw [ea118]; exact w64_R _
      refine m_lmul (pc := 336) C dL_moves_336 ea118 ?_
      refine m_ldc2 (n := 1000) (pc := 337) C bw_3_103 rfl dL_moves_337 ?_
      obtain ⟨a119, ea119, h⟩ := nm_some h
      have ra119 : R64 a119 := by rw [ea119]; exact w64_R _
      refine m_ldiv (pc := 340) C ra118 rl_1000 (by decide) dL_moves_340 ea119 ?_
      refine m_aload_n (pc := 341) C dL_moves_341 rfl (lv_at hl 8 rfl) ?_
      refine m_iload (pc := 342) C dL_moves_342 (lv_at hl 11 rfl) ?_
      refine m_bipush (pc := 344) C dL_moves_344 rfl ?_
      obtain ⟨q121, h⟩ := ck_some h
      obtain ⟨a122, μ123, ca122, h⟩ := bd_some h
      refine V_X7_lot (pc := 346) C hM ca122 rx5 rk_11 q121 bw_3_54 ⟨Nat.le_of_ble_eq_true rfl, Nat.le_of_ble_eq_true rfl⟩ hl.1 (rcL rc0) ⟨by show _ + 0 ≤ 10; omega, by show _ + 0 ≤ 2000; omega⟩ dL_moves_346 (fun ra122 H locs hM => ?_)
      refine m_i2l (pc := 349) C ra122 dL_moves_349 ?_
      obtain ⟨a124, ea124, h⟩ := nm_some h
      have ra124 : R64 a124 := by rw [ea124]; exact w64_R _
      refine m_lsub (pc := 350) C dL_moves_350 ea124 ?_
      refine m_lstore (pc := 351) C dL_moves_351 hl (by decide) (lvK1 1 rfl (Nat.ne_of_beq_eq_false rfl) (Nat.ne_of_beq_eq_false rfl) (lvK1 3 rfl (Nat.ne_of_beq_eq_false rfl) (Nat.ne_of_beq_eq_false rfl) (lvK1 4 rfl (Nat.ne_of_beq_eq_false rfl) (Nat.ne_of_beq_eq_false rfl) (lvK1 5 rfl (Nat.ne_of_beq_eq_false rfl) (Nat.ne_of_beq_eq_false rfl) (lvK1 6 rfl (Nat.ne_of_beq_eq_false rfl) (Nat.ne_of_beq_eq_false rfl) (lvK1 7 rfl (Nat.ne_of_beq_eq_false rfl) (Nat.ne_of_beq_eq_false rfl) (lvK1 8 rfl (Nat.ne_of_beq_eq_false rfl) (Nat.ne_of_beq_eq_false rfl) (lvK1 10 rfl (Nat.ne_of_beq_eq_false rfl) (Nat.ne_of_beq_eq_false rfl) (lvK1 11 rfl (Nat.ne_of_beq_eq_false rfl) (Nat.ne_of_beq_eq_false rfl) (lvK1 12 rfl (Nat.ne_of_beq_eq_false rfl) (Nat.ne_of_beq_eq_false rfl) lvK0)))))))))) (lvN1 (Nat.ne_of_beq_eq_false rfl) (lvN1 (Nat.ne_of_beq_eq_false rfl) (lvN1 (Nat.ne_of_beq_eq_false rfl) (lvN1 (Nat.ne_of_beq_eq_false rfl) (lvN1 (Nat.ne_of_beq_eq_false rfl) (lvN1 (Nat.ne_of_beq_eq_false rfl) (lvN1 (Nat.ne_of_beq_eq_false rfl) (lvN1 (Nat.ne_of_beq_eq_false rfl) (lvN1 (Nat.ne_of_beq_eq_false rfl) (lvN1 (Nat.ne_of_beq_eq_false rfl) lvN0)))))))))) (fun ls hl => ?_)
      refine m_aload_n (pc := 353) C dL_moves_353 rfl (lv_at hl 7 rfl) ?_
      refine m_iload (pc := 354) C dL_moves_354 (lv_at hl 9 rfl) ?_
      refine m_bipush (pc := 356) C dL_moves_356 rfl ?_
      obtain ⟨q125, h⟩ := ck_some h
      obtain ⟨a126, μ127, ca126, h⟩ := bd_some h
      refine V_X7_lot (pc := 358) C hM ca126 rx5 rk_11 q125 bw_3_54 ⟨Nat.le_of_ble_eq_true rfl, Nat.le_of_ble_eq_true rfl⟩ hl.1 rc0 ⟨by show _ + 0 ≤ 10; omega, by show _ + 0 ≤ 2000; omega⟩ dL_moves_358 (fun ra126 H locs hM => ?_)
      refine m_istore (pc := 361) C dL_moves_361 hl (by decide) (lvK1 0 rfl (Nat.ne_of_beq_eq_false rfl) (Nat.ne_of_beq_eq_false rfl) (lvK1 1 rfl (Nat.ne_of_beq_eq_false rfl) (Nat.ne_of_beq_eq_false rfl) (lvK1 2 rfl (Nat.ne_of_beq_eq_false rfl) (Nat.ne_of_beq_eq_false rfl) (lvK1 3 rfl (Nat.ne_of_beq_eq_false rfl) (Nat.ne_of_beq_eq_false rfl) (lvK1 4 rfl (Nat.ne_of_beq_eq_false rfl) (Nat.ne_of_beq_eq_false rfl) (lvK1 5 rfl (Nat.ne_of_beq_eq_false rfl) (Nat.ne_of_beq_eq_false rfl) (lvK1 6 rfl (Nat.ne_of_beq_eq_false rfl) (Nat.ne_of_beq_eq_false rfl) (lvK1 7 rfl (Nat.ne_of_beq_eq_false rfl) (Nat.ne_of_beq_eq_false rfl) (lvK1 8 rfl (Nat.ne_of_beq_eq_false rfl) (Nat.ne_of_beq_eq_false rfl) (lvK1 9 rfl (Nat.ne_of_beq_eq_false rfl) (Nat.ne_of_beq_eq_false rfl) (lvK1 10 rfl (Nat.ne_of_beq_eq_false rfl) (Nat.ne_of_beq_eq_false rfl) lvK0))))))))))) (fun ls hl => ?_)
      refine m_aload_n (pc := 363) C dL_moves_363 rfl (lv_at hl 8 rfl) ?_
      refine m_iload (pc := 364) C dL_moves_364 (lv_at hl 10 rfl) ?_
      refine m_bipush (pc := 366) C dL_moves_366 rfl ?_
      obtain ⟨q128, h⟩ := ck_some h
      obtain ⟨a129, μ130, ca129, h⟩ := bd_some h
      refine V_X7_lot (pc := 368) C hM ca129 rx5 rk_10 q128 bw_3_54 ⟨Nat.le_of_ble_eq_true rfl, Nat.le_of_ble_eq_true rfl⟩ hl.1 rc0 ⟨by show _ + 0 ≤ 10; omega, by show _ + 0 ≤ 2000; omega⟩ dL_moves_368 (fun ra129 H locs hM => ?_)
      refine m_i2l (pc := 371) C ra129 dL_moves_371 ?_
      refine m_lstore (pc := 372) C dL_moves_372 hl (by decide) (lvK2 0 rfl (Nat.ne_of_beq_eq_false rfl) rfl (lvK1 1 rfl (Nat.ne_of_beq_eq_false rfl) (Nat.ne_of_beq_eq_false rfl) (lvK1 2 rfl (Nat.ne_of_beq_eq_false rfl) (Nat.ne_of_beq_eq_false rfl) (lvK1 3 rfl (Nat.ne_of_beq_eq_false rfl) (Nat.ne_of_beq_eq_false rfl) (lvK1 4 rfl (Nat.ne_of_beq_eq_false rfl) (Nat.ne_of_beq_eq_false rfl) (lvK1 5 rfl (Nat.ne_of_beq_eq_false rfl) (Nat.ne_of_beq_eq_false rfl) (lvK1 6 rfl (Nat.ne_of_beq_eq_false rfl) (Nat.ne_of_beq_eq_false rfl) (lvK1 7 rfl (Nat.ne_of_beq_eq_false rfl) (Nat.ne_of_beq_eq_false rfl) (lvK1 8 rfl (Nat.ne_of_beq_eq_false rfl) (Nat.ne_of_beq_eq_false rfl) (lvK1 9 rfl (Nat.ne_of_beq_eq_false rfl) (Nat.ne_of_beq_eq_false rfl) (lvK1 10 rfl (Nat.ne_of_beq_eq_false rfl) (Nat.ne_of_beq_eq_false rfl) (lvK1 11 rfl (Nat.ne_of_beq_eq_false rfl) (Nat.ne_of_beq_eq_false rfl) lvK0)))))))))))) (lvN1 (Nat.ne_of_beq_eq_false rfl) (lvN1 (Nat.ne_of_beq_eq_false rfl) (lvN1 (Nat.ne_of_beq_eq_false rfl) (lvN1 (Nat.ne_of_beq_eq_false rfl) (lvN1 (Nat.ne_of_beq_eq_false rfl) (lvN1 (Nat.ne_of_beq_eq_false rfl) (lvN1 (Nat.ne_of_beq_eq_false rfl) (lvN1 (Nat.ne_of_beq_eq_false rfl) (lvN1 (Nat.ne_of_beq_eq_false rfl) (lvN1 (Nat.ne_of_beq_eq_false rfl) (lvN1 (Nat.ne_of_beq_eq_false rfl) (lvN1 (Nat.ne_of_beq_eq_false rfl) lvN0)))))))))))) (fun ls hl => ?_)
      refine m_aload_n (pc := 374) C dL_moves_374 rfl (lv_at hl 9 rfl) ?_
      refine m_iload (pc := 375) C dL_moves_375 (lv_at hl 11 rfl) ?_
      refine m_iload (pc := 377) C dL_moves_377 (lv_at hl 8 rfl) ?_
      obtain ⟨q131, h⟩ := ck_some h
      obtain ⟨a132, μ133, ca132, h⟩ := bd_some h
      refine V_X7_sample (pc := 379) C hM ca132 rx5 ry0 q131 bw_4_71 ⟨Nat.le_of_ble_eq_true rfl, Nat.le_of_ble_eq_true rfl⟩ hl.1 rc0 ⟨by show _ + 0 ≤ 10; omega, by show _ + 0 ≤ 2000; omega⟩ dL_moves_379 (fun ra132 H locs hM => ?_)
      refine m_istore (pc := 382) C dL_moves_382 hl (by decide) (lvK1 0 rfl (Nat.ne_of_beq_eq_false rfl) (Nat.ne_of_beq_eq_false rfl) (lvK1 1 rfl (Nat.ne_of_beq_eq_false rfl) (Nat.ne_of_beq_eq_false rfl) (lvK1 2 rfl (Nat.ne_of_beq_eq_false rfl) (Nat.ne_of_beq_eq_false rfl) (lvK1 3 rfl (Nat.ne_of_beq_eq_false rfl) (Nat.ne_of_beq_eq_false rfl) (lvK1 4 rfl (Nat.ne_of_beq_eq_false rfl) (Nat.ne_of_beq_eq_false rfl) (lvK1 5 rfl (Nat.ne_of_beq_eq_false rfl) (Nat.ne_of_beq_eq_false rfl) (lvK1 6 rfl (Nat.ne_of_beq_eq_false rfl) (Nat.ne_of_beq_eq_false rfl) (lvK1 7 rfl (Nat.ne_of_beq_eq_false rfl) (Nat.ne_of_beq_eq_false rfl) (lvK1 8 rfl (Nat.ne_of_beq_eq_false rfl) (Nat.ne_of_beq_eq_false rfl) (lvK1 9 rfl (Nat.ne_of_beq_eq_false rfl) (Nat.ne_of_beq_eq_false rfl) (lvK1 10 rfl (Nat.ne_of_beq_eq_false rfl) (Nat.ne_of_beq_eq_false rfl) (lvK1 11 rfl (Nat.ne_of_beq_eq_false rfl) (Nat.ne_of_beq_eq_false rfl) (lvK1 12 rfl (Nat.ne_of_beq_eq_false rfl) (Nat.ne_of_beq_eq_false rfl) lvK0))))))))))))) (fun ls hl => ?_)
      refine m_iload (pc := 384) C dL_moves_384 (lv_at hl 9 rfl) ?_
      refine m_iload (pc := 386) C dL_moves_386 (lv_at hl 13 rfl) ?_
      refine m_icmp_le (tgt := 411) (pc := 388) C ry0 rx6 dL_moves_388 (by decide) (fun c134 => ?_) (fun c134 => ?_)
      · have h := if_t h c134
        refine m_iload (pc := 411) C dL_moves_411 (lv_at hl 0 rfl) ?_
        refine m_if_ge (tgt := 435) (pc := 413) C ra132 dL_moves_413 (by decide) (fun c135 => ?_) (fun c135 => ?_)
        · have h := if_t h c135
          exact k_L_moves_b435 C N _ _ _ _ _ _ _ _ _ _ _ _ _ _ _ _ h rx2 rx5 ry0 ra2 ra5 ra7 ra10 ra30 ra132 ra124 ra126 (R32.to64 ra129) _ _ _ _ _ hb hM (lv_sub hl [10, 11, 12, 9, 8, 7, 6, 5, 4, 0, 3, 2, 1] rfl)
        · have h := if_f h c135
          refine m_iload (pc := 416) C dL_moves_416 (lv_at hl 0 rfl) ?_
          refine m_ldc (n := -100000003) (pc := 418) C bw_4_109 rfl dL_moves_418 ?_
          refine m_icmp_ne (tgt := 433) (pc := 420) C ra132 rk_m100000003 dL_moves_420 (by decide) (fun c136 => ?_) (fun c136 => ?_)
          · have h := if_t h c136
            refine m_iconst (pc := 433) C dL_moves_433 ?_
            cases h
            refine W.widen (k := 10) (n := 2000) (by omega) (by omega) ?_
            exact m_zret (pc := 434) C rfl hM rk_0 dL_moves_434
          · have h := if_f h c136
            refine m_aload_n (pc := 423) C dL_moves_423 rfl (lv_at hl 10 rfl) ?_
            refine m_bipush (pc := 424) C dL_moves_424 rfl ?_
            obtain ⟨q137, h⟩ := ck_some h
            obtain ⟨a138, μ139, ca138, h⟩ := bd_some h
            refine V_X7_count (pc := 426) C hM ca138 rk_11 q137 bw_3_4 ⟨Nat.le_of_ble_eq_true rfl, Nat.le_of_ble_eq_true rfl⟩ hl.1 rc0 ⟨by show _ + 0 ≤ 10; omega, by show _ + 0 ≤ 2000; omega⟩ dL_moves_426 (fun ra138 H locs hM => ?_)
            refine m_iconst (pc := 429) C dL_moves_429 ?_
            refine m_icmp_eq (tgt := 435) (pc := 430) C ra138 rk_3 dL_moves_430 (by decide) (fun c140 => ?_) (fun c140 => ?_)
            · have h := if_t h c140
              exact k_L_moves_b435 C N _ _ _ _ _ _ _ _ _ _ _ _ _ _ _ _ h rx2 rx5 ry0 ra2 ra5 ra7 ra10 ra30 ra132 ra124 ra126 (R32.to64 ra129) _ _ _ _ _ hb hM (lv_sub hl [10, 11, 12, 9, 8, 7, 6, 5, 4, 0, 3, 2, 1] rfl)
            · have h := if_f h c140
              refine m_iconst (pc := 433) C dL_moves_433 ?_
              cases h
              refine W.widen (k := 10) (n := 2000) (by omega) (by omega) ?_
              exact m_zret (pc := 434) C rfl hM rk_0 dL_moves_434
      · have h := if_f h c134
        refine m_iload (pc := 391) C dL_moves_391 (lv_at hl 0 rfl) ?_
        refine m_ldc (n := -100000003) (pc := 393) C bw_4_109 rfl dL_moves_393 ?_
        refine m_icmp_ne (tgt := 433) (pc := 395) C ra132 rk_m100000003 dL_moves_395 (by decide) (fun c141 => ?_) (fun c141 => ?_)
        · have h := if_t h c141
          refine m_iconst (pc := 433) C dL_moves_433 ?_
          cases h
          refine W.widen (k := 10) (n := 2000) (by omega) (by omega) ?_
          exact m_zret (pc := 434) C rfl hM rk_0 dL_moves_434
        · have h := if_f h c141
          refine m_aload_n (pc := 398) C dL_moves_398 rfl (lv_at hl 10 rfl) ?_
          refine m_bipush (pc := 399) C dL_moves_399 rfl ?_
          obtain ⟨q142, h⟩ := ck_some h
          obtain ⟨a143, μ144, ca143, h⟩ := bd_some h
          refine V_X7_count (pc := 401) C hM ca143 rk_11 q142 bw_3_4 ⟨Nat.le_of_ble_eq_true rfl, Nat.le_of_ble_eq_true rfl⟩ hl.1 rc0 ⟨by show _ + 0 ≤ 10; omega, by show _ + 0 ≤ 2000; omega⟩ dL_moves_401 (fun ra143 H locs hM => ?_)
          refine m_iconst (pc := 404) C dL_moves_404 ?_
          refine m_icmp_eq (tgt := 435) (pc := 405) C ra143 rk_4 dL_moves_405 (by decide) (fun c145 => ?_) (fun c145 => ?_)
          · have h := if_t h c145
            exact k_L_moves_b435 C N _ _ _ _ _ _ _ _ _ _ _ _ _ _ _ _ h rx2 rx5 ry0 ra2 ra5 ra7 ra10 ra30 ra132 ra124 ra126 (R32.to64 ra129) _ _ _ _ _ hb hM (lv_sub hl [10, 11, 12, 9, 8, 7, 6, 5, 4, 0, 3, 2, 1] rfl)
          · have h := if_f h c145
            refine m_goto (tgt := 433) (pc := 408) C dL_moves_408 (by decide) ?_
            refine m_iconst (pc := 433) C dL_moves_433 ?_
            cases h
            refine W.widen (k := 10) (n := 2000) (by omega) (by omega) ?_
            exact m_zret (pc := 434) C rfl hM rk_0 dL_moves_434
  · have h := if_f h c31
    refine m_aload_n (pc := 230) C dL_moves_230 rfl (lv_at hl 8 rfl) ?_
    refine m_iload (pc := 231) C dL_moves_231 (lv_at hl 11 rfl) ?_
    refine m_iload (pc := 233) C dL_moves_233 (lv_at hl 7 rfl) ?_
    obtain ⟨q146, h⟩ := ck_some h
    obtain ⟨a147, μ148, ca147, h⟩ := bd_some h
    refine V_X7_release (pc := 235) C hM ca147 rx5 ry0 q146 bw_4_57 ⟨Nat.le_of_ble_eq_true rfl, Nat.le_of_ble_eq_true rfl⟩ hl.1 rc0 ⟨by show _ + 0 ≤ 10; omega, by show _ + 0 ≤ 2000; omega⟩ dL_moves_235 (fun ra147 H locs hM => ?_)
    refine m_istore (pc := 238) C dL_moves_238 hl (by decide) (lvK1 1 rfl (Nat.ne_of_beq_eq_false rfl) (Nat.ne_of_beq_eq_false rfl) (lvK1 3 rfl (Nat.ne_of_beq_eq_false rfl) (Nat.ne_of_beq_eq_false rfl) (lvK1 4 rfl (Nat.ne_of_beq_eq_false rfl) (Nat.ne_of_beq_eq_false rfl) (lvK1 5 rfl (Nat.ne_of_beq_eq_false rfl) (Nat.ne_of_beq_eq_false rfl) (lvK1 6 rfl (Nat.ne_of_beq_eq_false rfl) (Nat.ne_of_beq_eq_false rfl) (lvK1 7 rfl (Nat.ne_of_beq_eq_false rfl) (Nat.ne_of_beq_eq_false rfl) (lvK1 8 rfl (Nat.ne_of_beq_eq_false rfl) (Nat.ne_of_beq_eq_false rfl) (lvK1 10 rfl (Nat.ne_of_beq_eq_false rfl) (Nat.ne_of_beq_eq_false rfl) (lvK1 12 rfl (Nat.ne_of_beq_eq_false rfl) (Nat.ne_of_beq_eq_false rfl) lvK0))))))))) (fun ls hl => ?_)
    refine m_iload (pc := 240) C dL_moves_240 (lv_at hl 6 rfl) ?_
    refine m_iload (pc := 242) C dL_moves_242 (lv_at hl 9 rfl) ?_
    refine m_icmp_le (tgt := 267) (pc := 244) C ry0 rx6 dL_moves_244 (by decide) (fun c149 => ?_) (fun c149 => ?_)
    · have h := if_t h c149
      refine m_lload (pc := 267) C dL_moves_267 (lv_at hl 1 rfl) ?_
      refine m_lload (pc := 269) C dL_moves_269 (lv_at hl 4 rfl) ?_
      refine m_lcmp_le (tgt := 295) (pc := 271) C ra30 ra5 dL_moves_271 dL_moves_272 (by decide) (fun c150 => ?_) (fun c150 => ?_)
      · have h := if_t h c150
        refine m_iload (pc := 295) C dL_moves_295 (lv_at hl 0 rfl) ?_
        refine m_i2l (pc := 297) C ra147 dL_moves_297 ?_
        refine m_lload (pc := 298) C dL_moves_298 (lv_at hl 1 rfl) ?_
        refine m_lcmp_ne (tgt := 320) (pc := 300) C (R32.to64 ra147) ra30 dL_moves_300 dL_moves_301 (by decide) (fun c151 => ?_) (fun c151 => ?_)
        · have h := if_t h c151
          refine m_iconst (pc := 320) C dL_moves_320 ?_
          cases h
          refine W.widen (k := 10) (n := 2000) (by omega) (by omega) ?_
          exact m_zret (pc := 321) C rfl hM rk_0 dL_moves_321
        · have h := if_f h c151
          refine m_aload_n (pc := 304) C dL_moves_304 rfl (lv_at hl 7 rfl) ?_
          refine m_iload (pc := 305) C dL_moves_305 (lv_at hl 5 rfl) ?_
          refine m_iconst (pc := 307) C dL_moves_307 ?_
          obtain ⟨q152, h⟩ := ck_some h
          obtain ⟨a153, μ154, ca153, h⟩ := bd_some h
          refine V_X7_owner (pc := 308) C hM ca153 ra2 rk_0 q152 bw_3_30 ⟨Nat.le_of_ble_eq_true rfl, Nat.le_of_ble_eq_true rfl⟩ hl.1 rc0 ⟨by show _ + 0 ≤ 10; omega, by show _ + 0 ≤ 2000; omega⟩ dL_moves_308 (fun ra153 H locs hM => ?_)
          refine m_lload (pc := 311) C dL_moves_311 (lv_at hl 4 rfl) ?_
          refine m_lload (pc := 313) C dL_moves_313 (lv_at hl 1 rfl) ?_
          obtain ⟨a155, ea155, h⟩ := nm_some h
          have ra155 : R64 a155 := by rw [ea155]; exact w64_R _
          refine m_lsub (pc := 315) C dL_moves_315 ea155 ?_
          refine m_lcmp_eq (tgt := 962) (pc := 316) C ra153 ra155 dL_moves_316 dL_moves_317 (by decide) (fun c156 => ?_) (fun c156 => ?_)
          · have h := if_t h c156
            exact k_L_moves_b962 C N _ _ _ _ _ _ _ _ h rx2 ra7 ra10 ra147 _ _ _ _ _ hb hM (lv_sub hl [7, 8, 3, 2, 0] rfl)
          · have h := if_f h c156
            refine m_iconst (pc := 320) C dL_moves_320 ?_
            cases h
            refine W.widen (k := 10) (n := 2000) (by omega) (by omega) ?_
            exact m_zret (pc := 321) C rfl hM rk_0 dL_moves_321
      · have h := if_f h c150
        refine m_iload (pc := 275) C dL_moves_275 (lv_at hl 0 rfl) ?_
        refine m_ldc (n := -100000003) (pc := 277) C bw_4_109 rfl dL_moves_277 ?_
        refine m_icmp_ne (tgt := 320) (pc := 279) C ra147 rk_m100000003 dL_moves_279 (by decide) (fun c157 => ?_) (fun c157 => ?_)
        · have h := if_t h c157
          refine m_iconst (pc := 320) C dL_moves_320 ?_
          cases h
          refine W.widen (k := 10) (n := 2000) (by omega) (by omega) ?_
          exact m_zret (pc := 321) C rfl hM rk_0 dL_moves_321
        · have h := if_f h c157
          refine m_aload_n (pc := 282) C dL_moves_282 rfl (lv_at hl 7 rfl) ?_
          refine m_bipush (pc := 283) C dL_moves_283 rfl ?_
          obtain ⟨q158, h⟩ := ck_some h
          obtain ⟨a159, μ160, ca159, h⟩ := bd_some h
          refine V_X7_count (pc := 285) C hM ca159 rk_11 q158 bw_3_4 ⟨Nat.le_of_ble_eq_true rfl, Nat.le_of_ble_eq_true rfl⟩ hl.1 rc0 ⟨by show _ + 0 ≤ 10; omega, by show _ + 0 ≤ 2000; omega⟩ dL_moves_285 (fun ra159 H locs hM => ?_)
          refine m_iconst (pc := 288) C dL_moves_288 ?_
          refine m_icmp_eq (tgt := 962) (pc := 289) C ra159 rk_3 dL_moves_289 (by decide) (fun c161 => ?_) (fun c161 => ?_)
          · have h := if_t h c161
            exact k_L_moves_b962 C N _ _ _ _ _ _ _ _ h rx2 ra7 ra10 ra147 _ _ _ _ _ hb hM (lv_sub hl [7, 8, 3, 2, 0] rfl)
          · have h := if_f h c161
            refine m_goto (tgt := 320) (pc := 292) C dL_moves_292 (by decide) ?_
            refine m_iconst (pc := 320) C dL_moves_320 ?_
            cases h
            refine W.widen (k := 10) (n := 2000) (by omega) (by omega) ?_
            exact m_zret (pc := 321) C rfl hM rk_0 dL_moves_321
    · have h := if_f h c149
      refine m_iload (pc := 247) C dL_moves_247 (lv_at hl 0 rfl) ?_
      refine m_ldc (n := -100000003) (pc := 249) C bw_4_109 rfl dL_moves_249 ?_
      refine m_icmp_ne (tgt := 320) (pc := 251) C ra147 rk_m100000003 dL_moves_251 (by decide) (fun c162 => ?_) (fun c162 => ?_)
      · have h := if_t h c162
        refine m_iconst (pc := 320) C dL_moves_320 ?_
        cases h
        refine W.widen (k := 10) (n := 2000) (by omega) (by omega) ?_
        exact m_zret (pc := 321) C rfl hM rk_0 dL_moves_321
      · have h := if_f h c162
        refine m_aload_n (pc := 254) C dL_moves_254 rfl (lv_at hl 7 rfl) ?_
        refine m_bipush (pc := 255) C dL_moves_255 rfl ?_
        obtain ⟨q163, h⟩ := ck_some h
        obtain ⟨a164, μ165, ca164, h⟩ := bd_some h
        refine V_X7_count (pc := 257) C hM ca164 rk_11 q163 bw_3_4 ⟨Nat.le_of_ble_eq_true rfl, Nat.le_of_ble_eq_true rfl⟩ hl.1 rc0 ⟨by show _ + 0 ≤ 10; omega, by show _ + 0 ≤ 2000; omega⟩ dL_moves_257 (fun ra164 H locs hM => ?_)
        refine m_iconst (pc := 260) C dL_moves_260 ?_
        refine m_icmp_eq (tgt := 962) (pc := 261) C ra164 rk_4 dL_moves_261 (by decide) (fun c166 => ?_) (fun c166 => ?_)
        · have h := if_t h c166
          exact k_L_moves_b962 C N _ _ _ _ _ _ _ _ h rx2 ra7 ra10 ra147 _ _ _ _ _ hb hM (lv_sub hl [7, 8, 3, 2, 0] rfl)
        · have h := if_f h c166
          refine m_goto (tgt := 320) (pc := 264) C dL_moves_264 (by decide) ?_
          refine m_iconst (pc := 320) C dL_moves_320 ?_
          cases h
          refine W.widen (k := 10) (n := 2000) (by omega) (by omega) ?_
          exact m_zret (pc := 321) C rfl hM rk_0 dL_moves_321
set_option maxHeartbeats 4000000 in
set_option maxRecDepth 100000 in
theorem c_L_moves (l : Launch) (E : gE) (N : Nat) (x0 x1 x2 x3 : Int) (μ μ' : Mm) (r : Int) (h : f_L_moves N x0 x1 x2 x3 μ = some (r, μ')) (rx1 : R32 x1) (rx2 : R32 x2) (rx3 : R32 x3) : gMet l E yL_moves cL_moves 24 (some .boolean) 8 180 [vr E x0, vi x1, vi x2, vi x3] (some (vi r)) (R32 r) μ μ' 10 2000 := by
  refine g_ofW [1, 1, 1, 1] (by first | (simp only [List.map_cons, List.map_nil, vr_cat]; done) | (simp only [List.map_cons, List.map_nil, vr_cat]; rfl)) (by decide) (by decide) (fun p e s m below meth c ls C hM hl => ?_)
  replace C : gCx p s m _ meth c cL_moves 24 (some .boolean) "moves" RL := C
  replace hl : lv_has ls 24 [(0, vr E x0), (1, vi x1), (2, vi x2), (3, vi x3)] := hl
  unfold f_L_moves at h
  have hb : ((0 : Nat) : Int) + 10 ≤ 10 ∧ (0 : Int) ≤ 10 ∧ ((0 : Nat) : Int) + 2000 ≤ 2000 ∧ (0 : Int) ≤ 2000 := by decide
  refine m_aload_n (pc := 0) C dL_moves_0 rfl (lv_at hl 0 rfl) ?_
  refine m_iconst (pc := 1) C dL_moves_1 ?_
  obtain ⟨q1, h⟩ := ck_some h
  obtain ⟨a2, μ3, ca2, h⟩ := bd_some h
  refine V_X7_count (pc := 2) C hM ca2 rk_2 q1 bw_3_4 ⟨Nat.le_of_ble_eq_true rfl, Nat.le_of_ble_eq_true rfl⟩ hl.1 rc0 ⟨by show _ + 0 ≤ 10; omega, by show _ + 0 ≤ 2000; omega⟩ dL_moves_2 (fun ra2 H locs hM => ?_)
  refine m_istore (pc := 5) C dL_moves_5 hl (by decide) (lvK1 0 rfl (Nat.ne_of_beq_eq_false rfl) (Nat.ne_of_beq_eq_false rfl) (lvK1 1 rfl (Nat.ne_of_beq_eq_false rfl) (Nat.ne_of_beq_eq_false rfl) (lvK1 2 rfl (Nat.ne_of_beq_eq_false rfl) (Nat.ne_of_beq_eq_false rfl) (lvK2 3 rfl (Nat.ne_of_beq_eq_false rfl) rfl lvK0)))) (fun ls hl => ?_)
  refine m_iload (pc := 7) C dL_moves_7 (lv_at hl 0 rfl) ?_
  refine m_if_ne (tgt := 83) (pc := 9) C ra2 dL_moves_9 (by decide) (fun c4 => ?_) (fun c4 => ?_)
  · have h := if_t h c4
    refine m_iload_n (pc := 83) C dL_moves_83 rfl (lv_at hl 3 rfl) ?_
    refine m_iload (pc := 84) C dL_moves_84 (lv_at hl 0 rfl) ?_
    obtain ⟨a5, μ6, ca5, h⟩ := bd_some h
    refine V_L_low (pc := 86) C hM ca5 rx2 ra2 bw_3_17 ⟨Nat.le_of_ble_eq_true rfl, Nat.le_of_ble_eq_true rfl⟩ hl.1 rc0 ⟨by show _ + 0 ≤ 10; omega, by show _ + 0 ≤ 2000; omega⟩ dL_moves_86 (fun ra5 H locs hM => ?_)
    refine m_istore (pc := 89) C dL_moves_89 hl (by decide) (lvK1 1 rfl (Nat.ne_of_beq_eq_false rfl) (Nat.ne_of_beq_eq_false rfl) (lvK1 2 rfl (Nat.ne_of_beq_eq_false rfl) (Nat.ne_of_beq_eq_false rfl) (lvK1 3 rfl (Nat.ne_of_beq_eq_false rfl) (Nat.ne_of_beq_eq_false rfl) (lvK1 4 rfl (Nat.ne_of_beq_eq_false rfl) (Nat.ne_of_beq_eq_false rfl) lvK0)))) (fun ls hl => ?_)
    refine m_aload_n (pc := 91) C dL_moves_91 rfl (lv_at hl 1 rfl) ?_
    refine m_iload (pc := 92) C dL_moves_92 (lv_at hl 0 rfl) ?_
    refine m_bipush (pc := 94) C dL_moves_94 rfl ?_
    obtain ⟨q7, h⟩ := ck_some h
    obtain ⟨a8, μ9, ca8, h⟩ := bd_some h
    refine V_X7_lot (pc := 96) C hM ca8 ra5 rk_7 q7 bw_3_54 ⟨Nat.le_of_ble_eq_true rfl, Nat.le_of_ble_eq_true rfl⟩ hl.1 rc0 ⟨by show _ + 0 ≤ 10; omega, by show _ + 0 ≤ 2000; omega⟩ dL_moves_96 (fun ra8 H locs hM => ?_)
    refine m_istore (pc := 99) C dL_moves_99 hl (by decide) (lvK2 0 rfl (Nat.ne_of_beq_eq_false rfl) rfl (lvK1 1 rfl (Nat.ne_of_beq_eq_false rfl) (Nat.ne_of_beq_eq_false rfl) (lvK1 2 rfl (Nat.ne_of_beq_eq_false rfl) (Nat.ne_of_beq_eq_false rfl) (lvK1 3 rfl (Nat.ne_of_beq_eq_false rfl) (Nat.ne_of_beq_eq_false rfl) (lvK1 4 rfl (Nat.ne_of_beq_eq_false rfl) (Nat.ne_of_beq_eq_false rfl) lvK0))))) (fun ls hl => ?_)
    refine m_iload (pc := 101) C dL_moves_101 (lv_at hl 0 rfl) ?_
    refine m_if_ne (tgt := 110) (pc := 103) C ra8 dL_moves_103 (by decide) (fun c10 => ?_) (fun c10 => ?_)
    · have h := if_t h c10
      refine m_iload_n (pc := 110) C dL_moves_110 rfl (lv_at hl 5 rfl) ?_
      refine m_bipush (pc := 111) C dL_moves_111 rfl ?_
      obtain ⟨a11, ea11, h⟩ := nm_some h
      have ra11 : R32 a11 := by rw [ea11]; exact R32_of _
      refine m_iand (pc := 113) C dL_moves_113 ea11 ?_
      refine m_if_ne (tgt := 124) (pc := 114) C ra11 dL_moves_114 (by decide) (fun c12 => ?_) (fun c12 => ?_)
      · have h := if_t h c12
        refine m_iconst (pc := 124) C dL_moves_124 ?_
        refine m_iload_n (pc := 125) C dL_moves_125 rfl (lv_at hl 5 rfl) ?_
        refine m_iconst (pc := 126) C dL_moves_126 ?_
        obtain ⟨a13, ea13, h⟩ := nm_some h
        have ra13 : R32 a13 := by rw [ea13]; exact R32_of _
        refine m_ishr (pc := 127) C dL_moves_127 ea13 ?_
        refine m_iload (pc := 128) C dL_moves_128 (lv_at hl 0 rfl) ?_
        obtain ⟨a14, μ15, ca14, h⟩ := bd_some h
        refine V_L_low (pc := 130) C hM ca14 ra13 ra8 bw_3_17 ⟨Nat.le_of_ble_eq_true rfl, Nat.le_of_ble_eq_true rfl⟩ hl.1 (rcI rc0) ⟨by show _ + 0 ≤ 10; omega, by show _ + 0 ≤ 2000; omega⟩ dL_moves_130 (fun ra14 H locs hM => ?_)
        obtain ⟨a16, ea16, h⟩ := nm_some h
        have ra16 : R32 a16 := by rw [ea16]; exact w32_R _
        refine m_iadd (pc := 133) C dL_moves_133 ea16 ?_
        exact k_L_moves_b134 C N _ _ _ _ _ _ _ _ _ h rx1 rx2 ra5 ra8 ra16 _ _ _ _ _ hb hM (lv_sub hl [2, 3, 4, 1, 0] rfl)
      · have h := if_f h c12
        refine m_iload (pc := 117) C dL_moves_117 (lv_at hl 0 rfl) ?_
        refine m_iconst (pc := 119) C dL_moves_119 ?_
        obtain ⟨a17, ea17, h⟩ := nm_some h
        have ra17 : R32 a17 := by rw [ea17]; exact w32_R _
        refine m_iadd (pc := 120) C dL_moves_120 ea17 ?_
        refine m_goto (tgt := 134) (pc := 121) C dL_moves_121 (by decide) ?_
        exact k_L_moves_b134 C N _ _ _ _ _ _ _ _ _ h rx1 rx2 ra5 ra8 ra17 _ _ _ _ _ hb hM (lv_sub hl [2, 3, 4, 1, 0] rfl)
    · have h := if_f h c10
      refine m_iconst (pc := 106) C dL_moves_106 ?_
      refine m_goto (tgt := 134) (pc := 107) C dL_moves_107 (by decide) ?_
      exact k_L_moves_b134 C N _ _ _ _ _ _ _ _ _ h rx1 rx2 ra5 ra8 rk_1 _ _ _ _ _ hb hM (lv_sub hl [2, 3, 4, 1, 0] rfl)
  · have h := if_f h c4
    refine m_aload_n (pc := 12) C dL_moves_12 rfl (lv_at hl 1 rfl) ?_
    refine m_iconst (pc := 13) C dL_moves_13 ?_
    refine m_iconst (pc := 14) C dL_moves_14 ?_
    obtain ⟨q18, h⟩ := ck_some h
    obtain ⟨a19, μ20, ca19, h⟩ := bd_some h
    refine V_X7_release (pc := 15) C hM ca19 rk_0 rk_1 q18 bw_4_57 ⟨Nat.le_of_ble_eq_true rfl, Nat.le_of_ble_eq_true rfl⟩ hl.1 rc0 ⟨by show _ + 0 ≤ 10; omega, by show _ + 0 ≤ 2000; omega⟩ dL_moves_15 (fun ra19 H locs hM => ?_)
    refine m_ldc (n := -100000001) (pc := 18) C bw_3_85 rfl dL_moves_18 ?_
    refine m_icmp_ne (tgt := 81) (pc := 20) C ra19 rk_m100000001 dL_moves_20 (by decide) (fun c21 => ?_) (fun c21 => ?_)
    · have h := if_t h c21
      refine m_iconst (pc := 81) C dL_moves_81 ?_
      cases h
      refine W.widen (k := 10) (n := 2000) (by omega) (by omega) ?_
      exact m_zret (pc := 82) C rfl hM rk_0 dL_moves_82
    · have h := if_f h c21
      refine m_aload_n (pc := 23) C dL_moves_23 rfl (lv_at hl 1 rfl) ?_
      refine m_iconst (pc := 24) C dL_moves_24 ?_
      refine m_iconst (pc := 25) C dL_moves_25 ?_
      obtain ⟨q22, h⟩ := ck_some h
      obtain ⟨a23, μ24, ca23, h⟩ := bd_some h
      refine V_X7_sample (pc := 26) C hM ca23 rk_0 rk_1 q22 bw_4_71 ⟨Nat.le_of_ble_eq_true rfl, Nat.le_of_ble_eq_true rfl⟩ hl.1 rc0 ⟨by show _ + 0 ≤ 10; omega, by show _ + 0 ≤ 2000; omega⟩ dL_moves_26 (fun ra23 H locs hM => ?_)
      refine m_ldc (n := -100000001) (pc := 29) C bw_3_85 rfl dL_moves_29 ?_
      refine m_icmp_ne (tgt := 81) (pc := 31) C ra23 rk_m100000001 dL_moves_31 (by decide) (fun c25 => ?_) (fun c25 => ?_)
      · have h := if_t h c25
        refine m_iconst (pc := 81) C dL_moves_81 ?_
        cases h
        refine W.widen (k := 10) (n := 2000) (by omega) (by omega) ?_
        exact m_zret (pc := 82) C rfl hM rk_0 dL_moves_82
      · have h := if_f h c25
        refine m_aload_n (pc := 34) C dL_moves_34 rfl (lv_at hl 1 rfl) ?_
        refine m_iconst (pc := 35) C dL_moves_35 ?_
        refine m_iconst (pc := 36) C dL_moves_36 ?_
        obtain ⟨q26, h⟩ := ck_some h
        obtain ⟨a27, μ28, ca27, h⟩ := bd_some h
        refine V_X7_export (pc := 37) C hM ca27 rk_0 rk_1 q26 bw_4_85 ⟨Nat.le_of_ble_eq_true rfl, Nat.le_of_ble_eq_true rfl⟩ hl.1 rc0 ⟨by show _ + 0 ≤ 10; omega, by show _ + 0 ≤ 2000; omega⟩ dL_moves_37 (fun ra27 H locs hM => ?_)
        refine m_ldc (n := -100000001) (pc := 40) C bw_3_85 rfl dL_moves_40 ?_
        refine m_icmp_ne (tgt := 81) (pc := 42) C ra27 rk_m100000001 dL_moves_42 (by decide) (fun c29 => ?_) (fun c29 => ?_)
        · have h := if_t h c29
          refine m_iconst (pc := 81) C dL_moves_81 ?_
          cases h
          refine W.widen (k := 10) (n := 2000) (by omega) (by omega) ?_
          exact m_zret (pc := 82) C rfl hM rk_0 dL_moves_82
        · have h := if_f h c29
          refine m_aload_n (pc := 45) C dL_moves_45 rfl (lv_at hl 1 rfl) ?_
          refine m_iconst (pc := 46) C dL_moves_46 ?_
          refine m_iconst (pc := 47) C dL_moves_47 ?_
          obtain ⟨q30, h⟩ := ck_some h
          obtain ⟨a31, μ32, ca31, h⟩ := bd_some h
          refine V_X7_destroy (pc := 48) C hM ca31 rk_0 rk_1 q30 bw_4_93 ⟨Nat.le_of_ble_eq_true rfl, Nat.le_of_ble_eq_true rfl⟩ hl.1 rc0 ⟨by show _ + 0 ≤ 10; omega, by show _ + 0 ≤ 2000; omega⟩ dL_moves_48 (fun ra31 H locs hM => ?_)
          refine m_ldc (n := -100000001) (pc := 51) C bw_3_85 rfl dL_moves_51 ?_
          refine m_icmp_ne (tgt := 81) (pc := 53) C ra31 rk_m100000001 dL_moves_53 (by decide) (fun c33 => ?_) (fun c33 => ?_)
          · have h := if_t h c33
            refine m_iconst (pc := 81) C dL_moves_81 ?_
            cases h
            refine W.widen (k := 10) (n := 2000) (by omega) (by omega) ?_
            exact m_zret (pc := 82) C rfl hM rk_0 dL_moves_82
          · have h := if_f h c33
            refine m_aload_n (pc := 56) C dL_moves_56 rfl (lv_at hl 1 rfl) ?_
            refine m_iconst (pc := 57) C dL_moves_57 ?_
            refine m_iconst (pc := 58) C dL_moves_58 ?_
            obtain ⟨q34, h⟩ := ck_some h
            obtain ⟨a35, μ36, ca35, h⟩ := bd_some h
            refine V_X7_give (pc := 59) C hM ca35 rk_0 rk_0 q34 bw_4_101 ⟨Nat.le_of_ble_eq_true rfl, Nat.le_of_ble_eq_true rfl⟩ hl.1 rc0 ⟨by show _ + 0 ≤ 10; omega, by show _ + 0 ≤ 2000; omega⟩ dL_moves_59 (fun ra35 H locs hM => ?_)
            refine m_ldc (n := -100000001) (pc := 62) C bw_3_85 rfl dL_moves_62 ?_
            refine m_icmp_ne (tgt := 81) (pc := 64) C ra35 rk_m100000001 dL_moves_64 (by decide) (fun c37 => ?_) (fun c37 => ?_)
            · have h := if_t h c37
              refine m_iconst (pc := 81) C dL_moves_81 ?_
              cases h
              refine W.widen (k := 10) (n := 2000) (by omega) (by omega) ?_
              exact m_zret (pc := 82) C rfl hM rk_0 dL_moves_82
            · have h := if_f h c37
              refine m_aload_n (pc := 67) C dL_moves_67 rfl (lv_at hl 1 rfl) ?_
              refine m_iconst (pc := 68) C dL_moves_68 ?_
              obtain ⟨q38, h⟩ := ck_some h
              obtain ⟨q39, h⟩ := ck_some h
              obtain ⟨a40, μ41, ca40, h⟩ := bd_some h
              refine V_X7_documentLength (pc := 69) C hM ca40 rk_0 q38 bw_3_112 ⟨Nat.le_of_ble_eq_true rfl, Nat.le_of_ble_eq_true rfl⟩ hl.1 rc0 ⟨by show _ + 10 ≤ 10; omega, by show _ + 2000 ≤ 2000; omega⟩ dL_moves_69 (fun ra40 H locs hM => ?_)
              replace hb : ((0 + 10 : Nat) : Int) + (10 - 10) ≤ 10 ∧ (0 : Int) ≤ 10 - 10 ∧ ((0 + 2000 : Nat) : Int) + (2000 - 2000) ≤ 2000 ∧ (0 : Int) ≤ 2000 - 2000 := by omega
              refine m_ldc (n := -100000001) (pc := 72) C bw_3_85 rfl dL_moves_72 ?_
              refine m_icmp_ne (tgt := 81) (pc := 74) C ra40 rk_m100000001 dL_moves_74 (by decide) (fun c42 => ?_) (fun c42 => ?_)
              · have h := if_t h c42
                refine m_iconst (pc := 81) C dL_moves_81 ?_
                cases h
                refine W.widen (k := 10) (n := 2000) (by omega) (by omega) ?_
                exact m_zret (pc := 82) C rfl hM rk_0 dL_moves_82
              · have h := if_f h c42
                refine m_iconst (pc := 77) C dL_moves_77 ?_
                refine m_goto (tgt := 82) (pc := 78) C dL_moves_78 (by decide) ?_
                cases h
                refine W.widen (k := 10) (n := 2000) (by omega) (by omega) ?_
                exact m_zret (pc := 82) C rfl hM rk_1 dL_moves_82
theorem hd_L_moves : yL_moves.cls ≠ "java/lang/invoke/MethodHandle" ∧ yL_moves.cls ≠ "java/lang/invoke/VarHandle" ∧ (parseMethodDescriptor yL_moves.desc).map (fun d => d.parameters.length) = some 4 := by decide +kernel

theorem V_L_moves {p : Program} {l : Launch} {e : Env} {R : Room} {s : State} {m : MethodId} {args : Array Value} {below : List Frame} {meth : Method} {c : Code} {H : Heap} {locs : List Loc} {cells slots : Nat} {Q : State → Prop} {cc : ByteArray} {pc nL : Nat} {ls : Array Slot} {rest : List Value} {ret : Option FieldType} {nmm own : String} {E : gE} {μ μ1 : Mm} {index : Nat} (C : gCx p s m args meth c cc nL ret nmm own) (hM : MS E μ s H locs) {N : Nat} {x0 x1 x2 x3 v : Int} (hc : f_L_moves N x0 x1 x2 x3 μ = some (v, μ1)) (rx1 : R32 x1) (rx2 : R32 x2) (rx3 : R32 x3) (h1 : Cond.methodLink own index yL_moves ∈ bigL) (hR : 9 ≤ R.frames ∧ 223 ≤ R.locals) (hl : ls.size = nL) (hcat : RC rest 8) (hf : cells + 10 ≤ R.cells ∧ slots + 2000 ≤ R.slots) (hdg : decode cc pc = .ok (.invokestatic index, 3)) (kk : (R32 v) → ∀ (H1 : Heap) (locs1 : List Loc), MS E μ1 s H1 locs1 → W p l e R s m args below meth c H1 locs1 (cells + 10) (slots + 2000) Q (F0 m (pc + 3) ls (vi v :: rest))) : W p l e R s m args below meth c H locs cells slots Q (F0 m pc ls (vi x3 :: vi x2 :: vi x1 :: vr E x0 :: rest)) := g_callS C hM (c_L_moves l E N x0 x1 x2 x3 μ μ1 v hc rx1 rx2 rx3) (gS h1 bw_4_55 bw_1_0 bw_4_56) hd_L_moves hR rfl hl rfl hcat hf hdg kk
end G12
