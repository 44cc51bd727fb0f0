section G11
variable {p : Program} {l : Launch} {e : Env} {R : Room} {s : State} {m : MethodId} {args : Array Value} {below : List Frame} {meth : Method} {c : Code} {E : gE}
/-! L_owners -/
def f_L_owners_b523 (N : Nat) (x0 x6 y0 : Int) (μ : Mm) : Rs :=
  if y0 = 0 then
    (some (0, μ))
  else
  ck (μ x0 (-2) = 9) <|
  bd (f_X7_greatestValue N x0 x6 6 μ) fun a3 μ4 =>
  if ¬ a3 = ((-100000001)) then
    (some (0, μ4))
  else
  some (1, μ4)
def f_L_owners_b522 (N : Nat) (x0 x6 : Int) (μ : Mm) : Rs :=
  f_L_owners_b523 N x0 x6 0 μ
def f_L_owners_b518 (N : Nat) (x0 x6 : Int) (μ : Mm) : Rs :=
  f_L_owners_b523 N x0 x6 1 μ
def f_L_owners_b410 (N : Nat) (x0 x6 x7 x8 x10 x12 y0 : Int) (μ : Mm) : Rs :=
  if y0 = 0 then
    (if x12 < 0 then
       (f_L_owners_b522 N x0 x6 μ)
     else
     ck (μ x0 (-2) = 9) <|
     bd (f_X7_rate N x0 x7 μ) fun a4 μ5 =>
     nm (w64 (x12 * a4)) fun a6 =>
     nm (w64 (Int.tdiv a6 1000)) fun a7 =>
     nm (w64 (x8 + a7)) fun a9 =>
     nm (w64 (a9 * x10)) fun a10 =>
     nm (w64 (Int.tdiv a10 100)) fun a11 =>
     ck (μ5 x0 (-2) = 9) <|
     bd (f_X7_owner N x0 x6 1 μ5) fun a14 μ15 =>
     if a14 < a11 then
       (f_L_owners_b522 N x0 x6 μ15)
     else
     if x12 = 10000000 then
       (f_L_owners_b518 N x0 x6 μ15)
     else
     nm (w64 (x12 + 1)) fun a18 =>
     ck (μ15 x0 (-2) = 9) <|
     bd (f_X7_rate N x0 x7 μ15) fun a20 μ21 =>
     nm (w64 (a18 * a20)) fun a22 =>
     nm (w64 (Int.tdiv a22 1000)) fun a23 =>
     nm (w64 (x8 + a23)) fun a25 =>
     nm (w64 (a25 * x10)) fun a26 =>
     nm (w64 (Int.tdiv a26 100)) fun a27 =>
     ck (μ21 x0 (-2) = 9) <|
     bd (f_X7_owner N x0 x6 1 μ21) fun a30 μ31 =>
     if a27 ≤ a30 then
       (f_L_owners_b522 N x0 x6 μ31)
     else
     f_L_owners_b518 N x0 x6 μ31)
  else
  if ¬ x12 = ((-100000005)) then
    (f_L_owners_b523 N x0 x6 0 μ)
  else
  f_L_owners_b523 N x0 x6 1 μ
def f_L_owners_b222 (N : Nat) (k8 : Int → Int → Int → Int → Int → Mm → Rs) (x0 x1 x2 x4 x6 x7 y0 y1 : Int) (μ : Mm) : Rs :=
  if ¬ y0 = y1 then
    (some (0, μ))
  else
  ck (μ x0 (-2) = 9) <|
  bd (f_X7_owner N x0 x6 5 μ) fun a3 μ4 =>
  if ¬ a3 = x7 then
    (some (0, μ4))
  else
  ck (μ4 x0 (-2) = 9) <|
  bd (f_X7_owner N x0 x6 7 μ4) fun a7 μ8 =>
  if a7 = ((-100000002)) then
    (nm (w32 (x6 + 1)) fun a10 =>
     k8 x0 x1 x2 x4 a10 μ8)
  else
  some (0, μ8)
def f_L_owners_b154 (N : Nat) (k8 : Int → Int → Int → Int → Int → Mm → Rs) (x0 x1 x2 x4 x6 x7 x8 y0 : Int) (μ : Mm) : Rs :=
  ck (μ x0 (-2) = 9) <|
  bd (f_X7_owner N x0 x6 0 μ) fun a2 μ3 =>
  if a2 < 0 then
    (some (0, μ3))
  else
  ck (μ3 x0 (-2) = 9) <|
  bd (f_X7_owner N x0 x6 1 μ3) fun a6 μ7 =>
  if a6 < 0 then
    (some (0, μ7))
  else
  ck (μ7 x0 (-2) = 9) <|
  bd (f_X7_owner N x0 x6 2 μ7) fun a10 μ11 =>
  if a10 < 0 then
    (some (0, μ11))
  else
  ck (μ11 x0 (-2) = 9) <|
  bd (f_X7_owner N x0 x6 3 μ11) fun a14 μ15 =>
  if ¬ a14 = x8 then
    (some (0, μ15))
  else
  ck (μ15 x0 (-2) = 9) <|
  bd (f_X7_owner N x0 x6 4 μ15) fun a18 μ19 =>
  if y0 = 0 then
    (f_L_owners_b222 N k8 x0 x1 x2 x4 x6 x7 a18 0 μ19)
  else
  f_L_owners_b222 N k8 x0 x1 x2 x4 x6 x7 a18 1 μ19
def f_L_owners_b67 (N : Nat) (k8 : Int → Int → Int → Int → Int → Mm → Rs) (k27 : Int → Int → Int → Int → Int → Int → Int → Int → Mm → Rs) (x0 x1 x2 x4 x6 x8 x10 y0 y1 : Int) (μ : Mm) : Rs :=
  nm (w32 (y0 + y1)) fun a1 =>
  ck (μ x0 (-2) = 9) <|
  bd (f_X7_lot N x0 x10 0 μ) fun a3 μ4 =>
  if ¬ a3 = x6 then
    (nm (w64 (x8 + 0)) fun a6 =>
     nm (w32 (x10 + 1)) fun a7 =>
     k27 x0 x1 x2 x4 x6 a1 a6 a7 μ4)
  else
  ck (μ4 x0 (-2) = 9) <|
  bd (f_X7_lot N x0 x10 8 μ4) fun a9 μ10 =>
  nm (w64 (x8 + a9)) fun a11 =>
  nm (w32 (x10 + 1)) fun a12 =>
  k27 x0 x1 x2 x4 x6 a1 a11 a12 μ10
def f_L_owners_b66 (N : Nat) (k8 : Int → Int → Int → Int → Int → Mm → Rs) (k27 : Int → Int → Int → Int → Int → Int → Int → Int → Mm → Rs) (x0 x1 x2 x4 x6 x8 x10 y0 : Int) (μ : Mm) : Rs :=
  f_L_owners_b67 N k8 k27 x0 x1 x2 x4 x6 x8 x10 y0 0 μ
def f_L_owners_b27 (N : Nat) (k8 : Int → Int → Int → Int → Int → Mm → Rs) : Nat → Int → Int → Int → Int → Int → Int → Int → Int → Mm → Rs
  | 0, _, _, _, _, _, _, _, _, _ => none
  | n + 1, x0, x1, x2, x4, x6, x7, x8, x10, μ =>
    ck (μ x0 (-2) = 9) <|
    bd (f_X7_count N x0 2 μ) fun a2 μ3 =>
    if a2 ≤ x10 then
      (nm (w64 (x4 + x8)) fun a5 =>
       ck (μ3 x0 (-2) = 9) <|
       bd (f_X7_owner N x0 x6 6 μ3) fun a7 μ8 =>
       nm (w64 (x2 + a7)) fun a9 =>
       ck (μ8 x0 (-2) = 9) <|
       bd (f_X7_count N x0 8 μ8) fun a11 μ12 =>
       nm (w64 (x8 * a11)) fun a13 =>
       nm (w64 (Int.tdiv a13 100)) fun a14 =>
       ck (μ12 x0 (-2) = 9) <|
       bd (f_X7_owner N x0 x6 1 μ12) fun a17 μ18 =>
       if a17 < a14 then
         (f_L_owners_b154 N k8 x0 x1 a9 a5 x6 x7 x8 0 μ18)
       else
       f_L_owners_b154 N k8 x0 x1 a9 a5 x6 x7 x8 1 μ18)
    else
    ck (μ3 x0 (-2) = 9) <|
    bd (f_X7_lot N x0 x10 0 μ3) fun a21 μ22 =>
    if ¬ a21 = x6 then
      (f_L_owners_b66 N k8 (f_L_owners_b27 N k8 n) x0 x1 x2 x4 x6 x8 x10 x7 μ22)
    else
    ck (μ22 x0 (-2) = 9) <|
    bd (f_X7_lot N x0 x10 7 μ22) fun a25 μ26 =>
    if a25 ≤ 0 then
      (f_L_owners_b66 N k8 (f_L_owners_b27 N k8 n) x0 x1 x2 x4 x6 x8 x10 x7 μ26)
    else
    f_L_owners_b67 N k8 (f_L_owners_b27 N k8 n) x0 x1 x2 x4 x6 x8 x10 x7 1 μ26
def f_L_owners_b8 (N : Nat) : Nat → Int → Int → Int → Int → Int → Mm → Rs
  | 0, _, _, _, _, _, _ => none
  | n + 1, x0, x1, x2, x4, x6, μ =>
    ck (μ x0 (-2) = 9) <|
    bd (f_X7_count N x0 1 μ) fun a2 μ3 =>
    if a2 ≤ x6 then
      (ck (μ3 x0 (-2) = 9) <|
       bd (f_X7_account N x0 4 μ3) fun a6 μ7 =>
       if ¬ x2 = a6 then
         (some (0, μ7))
       else
       ck (μ7 x0 (-2) = 9) <|
       bd (f_X7_account N x0 1 μ7) fun a10 μ11 =>
       if ¬ x4 = a10 then
         (some (0, μ11))
       else
       ck (μ11 x0 (-2) = 9) <|
       bd (f_X7_count N x0 1 μ11) fun a14 μ15 =>
       ck (μ15 x0 (-2) = 9) <|
       bd (f_X7_owner N x0 a14 0 μ15) fun a17 μ18 =>
       if ¬ a17 = ((-100000001)) then
         (some (0, μ18))
       else
       ck (μ18 x0 (-2) = 9) <|
       bd (f_X7_count N x0 13 μ18) fun a21 μ22 =>
       if ¬ a21 = ((-100000002)) then
         (some (0, μ22))
       else
       ck (μ22 x0 (-2) = 9) <|
       bd (f_X7_rate N x0 6 μ22) fun a25 μ26 =>
       if a25 = ((-100000001)) then
         (ck (μ26 x0 (-2) = 9) <|
          bd (f_X7_count N x0 1 μ26) fun a29 μ30 =>
          if ¬ a29 = 0 then
            (ck (μ30 x0 (-2) = 9) <|
             bd (f_X7_count N x0 1 μ30) fun a33 μ34 =>
             bd (f_L_low N x1 a33 μ34) fun a35 μ36 =>
             nm (o_shr x1 3) fun a37 =>
             bd (f_L_low N a37 6 μ36) fun a38 μ39 =>
             ck (μ39 x0 (-2) = 9) <|
             bd (f_X7_owner N x0 a35 3 μ39) fun a41 μ42 =>
             ck (μ42 x0 (-2) = 9) <|
             bd (f_X7_count N x0 8 μ42) fun a44 μ45 =>
             ck (μ45 x0 (-2) = 9) <|
             bd (f_X7_greatestValue N x0 a35 a38 μ45) fun a47 μ48 =>
             nm (w64 (a41 * a44)) fun a49 =>
             nm (w64 (Int.tdiv a49 100)) fun a50 =>
             ck (μ48 x0 (-2) = 9) <|
             bd (f_X7_owner N x0 a35 1 μ48) fun a53 μ54 =>
             if a50 ≤ a53 then
               (f_L_owners_b410 N x0 a35 a38 a41 a44 a47 0 μ54)
             else
             f_L_owners_b410 N x0 a35 a38 a41 a44 a47 1 μ54)
          else
          some (1, μ30))
       else
       some (0, μ26))
    else
    f_L_owners_b27 N (f_L_owners_b8 N n) N x0 x1 x2 x4 x6 0 0 0 μ3
def f_L_owners (N : Nat) (x0 x1 : Int) (μ : Mm) : Rs :=
  f_L_owners_b8 N N x0 x1 0 0 0 μ
set_option maxHeartbeats 4000000 in
set_option maxRecDepth 100000 in
theorem k_L_owners_b523 (C : gCx p s m args meth c cL_owners 15 (some .boolean) "owners" RL) (N : Nat) {r : Int} {μ' : Mm} : ∀ (x0 x6 y0 : Int) (μ : Mm), f_L_owners_b523 N x0 x6 y0 μ = some (r, μ') → R32 x6 → R32 y0 → ∀ (H : Heap) (locs : List Loc) (ls : Array Slot), MS E μ s H locs → lv_has ls 15 [(0, vr E x0), (6, vi x6)] → W p l e ({ frames := 4, cells := 0, slots := 0, locals := 85 } : Room) s m args below meth c H locs 0 0 (MQ below (gQ E (some (vi r)) (R32 r) μ') args s 0 0 (gA E)) (F0 m 523 ls [vi y0]) := by
  intro x0 x6 y0 μ h rx6 ry0 H locs ls hM hl
  unfold f_L_owners_b523 at h
  refine m_istore (pc := 523) C dL_owners_523 hl (by decide) (lvK1 0 rfl (Nat.ne_of_beq_eq_false rfl) (Nat.ne_of_beq_eq_false rfl) (lvK1 1 rfl (Nat.ne_of_beq_eq_false rfl) (Nat.ne_of_beq_eq_false rfl) lvK0)) (fun ls hl => ?_)
  refine m_iload (pc := 525) C dL_owners_525 (lv_at hl 0 rfl) ?_
  refine m_if_eq (tgt := 547) (pc := 527) C ry0 dL_owners_527 (by decide) (fun c1 => ?_) (fun c1 => ?_)
  · have h := if_t h c1
    refine m_iconst (pc := 547) C dL_owners_547 ?_
    cases h
    exact m_zret (pc := 548) C rfl hM rk_0 dL_owners_548
  · have h := if_f h c1
    refine m_aload_n (pc := 530) C dL_owners_530 rfl (lv_at hl 1 rfl) ?_
    refine m_iload (pc := 531) C dL_owners_531 (lv_at hl 2 rfl) ?_
    refine m_bipush (pc := 533) C dL_owners_533 rfl ?_
    obtain ⟨q2, h⟩ := ck_some h
    obtain ⟨a3, μ4, ca3, h⟩ := bd_some h
    refine V_X7_greatestValue (pc := 535) C hM ca3 rx6 rk_6 q2 bw_3_91 ⟨Nat.le_of_ble_eq_true rfl, Nat.le_of_ble_eq_true rfl⟩ hl.1 rc0 ⟨Nat.le_refl _, Nat.le_refl _⟩ dL_owners_535 (fun ra3 H locs hM => ?_)
    refine m_ldc (n := -100000001) (pc := 538) C bw_3_85 rfl dL_owners_538 ?_
    refine m_icmp_ne (tgt := 547) (pc := 540) C ra3 rk_m100000001 dL_owners_540 (by decide) (fun c5 => ?_) (fun c5 => ?_)
    · have h := if_t h c5
      refine m_iconst (pc := 547) C dL_owners_547 ?_
      cases h
      exact m_zret (pc := 548) C rfl hM rk_0 dL_owners_548
    · have h := if_f h c5
      refine m_iconst (pc := 543) C dL_owners_543 ?_
      refine m_goto (tgt := 548) (pc := 544) C dL_owners_544 (by decide) ?_
      cases h
      exact m_zret (pc := 548) C rfl hM rk_1 dL_owners_548
set_option maxHeartbeats 4000000 in
set_option maxRecDepth 100000 in
theorem k_L_owners_b522 (C : gCx p s m args meth c cL_owners 15 (some .boolean) "owners" RL) (N : Nat) {r : Int} {μ' : Mm} : ∀ (x0 x6 : Int) (μ : Mm), f_L_owners_b522 N x0 x6 μ = some (r, μ') → R32 x6 → ∀ (H : Heap) (locs : List Loc) (ls : Array Slot), MS E μ s H locs → lv_has ls 15 [(0, vr E x0), (6, vi x6)] → W p l e ({ frames := 4, cells := 0, slots := 0, locals := 85 } : Room) s m args below meth c H locs 0 0 (MQ below (gQ E (some (vi r)) (R32 r) μ') args s 0 0 (gA E)) (F0 m 522 ls []) := by
  intro x0 x6 μ h rx6 H locs ls hM hl
  unfold f_L_owners_b522 at h
  refine m_iconst (pc := 522) C dL_owners_522 ?_
  exact k_L_owners_b523 C N _ _ _ _ h rx6 rk_0 _ _ _ hM (lv_sub hl [0, 1] rfl)
set_option maxHeartbeats 4000000 in
set_option maxRecDepth 100000 in
theorem k_L_owners_b518 (C : gCx p s m args meth c cL_owners 15 (some .boolean) "owners" RL) (N : Nat) {r : Int} {μ' : Mm} : ∀ (x0 x6 : Int) (μ : Mm), f_L_owners_b518 N x0 x6 μ = some (r, μ') → R32 x6 → ∀ (H : Heap) (locs : List Loc) (ls : Array Slot), MS E μ s H locs → lv_has ls 15 [(0, vr E x0), (6, vi x6)] → W p l e ({ frames := 4, cells := 0, slots := 0, locals := 85 } : Room) s m args below meth c H locs 0 0 (MQ below (gQ E (some (vi r)) (R32 r) μ') args s 0 0 (gA E)) (F0 m 518 ls []) := by
  intro x0 x6 μ h rx6 H locs ls hM hl
  unfold f_L_owners_b518 at h
  refine m_iconst (pc := 518) C dL_owners_518 ?_
  refine m_goto (tgt := 523) (pc := 519) C dL_owners_519 (by decide) ?_
  exact k_L_owners_b523 C N _ _ _ _ h rx6 rk_1 _ _ _ hM (lv_sub hl [0, 1] rfl)
set_option maxHeartbeats 4000000 in
set_option maxRecDepth 100000 in
theorem k_L_owners_b410 (C : gCx p s m args meth c cL_owners 15 (some .boolean) "owners" RL) (N : Nat) {r : Int} {μ' : Mm} : ∀ (x0 x6 x7 x8 x10 x12 y0 : Int) (μ : Mm), f_L_owners_b410 N x0 x6 x7 x8 x10 x12 y0 μ = some (r, μ') → R32 x6 → R32 x7 → R64 x8 → R64 x10 → R32 x12 → R32 y0 → ∀ (H : Heap) (locs : List Loc) (ls : Array Slot), MS E μ s H locs → lv_has ls 15 [(0, vr E x0), (6, vi x6), (7, vi x7), (8, vl x8), (10, vl x10), (12, vi x12)] → W p l e ({ frames := 4, cells := 0, slots := 0, locals := 85 } : Room) s m args below meth c H locs 0 0 (MQ below (gQ E (some (vi r)) (R32 r) μ') args s 0 0 (gA E)) (F0 m 410 ls [vi y0]) := by
  intro x0 x6 x7 x8 x10 x12 y0 μ h rx6 rx7 rx8 rx10 rx12 ry0 H locs ls hM hl
  unfold f_L_owners_b410 at h
  refine m_istore (pc := 410) C dL_owners_410 hl (by decide) (lvK1 0 rfl (Nat.ne_of_beq_eq_false rfl) (Nat.ne_of_beq_eq_false rfl) (lvK1 1 rfl (Nat.ne_of_beq_eq_false rfl) (Nat.ne_of_beq_eq_false rfl) (lvK1 2 rfl (Nat.ne_of_beq_eq_false rfl) (Nat.ne_of_beq_eq_false rfl) (lvK1 3 rfl (Nat.ne_of_beq_eq_false rfl) (Nat.ne_of_beq_eq_false rfl) (lvK1 4 rfl (Nat.ne_of_beq_eq_false rfl) (Nat.ne_of_beq_eq_false rfl) (lvK2 5 rfl (Nat.ne_of_beq_eq_false rfl) rfl lvK0)))))) (fun ls hl => ?_)
  refine m_iload (pc := 412) C dL_owners_412 (lv_at hl 0 rfl) ?_
  refine m_if_eq (tgt := 432) (pc := 414) C ry0 dL_owners_414 (by decide) (fun c1 => ?_) (fun c1 => ?_)
  · have h := if_t h c1
    refine m_iload (pc := 432) C dL_owners_432 (lv_at hl 6 rfl) ?_
    refine m_if_lt (tgt := 522) (pc := 434) C rx12 dL_owners_434 (by decide) (fun c2 => ?_) (fun c2 => ?_)
    · have h := if_t h c2
      exact k_L_owners_b522 C N _ _ _ h rx6 _ _ _ hM (lv_sub hl [1, 2] rfl)
    · have h := if_f h c2
      refine m_lload (pc := 437) C dL_owners_437 (lv_at hl 4 rfl) ?_
      refine m_iload (pc := 439) C dL_owners_439 (lv_at hl 6 rfl) ?_
      refine m_i2l (pc := 441) C rx12 dL_owners_441 ?_
      refine m_aload_n (pc := 442) C dL_owners_442 rfl (lv_at hl 1 rfl) ?_
      refine m_iload (pc := 443) C dL_owners_443 (lv_at hl 3 rfl) ?_
      obtain ⟨q3, h⟩ := ck_some h
      obtain ⟨a4, μ5, ca4, h⟩ := bd_some h
      refine V_X7_rate (pc := 445) C hM ca4 rx7 q3 bw_3_26 ⟨Nat.le_of_ble_eq_true rfl, Nat.le_of_ble_eq_true rfl⟩ hl.1 (rcL (rcL rc0)) ⟨Nat.le_refl _, Nat.le_refl _⟩ dL_owners_445 (fun ra4 H locs hM => ?_)
      refine m_i2l (pc := 448) C ra4 dL_owners_448 ?_
      obtain ⟨a6, ea6, h⟩ := nm_some h
      have ra6 : R64 a6 := by rw [ea6]; exact w64_R _
      refine m_lmul (pc := 449) C dL_owners_449 ea6 ?_
      refine m_ldc2 (n := 1000) (pc := 450) C bw_3_103 rfl dL_owners_450 ?_
      obtain ⟨a7, ea7, h⟩ := nm_some h
      have ra7 : R64 a7 := by rw [ea7]; exact w64_R _
      refine m_ldiv (pc := 453) C ra6 rl_1000 (by decide) dL_owners_453 ea7 ?_
      obtain ⟨a9, ea9, h⟩ := nm_some h
      have ra9 : R64 a9 := by rw [ea9]; exact w64_R _
      refine m_ladd (pc := 454) C dL_owners_454 ea9 ?_
      refine m_lload (pc := 455) C dL_owners_455 (lv_at hl 5 rfl) ?_
      obtain ⟨a10, ea10, h⟩ := nm_some h
      have ra10 : R64 a10 := by rw [ea10]; exact w64_R _
      refine m_lmul (pc := 457) C dL_owners_457 ea10 ?_
      refine m_ldc2 (n := 100) (pc := 458) C bw_3_89 rfl dL_owners_458 ?_
      obtain ⟨a11, ea11, h⟩ := nm_some h
      have ra11 : R64 a11 := by rw [ea11]; exact w64_R _
      refine m_ldiv (pc := 461) C ra10 rl_100 (by decide) dL_owners_461 ea11 ?_
      refine m_aload_n (pc := 462) C dL_owners_462 rfl (lv_at hl 1 rfl) ?_
      refine m_iload (pc := 463) C dL_owners_463 (lv_at hl 2 rfl) ?_
      refine m_iconst (pc := 465) C dL_owners_465 ?_
      obtain ⟨q13, h⟩ := ck_some h
      obtain ⟨a14, μ15, ca14, h⟩ := bd_some h
      refine V_X7_owner (pc := 466) C hM ca14 rx6 rk_1 q13 bw_3_30 ⟨Nat.le_of_ble_eq_true rfl, Nat.le_of_ble_eq_true rfl⟩ hl.1 (rcL rc0) ⟨Nat.le_refl _, Nat.le_refl _⟩ dL_owners_466 (fun ra14 H locs hM => ?_)
      refine m_lcmp_gt (tgt := 522) (pc := 469) C ra11 ra14 dL_owners_469 dL_owners_470 (by decide) (fun c16 => ?_) (fun c16 => ?_)
      · have h := if_t h c16
        exact k_L_owners_b522 C N _ _ _ h rx6 _ _ _ hM (lv_sub hl [1, 2] rfl)
      · have h := if_f h c16
        refine m_iload (pc := 473) C dL_owners_473 (lv_at hl 6 rfl) ?_
        refine m_ldc (n := 10000000) (pc := 475) C bw_3_104 rfl dL_owners_475 ?_
        refine m_icmp_eq (tgt := 518) (pc := 477) C rx12 rk_10000000 dL_owners_477 (by decide) (fun c17 => ?_) (fun c17 => ?_)
        · have h := if_t h c17
          exact k_L_owners_b518 C N _ _ _ h rx6 _ _ _ hM (lv_sub hl [1, 2] rfl)
        · have h := if_f h c17
          refine m_lload (pc := 480) C dL_owners_480 (lv_at hl 4 rfl) ?_
          refine m_iload (pc := 482) C dL_owners_482 (lv_at hl 6 rfl) ?_
          refine m_i2l (pc := 484) C rx12 dL_owners_484 ?_
          refine m_lconst (v := 1) (pc := 485) C dL_owners_485 rfl ?_
          obtain ⟨a18, ea18, h⟩ := nm_some h
          have ra18 : R64 a18 := by rw [ea18]; exact w64_R _
          refine m_ladd (pc := 486) C dL_owners_486 ea18 ?_
          refine m_aload_n (pc := 487) C dL_owners_487 rfl (lv_at hl 1 rfl) ?_
          refine m_iload (pc := 488) C dL_owners_488 (lv_at hl 3 rfl) ?_
          obtain ⟨q19, h⟩ := ck_some h
          obtain ⟨a20, μ21, ca20, h⟩ := bd_some h
          refine V_X7_rate (pc := 490) C hM ca20 rx7 q19 bw_3_26 ⟨Nat.le_of_ble_eq_true rfl, Nat.le_of_ble_eq_true rfl⟩ hl.1 (rcL (rcL rc0)) ⟨Nat.le_refl _, Nat.le_refl _⟩ dL_owners_490 (fun ra20 H locs hM => ?_)
          refine m_i2l (pc := 493) C ra20 dL_owners_493 ?_
          obtain ⟨a22, ea22, h⟩ := nm_some h
          have ra22 : R64 a22 := by rw [ea22]; exact w64_R _
          refine m_lmul (pc := 494) C dL_owners_494 ea22 ?_
          refine m_ldc2 (n := 1000) (pc := 495) C bw_3_103 rfl dL_owners_495 ?_
          obtain ⟨a23, ea23, h⟩ := nm_some h
          have ra23 : R64 a23 := by rw [ea23]; exact w64_R _
          refine m_ldiv (pc := 498) C ra22 rl_1000 (by decide) dL_owners_498 ea23 ?_
          obtain ⟨a25, ea25, h⟩ := nm_some h
          have ra25 : R64 a25 := by rw [ea25]; exact w64_R _
          refine m_ladd (pc := 499) C dL_owners_499 ea25 ?_
          refine m_lload (pc := 500) C dL_owners_500 (lv_at hl 5 rfl) ?_
          obtain ⟨a26, ea26, h⟩ := nm_some h
          have ra26 : R64 a26 := by rw [ea26]; exact w64_R _
          refine m_lmul (pc := 502) C dL_owners_502 ea26 ?_
          refine m_ldc2 (n := 100) (pc := 503) C bw_3_89 rfl dL_owners_503 ?_
          obtain ⟨a27, ea27, h⟩ := nm_some h
          have ra27 : R64 a27 := by rw [ea27]; exact w64_R _
          refine m_ldiv (pc := 506) C ra26 rl_100 (by decide) dL_owners_506 ea27 ?_
          refine m_aload_n (pc := 507) C dL_owners_507 rfl (lv_at hl 1 rfl) ?_
          refine m_iload (pc := 508) C dL_owners_508 (lv_at hl 2 rfl) ?_
          refine m_iconst (pc := 510) C dL_owners_510 ?_
          obtain ⟨q29, h⟩ := ck_some h
          obtain ⟨a30, μ31, ca30, h⟩ := bd_some h
          refine V_X7_owner (pc := 511) C hM ca30 rx6 rk_1 q29 bw_3_30 ⟨Nat.le_of_ble_eq_true rfl, Nat.le_of_ble_eq_true rfl⟩ hl.1 (rcL rc0) ⟨Nat.le_refl _, Nat.le_refl _⟩ dL_owners_511 (fun ra30 H locs hM => ?_)
          refine m_lcmp_le (tgt := 522) (pc := 514) C ra27 ra30 dL_owners_514 dL_owners_515 (by decide) (fun c32 => ?_) (fun c32 => ?_)
          · have h := if_t h c32
            exact k_L_owners_b522 C N _ _ _ h rx6 _ _ _ hM (lv_sub hl [1, 2] rfl)
          · have h := if_f h c32
            exact k_L_owners_b518 C N _ _ _ h rx6 _ _ _ hM (lv_sub hl [1, 2] rfl)
  · have h := if_f h c1
    refine m_iload (pc := 417) C dL_owners_417 (lv_at hl 6 rfl) ?_
    refine m_ldc (n := -100000005) (pc := 419) C bw_3_102 rfl dL_owners_419 ?_
    refine m_icmp_ne (tgt := 428) (pc := 421) C rx12 rk_m100000005 dL_owners_421 (by decide) (fun c33 => ?_) (fun c33 => ?_)
    · have h := if_t h c33
      refine m_iconst (pc := 428) C dL_owners_428 ?_
      refine m_goto (tgt := 523) (pc := 429) C dL_owners_429 (by decide) ?_
      exact k_L_owners_b523 C N _ _ _ _ h rx6 rk_0 _ _ _ hM (lv_sub hl [1, 2] rfl)
    · have h := if_f h c33
      refine m_iconst (pc := 424) C dL_owners_424 ?_
      refine m_goto (tgt := 523) (pc := 425) C dL_owners_425 (by decide) ?_
      exact k_L_owners_b523 C N _ _ _ _ h rx6 rk_1 _ _ _ hM (lv_sub hl [1, 2] rfl)
set_option maxHeartbeats 4000000 in
set_option maxRecDepth 100000 in
theorem k_L_owners_b222 (C : gCx p s m args meth c cL_owners 15 (some .boolean) "owners" RL) (N : Nat) {r : Int} {μ' : Mm} (k8 : Int → Int → Int → Int → Int → Mm → Rs) (hk8 : ∀ (x0 x1 x2 x4 x6 : Int) (μ : Mm), k8 x0 x1 x2 x4 x6 μ = some (r, μ') → R32 x1 → R64 x2 → R64 x4 → R32 x6 → ∀ (H : Heap) (locs : List Loc) (ls : Array Slot), MS E μ s H locs → lv_has ls 15 [(0, vr E x0), (1, vi x1), (2, vl x2), (4, vl x4), (6, vi x6)] → W p l e ({ frames := 4, cells := 0, slots := 0, locals := 85 } : Room) s m args below meth c H locs 0 0 (MQ below (gQ E (some (vi r)) (R32 r) μ') args s 0 0 (gA E)) (F0 m 8 ls [])) : ∀ (x0 x1 x2 x4 x6 x7 y0 y1 : Int) (μ : Mm), f_L_owners_b222 N k8 x0 x1 x2 x4 x6 x7 y0 y1 μ = some (r, μ') → R32 x1 → R64 x2 → R64 x4 → R32 x6 → R32 x7 → R64 y0 → R32 y1 → ∀ (H : Heap) (locs : List Loc) (ls : Array Slot), MS E μ s H locs → lv_has ls 15 [(0, vr E x0), (1, vi x1), (2, vl x2), (4, vl x4), (6, vi x6), (7, vi x7)] → W p l e ({ frames := 4, cells := 0, slots := 0, locals := 85 } : Room) s m args below meth c H locs 0 0 (MQ below (gQ E (some (vi r)) (R32 r) μ') args s 0 0 (gA E)) (F0 m 222 ls [vi y1, vl y0]) := by
  intro x0 x1 x2 x4 x6 x7 y0 y1 μ h rx1 rx2 rx4 rx6 rx7 ry0 ry1 H locs ls hM hl
  unfold f_L_owners_b222 at h
  refine m_i2l (pc := 222) C ry1 dL_owners_222 ?_
  refine m_lcmp_ne (tgt := 256) (pc := 223) C ry0 (R32.to64 ry1) dL_owners_223 dL_owners_224 (by decide) (fun c1 => ?_) (fun c1 => ?_)
  · have h := if_t h c1
    refine m_iconst (pc := 256) C dL_owners_256 ?_
    cases h
    exact m_zret (pc := 257) C rfl hM rk_0 dL_owners_257
  · have h := if_f h c1
    refine m_aload_n (pc := 227) C dL_owners_227 rfl (lv_at hl 0 rfl) ?_
    refine m_iload (pc := 228) C dL_owners_228 (lv_at hl 4 rfl) ?_
    refine m_iconst (pc := 230) C dL_owners_230 ?_
    obtain ⟨q2, h⟩ := ck_some h
    obtain ⟨a3, μ4, ca3, h⟩ := bd_some h
    refine V_X7_owner (pc := 231) C hM ca3 rx6 rk_5 q2 bw_3_30 ⟨Nat.le_of_ble_eq_true rfl, Nat.le_of_ble_eq_true rfl⟩ hl.1 rc0 ⟨Nat.le_refl _, Nat.le_refl _⟩ dL_owners_231 (fun ra3 H locs hM => ?_)
    refine m_iload (pc := 234) C dL_owners_234 (lv_at hl 5 rfl) ?_
    refine m_i2l (pc := 236) C rx7 dL_owners_236 ?_
    refine m_lcmp_ne (tgt := 256) (pc := 237) C ra3 (R32.to64 rx7) dL_owners_237 dL_owners_238 (by decide) (fun c5 => ?_) (fun c5 => ?_)
    · have h := if_t h c5
      refine m_iconst (pc := 256) C dL_owners_256 ?_
      cases h
      exact m_zret (pc := 257) C rfl hM rk_0 dL_owners_257
    · have h := if_f h c5
      refine m_aload_n (pc := 241) C dL_owners_241 rfl (lv_at hl 0 rfl) ?_
      refine m_iload (pc := 242) C dL_owners_242 (lv_at hl 4 rfl) ?_
      refine m_bipush (pc := 244) C dL_owners_244 rfl ?_
      obtain ⟨q6, h⟩ := ck_some h
      obtain ⟨a7, μ8, ca7, h⟩ := bd_some h
      refine V_X7_owner (pc := 246) C hM ca7 rx6 rk_7 q6 bw_3_30 ⟨Nat.le_of_ble_eq_true rfl, Nat.le_of_ble_eq_true rfl⟩ hl.1 rc0 ⟨Nat.le_refl _, Nat.le_refl _⟩ dL_owners_246 (fun ra7 H locs hM => ?_)
      refine m_ldc2 (n := -100000002) (pc := 249) C bw_3_84 rfl dL_owners_249 ?_
      refine m_lcmp_eq (tgt := 258) (pc := 252) C ra7 rl_m100000002 dL_owners_252 dL_owners_253 (by decide) (fun c9 => ?_) (fun c9 => ?_)
      · have h := if_t h c9
        obtain ⟨a10, ea10, h⟩ := nm_some h
        have ra10 : R32 a10 := by rw [ea10]; exact w32_R _
        refine m_iinc (k := 4) (pc := 258) C dL_owners_258 hl rfl (by decide) ea10 (lvK1 0 rfl (Nat.ne_of_beq_eq_false rfl) (Nat.ne_of_beq_eq_false rfl) (lvK1 1 rfl (Nat.ne_of_beq_eq_false rfl) (Nat.ne_of_beq_eq_false rfl) (lvK1 2 rfl (Nat.ne_of_beq_eq_false rfl) (Nat.ne_of_beq_eq_false rfl) (lvK1 3 rfl (Nat.ne_of_beq_eq_false rfl) (Nat.ne_of_beq_eq_false rfl) lvK0)))) (fun ls hl => ?_)
        refine m_goto (tgt := 8) (pc := 261) C dL_owners_261 (by decide) ?_
        exact hk8 _ _ _ _ _ _ h rx1 rx2 rx4 ra10 _ _ _ hM (lv_sub hl [1, 2, 3, 4, 0] rfl)
      · have h := if_f h c9
        refine m_iconst (pc := 256) C dL_owners_256 ?_
        cases h
        exact m_zret (pc := 257) C rfl hM rk_0 dL_owners_257
set_option maxHeartbeats 4000000 in
set_option maxRecDepth 100000 in
theorem k_L_owners_b154 (C : gCx p s m args meth c cL_owners 15 (some .boolean) "owners" RL) (N : Nat) {r : Int} {μ' : Mm} (k8 : Int → Int → Int → Int → Int → Mm → Rs) (hk8 : ∀ (x0 x1 x2 x4 x6 : Int) (μ : Mm), k8 x0 x1 x2 x4 x6 μ = some (r, μ') → R32 x1 → R64 x2 → R64 x4 → R32 x6 → ∀ (H : Heap) (locs : List Loc) (ls : Array Slot), MS E μ s H locs → lv_has ls 15 [(0, vr E x0), (1, vi x1), (2, vl x2), (4, vl x4), (6, vi x6)] → W p l e ({ frames := 4, cells := 0, slots := 0, locals := 85 } : Room) s m args below meth c H locs 0 0 (MQ below (gQ E (some (vi r)) (R32 r) μ') args s 0 0 (gA E)) (F0 m 8 ls [])) : ∀ (x0 x1 x2 x4 x6 x7 x8 y0 : Int) (μ : Mm), f_L_owners_b154 N k8 x0 x1 x2 x4 x6 x7 x8 y0 μ = some (r, μ') → R32 x1 → R64 x2 → R64 x4 → R32 x6 → R32 x7 → R64 x8 → R32 y0 → ∀ (H : Heap) (locs : List Loc) (ls : Array Slot), MS E μ s H locs → lv_has ls 15 [(0, vr E x0), (1, vi x1), (2, vl x2), (4, vl x4), (6, vi x6), (7, vi x7), (8, vl x8)] → W p l e ({ frames := 4, cells := 0, slots := 0, locals := 85 } : Room) s m args below meth c H locs 0 0 (MQ below (gQ E (some (vi r)) (R32 r) μ') args s 0 0 (gA E)) (F0 m 154 ls [vi y0]) := by
  intro x0 x1 x2 x4 x6 x7 x8 y0 μ h rx1 rx2 rx4 rx6 rx7 rx8 ry0 H locs ls hM hl
  unfold f_L_owners_b154 at h
  refine m_istore (pc := 154) C dL_owners_154 hl (by decide) (lvK1 0 rfl (Nat.ne_of_beq_eq_false rfl) (Nat.ne_of_beq_eq_false rfl) (lvK1 1 rfl (Nat.ne_of_beq_eq_false rfl) (Nat.ne_of_beq_eq_false rfl) (lvK1 2 rfl (Nat.ne_of_beq_eq_false rfl) (Nat.ne_of_beq_eq_false rfl) (lvK1 3 rfl (Nat.ne_of_beq_eq_false rfl) (Nat.ne_of_beq_eq_false rfl) (lvK1 4 rfl (Nat.ne_of_beq_eq_false rfl) (Nat.ne_of_beq_eq_false rfl) (lvK1 5 rfl (Nat.ne_of_beq_eq_false rfl) (Nat.ne_of_beq_eq_false rfl) (lvK1 6 rfl (Nat.ne_of_beq_eq_false rfl) (Nat.ne_of_beq_eq_false rfl) lvK0))))))) (fun ls hl => ?_)
  refine m_aload_n (pc := 156) C dL_owners_156 rfl (lv_at hl 1 rfl) ?_
  refine m_iload (pc := 157) C dL_owners_157 (lv_at hl 5 rfl) ?_
  refine m_iconst (pc := 159) C dL_owners_159 ?_
  obtain ⟨q1, h⟩ := ck_some h
  obtain ⟨a2, μ3, ca2, h⟩ := bd_some h
  refine V_X7_owner (pc := 160) C hM ca2 rx6 rk_0 q1 bw_3_30 ⟨Nat.le_of_ble_eq_true rfl, Nat.le_of_ble_eq_true rfl⟩ hl.1 rc0 ⟨Nat.le_refl _, Nat.le_refl _⟩ dL_owners_160 (fun ra2 H locs hM => ?_)
  refine m_lconst (v := 0) (pc := 163) C dL_owners_163 rfl ?_
  refine m_lcmp_lt (tgt := 256) (pc := 164) C ra2 rl_0 dL_owners_164 dL_owners_165 (by decide) (fun c4 => ?_) (fun c4 => ?_)
  · have h := if_t h c4
    refine m_iconst (pc := 256) C dL_owners_256 ?_
    cases h
    exact m_zret (pc := 257) C rfl hM rk_0 dL_owners_257
  · have h := if_f h c4
    refine m_aload_n (pc := 168) C dL_owners_168 rfl (lv_at hl 1 rfl) ?_
    refine m_iload (pc := 169) C dL_owners_169 (lv_at hl 5 rfl) ?_
    refine m_iconst (pc := 171) C dL_owners_171 ?_
    obtain ⟨q5, h⟩ := ck_some h
    obtain ⟨a6, μ7, ca6, h⟩ := bd_some h
    refine V_X7_owner (pc := 172) C hM ca6 rx6 rk_1 q5 bw_3_30 ⟨Nat.le_of_ble_eq_true rfl, Nat.le_of_ble_eq_true rfl⟩ hl.1 rc0 ⟨Nat.le_refl _, Nat.le_refl _⟩ dL_owners_172 (fun ra6 H locs hM => ?_)
    refine m_lconst (v := 0) (pc := 175) C dL_owners_175 rfl ?_
    refine m_lcmp_lt (tgt := 256) (pc := 176) C ra6 rl_0 dL_owners_176 dL_owners_177 (by decide) (fun c8 => ?_) (fun c8 => ?_)
    · have h := if_t h c8
      refine m_iconst (pc := 256) C dL_owners_256 ?_
      cases h
      exact m_zret (pc := 257) C rfl hM rk_0 dL_owners_257
    · have h := if_f h c8
      refine m_aload_n (pc := 180) C dL_owners_180 rfl (lv_at hl 1 rfl) ?_
      refine m_iload (pc := 181) C dL_owners_181 (lv_at hl 5 rfl) ?_
      refine m_iconst (pc := 183) C dL_owners_183 ?_
      obtain ⟨q9, h⟩ := ck_some h
      obtain ⟨a10, μ11, ca10, h⟩ := bd_some h
      refine V_X7_owner (pc := 184) C hM ca10 rx6 rk_2 q9 bw_3_30 ⟨Nat.le_of_ble_eq_true rfl, Nat.le_of_ble_eq_true rfl⟩ hl.1 rc0 ⟨Nat.le_refl _, Nat.le_refl _⟩ dL_owners_184 (fun ra10 H locs hM => ?_)
      refine m_lconst (v := 0) (pc := 187) C dL_owners_187 rfl ?_
      refine m_lcmp_lt (tgt := 256) (pc := 188) C ra10 rl_0 dL_owners_188 dL_owners_189 (by decide) (fun c12 => ?_) (fun c12 => ?_)
      · have h := if_t h c12
        refine m_iconst (pc := 256) C dL_owners_256 ?_
        cases h
        exact m_zret (pc := 257) C rfl hM rk_0 dL_owners_257
      · have h := if_f h c12
        refine m_aload_n (pc := 192) C dL_owners_192 rfl (lv_at hl 1 rfl) ?_
        refine m_iload (pc := 193) C dL_owners_193 (lv_at hl 5 rfl) ?_
        refine m_iconst (pc := 195) C dL_owners_195 ?_
        obtain ⟨q13, h⟩ := ck_some h
        obtain ⟨a14, μ15, ca14, h⟩ := bd_some h
        refine V_X7_owner (pc := 196) C hM ca14 rx6 rk_3 q13 bw_3_30 ⟨Nat.le_of_ble_eq_true rfl, Nat.le_of_ble_eq_true rfl⟩ hl.1 rc0 ⟨Nat.le_refl _, Nat.le_refl _⟩ dL_owners_196 (fun ra14 H locs hM => ?_)
        refine m_lload (pc := 199) C dL_owners_199 (lv_at hl 7 rfl) ?_
        refine m_lcmp_ne (tgt := 256) (pc := 201) C ra14 rx8 dL_owners_201 dL_owners_202 (by decide) (fun c16 => ?_) (fun c16 => ?_)
        · have h := if_t h c16
          refine m_iconst (pc := 256) C dL_owners_256 ?_
          cases h
          exact m_zret (pc := 257) C rfl hM rk_0 dL_owners_257
        · have h := if_f h c16
          refine m_aload_n (pc := 205) C dL_owners_205 rfl (lv_at hl 1 rfl) ?_
          refine m_iload (pc := 206) C dL_owners_206 (lv_at hl 5 rfl) ?_
          refine m_iconst (pc := 208) C dL_owners_208 ?_
          obtain ⟨q17, h⟩ := ck_some h
          obtain ⟨a18, μ19, ca18, h⟩ := bd_some h
          refine V_X7_owner (pc := 209) C hM ca18 rx6 rk_4 q17 bw_3_30 ⟨Nat.le_of_ble_eq_true rfl, Nat.le_of_ble_eq_true rfl⟩ hl.1 rc0 ⟨Nat.le_refl _, Nat.le_refl _⟩ dL_owners_209 (fun ra18 H locs hM => ?_)
          refine m_iload (pc := 212) C dL_owners_212 (lv_at hl 0 rfl) ?_
          refine m_if_eq (tgt := 221) (pc := 214) C ry0 dL_owners_214 (by decide) (fun c20 => ?_) (fun c20 => ?_)
          · have h := if_t h c20
            refine m_iconst (pc := 221) C dL_owners_221 ?_
            exact k_L_owners_b222 C N _ hk8 _ _ _ _ _ _ _ _ _ h rx1 rx2 rx4 rx6 rx7 ra18 rk_0 _ _ _ hM (lv_sub hl [1, 2, 3, 4, 5, 6] rfl)
          · have h := if_f h c20
            refine m_iconst (pc := 217) C dL_owners_217 ?_
            refine m_goto (tgt := 222) (pc := 218) C dL_owners_218 (by decide) ?_
            exact k_L_owners_b222 C N _ hk8 _ _ _ _ _ _ _ _ _ h rx1 rx2 rx4 rx6 rx7 ra18 rk_1 _ _ _ hM (lv_sub hl [1, 2, 3, 4, 5, 6] rfl)
set_option maxHeartbeats 4000000 in
set_option maxRecDepth 100000 in
theorem k_L_owners_b67 (C : gCx p s m args meth c cL_owners 15 (some .boolean) "owners" RL) (N : Nat) {r : Int} {μ' : Mm} (k8 : Int → Int → Int → Int → Int → Mm → Rs) (hk8 : ∀ (x0 x1 x2 x4 x6 : Int) (μ : Mm), k8 x0 x1 x2 x4 x6 μ = some (r, μ') → R32 x1 → R64 x2 → R64 x4 → R32 x6 → ∀ (H : Heap) (locs : List Loc) (ls : Array Slot), MS E μ s H locs → lv_has ls 15 [(0, vr E x0), (1, vi x1), (2, vl x2), (4, vl x4), (6, vi x6)] → W p l e ({ frames := 4, cells := 0, slots := 0, locals := 85 } : Room) s m args below meth c H locs 0 0 (MQ below (gQ E (some (vi r)) (R32 r) μ') args s 0 0 (gA E)) (F0 m 8 ls [])) (k27 : Int → Int → Int → Int → Int → Int → Int → Int → Mm → Rs) (hk27 : ∀ (x0 x1 x2 x4 x6 x7 x8 x10 : Int) (μ : Mm), k27 x0 x1 x2 x4 x6 x7 x8 x10 μ = some (r, μ') → R32 x1 → R64 x2 → R64 x4 → R32 x6 → R32 x7 → R64 x8 → R32 x10 → ∀ (H : Heap) (locs : List Loc) (ls : Array Slot), MS E μ s H locs → lv_has ls 15 [(0, vr E x0), (1, vi x1), (2, vl x2), (4, vl x4), (6, vi x6), (7, vi x7), (8, vl x8), (10, vi x10)] → W p l e ({ frames := 4, cells := 0, slots := 0, locals := 85 } : Room) s m args below meth c H locs 0 0 (MQ below (gQ E (some (vi r)) (R32 r) μ') args s 0 0 (gA E)) (F0 m 27 ls [])) : ∀ (x0 x1 x2 x4 x6 x8 x10 y0 y1 : Int) (μ : Mm), f_L_owners_b67 N k8 k27 x0 x1 x2 x4 x6 x8 x10 y0 y1 μ = some (r, μ') → R32 x1 → R64 x2 → R64 x4 → R32 x6 → R64 x8 → R32 x10 → R32 y0 → R32 y1 → ∀ (H : Heap) (locs : List Loc) (ls : Array Slot), MS E μ s H locs → lv_has ls 15 [(0, vr E x0), (1, vi x1), (2, vl x2), (4, vl x4), (6, vi x6), (8, vl x8), (10, vi x10)] → W p l e ({ frames := 4, cells := 0, slots := 0, locals := 85 } : Room) s m args below meth c H locs 0 0 (MQ below (gQ E (some (vi r)) (R32 r) μ') args s 0 0 (gA E)) (F0 m 67 ls [vi y1, vi y0]) := by
  intro x0 x1 x2 x4 x6 x8 x10 y0 y1 μ h rx1 rx2 rx4 rx6 rx8 rx10 ry0 ry1 H locs ls hM hl
  unfold f_L_owners_b67 at h
  obtain ⟨a1, ea1, h⟩ := nm_some h
  have ra1 : R32 a1 := by rw [ea1]; exact w32_R _
  refine m_iadd (pc := 67) C dL_owners_67 ea1 ?_
  refine m_istore (pc := 68) C dL_owners_68 hl (by decide) (lvK1 0 rfl (Nat.ne_of_beq_eq_false rfl) (Nat.ne_of_beq_eq_false rfl) (lvK1 1 rfl (Nat.ne_of_beq_eq_false rfl) (Nat.ne_of_beq_eq_false rfl) (lvK1 2 rfl (Nat.ne_of_beq_eq_false rfl) (Nat.ne_of_beq_eq_false rfl) (lvK1 3 rfl (Nat.ne_of_beq_eq_false rfl) (Nat.ne_of_beq_eq_false rfl) (lvK2 4 rfl (Nat.ne_of_beq_eq_false rfl) rfl (lvK1 5 rfl (Nat.ne_of_beq_eq_false rfl) (Nat.ne_of_beq_eq_false rfl) (lvK1 6 rfl (Nat.ne_of_beq_eq_false rfl) (Nat.ne_of_beq_eq_false rfl) lvK0))))))) (fun ls hl => ?_)
  refine m_lload (pc := 70) C dL_owners_70 (lv_at hl 6 rfl) ?_
  refine m_aload_n (pc := 72) C dL_owners_72 rfl (lv_at hl 1 rfl) ?_
  refine m_iload (pc := 73) C dL_owners_73 (lv_at hl 7 rfl) ?_
  refine m_iconst (pc := 75) C dL_owners_75 ?_
  obtain ⟨q2, h⟩ := ck_some h
  obtain ⟨a3, μ4, ca3, h⟩ := bd_some h
  refine V_X7_lot (pc := 76) C hM ca3 rx10 rk_0 q2 bw_3_54 ⟨Nat.le_of_ble_eq_true rfl, Nat.le_of_ble_eq_true rfl⟩ hl.1 (rcL rc0) ⟨Nat.le_refl _, Nat.le_refl _⟩ dL_owners_76 (fun ra3 H locs hM => ?_)
  refine m_iload (pc := 79) C dL_owners_79 (lv_at hl 5 rfl) ?_
  refine m_icmp_ne (tgt := 96) (pc := 81) C ra3 rx6 dL_owners_81 (by decide) (fun c5 => ?_) (fun c5 => ?_)
  · have h := if_t h c5
    refine m_lconst (v := 0) (pc := 96) C dL_owners_96 rfl ?_
    obtain ⟨a6, ea6, h⟩ := nm_some h
    have ra6 : R64 a6 := by rw [ea6]; exact w64_R _
    refine m_ladd (pc := 97) C dL_owners_97 ea6 ?_
    refine m_lstore (pc := 98) C dL_owners_98 hl (by decide) (lvK2 0 rfl (Nat.ne_of_beq_eq_false rfl) rfl (lvK1 1 rfl (Nat.ne_of_beq_eq_false rfl) (Nat.ne_of_beq_eq_false rfl) (lvK1 2 rfl (Nat.ne_of_beq_eq_false rfl) (Nat.ne_of_beq_eq_false rfl) (lvK1 3 rfl (Nat.ne_of_beq_eq_false rfl) (Nat.ne_of_beq_eq_false rfl) (lvK1 4 rfl (Nat.ne_of_beq_eq_false rfl) (Nat.ne_of_beq_eq_false rfl) (lvK1 5 rfl (Nat.ne_of_beq_eq_false rfl) (Nat.ne_of_beq_eq_false rfl) (lvK1 7 rfl (Nat.ne_of_beq_eq_false rfl) (Nat.ne_of_beq_eq_false rfl) lvK0))))))) (lvN1 (Nat.ne_of_beq_eq_false rfl) (lvN1 (Nat.ne_of_beq_eq_false rfl) (lvN1 (Nat.ne_of_beq_eq_false rfl) (lvN1 (Nat.ne_of_beq_eq_false rfl) (lvN1 (Nat.ne_of_beq_eq_false rfl) (lvN1 (Nat.ne_of_beq_eq_false rfl) (lvN1 (Nat.ne_of_beq_eq_false rfl) lvN0))))))) (fun ls hl => ?_)
    obtain ⟨a7, ea7, h⟩ := nm_some h
    have ra7 : R32 a7 := by rw [ea7]; exact w32_R _
    refine m_iinc (k := 7) (pc := 100) C dL_owners_100 hl rfl (by decide) ea7 (lvK1 0 rfl (Nat.ne_of_beq_eq_false rfl) (Nat.ne_of_beq_eq_false rfl) (lvK1 1 rfl (Nat.ne_of_beq_eq_false rfl) (Nat.ne_of_beq_eq_false rfl) (lvK1 2 rfl (Nat.ne_of_beq_eq_false rfl) (Nat.ne_of_beq_eq_false rfl) (lvK1 3 rfl (Nat.ne_of_beq_eq_false rfl) (Nat.ne_of_beq_eq_false rfl) (lvK1 4 rfl (Nat.ne_of_beq_eq_false rfl) (Nat.ne_of_beq_eq_false rfl) (lvK1 5 rfl (Nat.ne_of_beq_eq_false rfl) (Nat.ne_of_beq_eq_false rfl) (lvK1 6 rfl (Nat.ne_of_beq_eq_false rfl) (Nat.ne_of_beq_eq_false rfl) lvK0))))))) (fun ls hl => ?_)
    refine m_goto (tgt := 27) (pc := 103) C dL_owners_103 (by decide) ?_
    exact hk27 _ _ _ _ _ _ _ _ _ h rx1 rx2 rx4 rx6 ra1 ra6 ra7 _ _ _ hM (lv_sub hl [3, 4, 5, 6, 7, 2, 1, 0] rfl)
  · have h := if_f h c5
    refine m_aload_n (pc := 84) C dL_owners_84 rfl (lv_at hl 1 rfl) ?_
    refine m_iload (pc := 85) C dL_owners_85 (lv_at hl 7 rfl) ?_
    refine m_bipush (pc := 87) C dL_owners_87 rfl ?_
    obtain ⟨q8, h⟩ := ck_some h
    obtain ⟨a9, μ10, ca9, h⟩ := bd_some h
    refine V_X7_lot (pc := 89) C hM ca9 rx10 rk_8 q8 bw_3_54 ⟨Nat.le_of_ble_eq_true rfl, Nat.le_of_ble_eq_true rfl⟩ hl.1 (rcL rc0) ⟨Nat.le_refl _, Nat.le_refl _⟩ dL_owners_89 (fun ra9 H locs hM => ?_)
    refine m_i2l (pc := 92) C ra9 dL_owners_92 ?_
    refine m_goto (tgt := 97) (pc := 93) C dL_owners_93 (by decide) ?_
    obtain ⟨a11, ea11, h⟩ := nm_some h
    have ra11 : R64 a11 := by rw [ea11]; exact w64_R _
    refine m_ladd (pc := 97) C dL_owners_97 ea11 ?_
    refine m_lstore (pc := 98) C dL_owners_98 hl (by decide) (lvK2 0 rfl (Nat.ne_of_beq_eq_false rfl) rfl (lvK1 1 rfl (Nat.ne_of_beq_eq_false rfl) (Nat.ne_of_beq_eq_false rfl) (lvK1 2 rfl (Nat.ne_of_beq_eq_false rfl) (Nat.ne_of_beq_eq_false rfl) (lvK1 3 rfl (Nat.ne_of_beq_eq_false rfl) (Nat.ne_of_beq_eq_false rfl) (lvK1 4 rfl (Nat.ne_of_beq_eq_false rfl) (Nat.ne_of_beq_eq_false rfl) (lvK1 5 rfl (Nat.ne_of_beq_eq_false rfl) (Nat.ne_of_beq_eq_false rfl) (lvK1 7 rfl (Nat.ne_of_beq_eq_false rfl) (Nat.ne_of_beq_eq_false rfl) lvK0))))))) (lvN1 (Nat.ne_of_beq_eq_false rfl) (lvN1 (Nat.ne_of_beq_eq_false rfl) (lvN1 (Nat.ne_of_beq_eq_false rfl) (lvN1 (Nat.ne_of_beq_eq_false rfl) (lvN1 (Nat.ne_of_beq_eq_false rfl) (lvN1 (Nat.ne_of_beq_eq_false rfl) (lvN1 (Nat.ne_of_beq_eq_false rfl) lvN0))))))) (fun ls hl => ?_)
    obtain ⟨a12, ea12, h⟩ := nm_some h
    have ra12 : R32 a12 := by rw [ea12]; exact w32_R _
    refine m_iinc (k := 7) (pc := 100) C dL_owners_100 hl rfl (by decide) ea12 (lvK1 0 rfl (Nat.ne_of_beq_eq_false rfl) (Nat.ne_of_beq_eq_false rfl) (lvK1 1 rfl (Nat.ne_of_beq_eq_false rfl) (Nat.ne_of_beq_eq_false rfl) (lvK1 2 rfl (Nat.ne_of_beq_eq_false rfl) (Nat.ne_of_beq_eq_false rfl) (lvK1 3 rfl (Nat.ne_of_beq_eq_false rfl) (Nat.ne_of_beq_eq_false rfl) (lvK1 4 rfl (Nat.ne_of_beq_eq_false rfl) (Nat.ne_of_beq_eq_false rfl) (lvK1 5 rfl (Nat.ne_of_beq_eq_false rfl) (Nat.ne_of_beq_eq_false rfl) (lvK1 6 rfl (Nat.ne_of_beq_eq_false rfl) (Nat.ne_of_beq_eq_false rfl) lvK0))))))) (fun ls hl => ?_)
    refine m_goto (tgt := 27) (pc := 103) C dL_owners_103 (by decide) ?_
    exact hk27 _ _ _ _ _ _ _ _ _ h rx1 rx2 rx4 rx6 ra1 ra11 ra12 _ _ _ hM (lv_sub hl [3, 4, 5, 6, 7, 2, 1, 0] rfl)
set_option maxHeartbeats 4000000 in
set_option maxRecDepth 100000 in
theorem k_L_owners_b66 (C : gCx p s m args meth c cL_owners 15 (some .boolean) "owners" RL) (N : Nat) {r : Int} {μ' : Mm} (k8 : Int → Int → Int → Int → Int → Mm → Rs) (hk8 : ∀ (x0 x1 x2 x4 x6 : Int) (μ : Mm), k8 x0 x1 x2 x4 x6 μ = some (r, μ') → R32 x1 → R64 x2 → R64 x4 → R32 x6 → ∀ (H : Heap) (locs : List Loc) (ls : Array Slot), MS E μ s H locs → lv_has ls 15 [(0, vr E x0), (1, vi x1), (2, vl x2), (4, vl x4), (6, vi x6)] → W p l e ({ frames := 4, cells := 0, slots := 0, locals := 85 } : Room) s m args below meth c H locs 0 0 (MQ below (gQ E (some (vi r)) (R32 r) μ') args s 0 0 (gA E)) (F0 m 8 ls [])) (k27 : Int → Int → Int → Int → Int → Int → Int → Int → Mm → Rs) (hk27 : ∀ (x0 x1 x2 x4 x6 x7 x8 x10 : Int) (μ : Mm), k27 x0 x1 x2 x4 x6 x7 x8 x10 μ = some (r, μ') → R32 x1 → R64 x2 → R64 x4 → R32 x6 → R32 x7 → R64 x8 → R32 x10 → ∀ (H : Heap) (locs : List Loc) (ls : Array Slot), MS E μ s H locs → lv_has ls 15 [(0, vr E x0), (1, vi x1), (2, vl x2), (4, vl x4), (6, vi x6), (7, vi x7), (8, vl x8), (10, vi x10)] → W p l e ({ frames := 4, cells := 0, slots := 0, locals := 85 } : Room) s m args below meth c H locs 0 0 (MQ below (gQ E (some (vi r)) (R32 r) μ') args s 0 0 (gA E)) (F0 m 27 ls [])) : ∀ (x0 x1 x2 x4 x6 x8 x10 y0 : Int) (μ : Mm), f_L_owners_b66 N k8 k27 x0 x1 x2 x4 x6 x8 x10 y0 μ = some (r, μ') → R32 x1 → R64 x2 → R64 x4 → R32 x6 → R64 x8 → R32 x10 → R32 y0 → ∀ (H : Heap) (locs : List Loc) (ls : Array Slot), MS E μ s H locs → lv_has ls 15 [(0, vr E x0), (1, vi x1), (2, vl x2), (4, vl x4), (6, vi x6), (8, vl x8), (10, vi x10)] → W p l e ({ frames := 4, cells := 0, slots := 0, locals := 85 } : Room) s m args below meth c H locs 0 0 (MQ below (gQ E (some (vi r)) (R32 r) μ') args s 0 0 (gA E)) (F0 m 66 ls [vi y0]) := by
  intro x0 x1 x2 x4 x6 x8 x10 y0 μ h rx1 rx2 rx4 rx6 rx8 rx10 ry0 H locs ls hM hl
  unfold f_L_owners_b66 at h
  refine m_iconst (pc := 66) C dL_owners_66 ?_
  exact k_L_owners_b67 C N _ hk8 _ hk27 _ _ _ _ _ _ _ _ _ _ h rx1 rx2 rx4 rx6 rx8 rx10 ry0 rk_0 _ _ _ hM (lv_sub hl [0, 1, 2, 3, 4, 5, 6] rfl)
set_option maxHeartbeats 4000000 in
set_option maxRecDepth 100000 in
theorem k_L_owners_b27 (C : gCx p s m args meth c cL_owners 15 (some .boolean) "owners" RL) (N : Nat) {r : Int} {μ' : Mm} (k8 : Int → Int → Int → Int → Int → Mm → Rs) (hk8 : ∀ (x0 x1 x2 x4 x6 : Int) (μ : Mm), k8 x0 x1 x2 x4 x6 μ = some (r, μ') → R32 x1 → R64 x2 → R64 x4 → R32 x6 → ∀ (H : Heap) (locs : List Loc) (ls : Array Slot), MS E μ s H locs → lv_has ls 15 [(0, vr E x0), (1, vi x1), (2, vl x2), (4, vl x4), (6, vi x6)] → W p l e ({ frames := 4, cells := 0, slots := 0, locals := 85 } : Room) s m args below meth c H locs 0 0 (MQ below (gQ E (some (vi r)) (R32 r) μ') args s 0 0 (gA E)) (F0 m 8 ls [])) : ∀ (n : Nat), ∀ (x0 x1 x2 x4 x6 x7 x8 x10 : Int) (μ : Mm), f_L_owners_b27 N k8 n x0 x1 x2 x4 x6 x7 x8 x10 μ = some (r, μ') → R32 x1 → R64 x2 → R64 x4 → R32 x6 → R32 x7 → R64 x8 → R32 x10 → ∀ (H : Heap) (locs : List Loc) (ls : Array Slot), MS E μ s H locs → lv_has ls 15 [(0, vr E x0), (1, vi x1), (2, vl x2), (4, vl x4), (6, vi x6), (7, vi x7), (8, vl x8), (10, vi x10)] → W p l e ({ frames := 4, cells := 0, slots := 0, locals := 85 } : Room) s m args below meth c H locs 0 0 (MQ below (gQ E (some (vi r)) (R32 r) μ') args s 0 0 (gA E)) (F0 m 27 ls []) := by
  intro n
  induction n with
  | zero => intro x0 x1 x2 x4 x6 x7 x8 x10 μ h; simp [f_L_owners_b27] at h
  | succ n ih =>
    intro x0 x1 x2 x4 x6 x7 x8 x10 μ h rx1 rx2 rx4 rx6 rx7 rx8 rx10 H locs ls hM hl
    rw [f_L_owners_b27] at h
    refine m_iload (pc := 27) C dL_owners_27 (lv_at hl 7 rfl) ?_
    refine m_aload_n (pc := 29) C dL_owners_29 rfl (lv_at hl 0 rfl) ?_
    refine m_iconst (pc := 30) C dL_owners_30 ?_
    obtain ⟨q1, h⟩ := ck_some h
    obtain ⟨a2, μ3, ca2, h⟩ := bd_some h
    refine V_X7_count (pc := 31) C hM ca2 rk_2 q1 bw_3_4 ⟨Nat.le_of_ble_eq_true rfl, Nat.le_of_ble_eq_true rfl⟩ hl.1 (rcI rc0) ⟨Nat.le_refl _, Nat.le_refl _⟩ dL_owners_31 (fun ra2 H locs hM => ?_)
    refine m_icmp_ge (tgt := 106) (pc := 34) C rx10 ra2 dL_owners_34 (by decide) (fun c4 => ?_) (fun c4 => ?_)
    · have h := if_t h c4
      refine m_lload (pc := 106) C dL_owners_106 (lv_at hl 3 rfl) ?_
      refine m_lload (pc := 108) C dL_owners_108 (lv_at hl 6 rfl) ?_
      obtain ⟨a5, ea5, h⟩ := nm_some h
      have ra5 : R64 a5 := by rw [ea5]; exact w64_R _
      refine m_ladd (pc := 110) C dL_owners_110 ea5 ?_
      refine m_lstore (pc := 111) C dL_owners_111 hl (by decide) (lvK1 0 rfl (Nat.ne_of_beq_eq_false rfl) (Nat.ne_of_beq_eq_false rfl) (lvK1 1 rfl (Nat.ne_of_beq_eq_false rfl) (Nat.ne_of_beq_eq_false rfl) (lvK1 2 rfl (Nat.ne_of_beq_eq_false rfl) (Nat.ne_of_beq_eq_false rfl) (lvK1 4 rfl (Nat.ne_of_beq_eq_false rfl) (Nat.ne_of_beq_eq_false rfl) (lvK1 5 rfl (Nat.ne_of_beq_eq_false rfl) (Nat.ne_of_beq_eq_false rfl) (lvK1 6 rfl (Nat.ne_of_beq_eq_false rfl) (Nat.ne_of_beq_eq_false rfl) lvK0)))))) (lvN1 (Nat.ne_of_beq_eq_false rfl) (lvN1 (Nat.ne_of_beq_eq_false rfl) (lvN1 (Nat.ne_of_beq_eq_false rfl) (lvN1 (Nat.ne_of_beq_eq_false rfl) (lvN1 (Nat.ne_of_beq_eq_false rfl) (lvN1 (Nat.ne_of_beq_eq_false rfl) lvN0)))))) (fun ls hl => ?_)
      refine m_lload_n (pc := 113) C dL_owners_113 rfl (lv_at hl 3 rfl) ?_
      refine m_aload_n (pc := 114) C dL_owners_114 rfl (lv_at hl 1 rfl) ?_
      refine m_iload (pc := 115) C dL_owners_115 (lv_at hl 4 rfl) ?_
      refine m_bipush (pc := 117) C dL_owners_117 rfl ?_
      obtain ⟨q6, h⟩ := ck_some h
      obtain ⟨a7, μ8, ca7, h⟩ := bd_some h
      refine V_X7_owner (pc := 119) C hM ca7 rx6 rk_6 q6 bw_3_30 ⟨Nat.le_of_ble_eq_true rfl, Nat.le_of_ble_eq_true rfl⟩ hl.1 (rcL rc0) ⟨Nat.le_refl _, Nat.le_refl _⟩ dL_owners_119 (fun ra7 H locs hM => ?_)
      obtain ⟨a9, ea9, h⟩ := nm_some h
      have ra9 : R64 a9 := by rw [ea9]; exact w64_R _
      refine m_ladd (pc := 122) C dL_owners_122 ea9 ?_
      refine m_lstore_n (pc := 123) C dL_owners_123 rfl hl (by decide) (lvK1 0 rfl (Nat.ne_of_beq_eq_false rfl) (Nat.ne_of_beq_eq_false rfl) (lvK1 1 rfl (Nat.ne_of_beq_eq_false rfl) (Nat.ne_of_beq_eq_false rfl) (lvK2 2 rfl (Nat.ne_of_beq_eq_false rfl) rfl (lvK1 4 rfl (Nat.ne_of_beq_eq_false rfl) (Nat.ne_of_beq_eq_false rfl) (lvK1 5 rfl (Nat.ne_of_beq_eq_false rfl) (Nat.ne_of_beq_eq_false rfl) (lvK1 6 rfl (Nat.ne_of_beq_eq_false rfl) (Nat.ne_of_beq_eq_false rfl) lvK0)))))) (lvN1 (Nat.ne_of_beq_eq_false rfl) (lvN1 (Nat.ne_of_beq_eq_false rfl) (lvN1 (Nat.ne_of_beq_eq_false rfl) (lvN1 (Nat.ne_of_beq_eq_false rfl) (lvN1 (Nat.ne_of_beq_eq_false rfl) (lvN1 (Nat.ne_of_beq_eq_false rfl) lvN0)))))) (fun ls hl => ?_)
      refine m_lload (pc := 124) C dL_owners_124 (lv_at hl 6 rfl) ?_
      refine m_aload_n (pc := 126) C dL_owners_126 rfl (lv_at hl 2 rfl) ?_
      refine m_bipush (pc := 127) C dL_owners_127 rfl ?_
      obtain ⟨q10, h⟩ := ck_some h
      obtain ⟨a11, μ12, ca11, h⟩ := bd_some h
      refine V_X7_count (pc := 129) C hM ca11 rk_8 q10 bw_3_4 ⟨Nat.le_of_ble_eq_true rfl, Nat.le_of_ble_eq_true rfl⟩ hl.1 (rcL rc0) ⟨Nat.le_refl _, Nat.le_refl _⟩ dL_owners_129 (fun ra11 H locs hM => ?_)
      refine m_i2l (pc := 132) C ra11 dL_owners_132 ?_
      obtain ⟨a13, ea13, h⟩ := nm_some h
      have ra13 : R64 a13 := by rw [ea13]; exact w64_R _
      refine m_lmul (pc := 133) C dL_owners_133 ea13 ?_
      refine m_ldc2 (n := 100) (pc := 134) C bw_3_89 rfl dL_owners_134 ?_
      obtain ⟨a14, ea14, h⟩ := nm_some h
      have ra14 : R64 a14 := by rw [ea14]; exact w64_R _
      refine m_ldiv (pc := 137) C ra13 rl_100 (by decide) dL_owners_137 ea14 ?_
      refine m_aload_n (pc := 138) C dL_owners_138 rfl (lv_at hl 2 rfl) ?_
      refine m_iload (pc := 139) C dL_owners_139 (lv_at hl 4 rfl) ?_
      refine m_iconst (pc := 141) C dL_owners_141 ?_
      obtain ⟨q16, h⟩ := ck_some h
      obtain ⟨a17, μ18, ca17, h⟩ := bd_some h
      refine V_X7_owner (pc := 142) C hM ca17 rx6 rk_1 q16 bw_3_30 ⟨Nat.le_of_ble_eq_true rfl, Nat.le_of_ble_eq_true rfl⟩ hl.1 (rcL rc0) ⟨Nat.le_refl _, Nat.le_refl _⟩ dL_owners_142 (fun ra17 H locs hM => ?_)
      refine m_lcmp_gt (tgt := 153) (pc := 145) C ra14 ra17 dL_owners_145 dL_owners_146 (by decide) (fun c19 => ?_) (fun c19 => ?_)
      · have h := if_t h c19
        refine m_iconst (pc := 153) C dL_owners_153 ?_
        exact k_L_owners_b154 C N _ hk8 _ _ _ _ _ _ _ _ _ h rx1 ra9 ra5 rx6 rx7 rx8 rk_0 _ _ _ hM (lv_sub hl [2, 3, 0, 1, 4, 5, 6] rfl)
      · have h := if_f h c19
        refine m_iconst (pc := 149) C dL_owners_149 ?_
        refine m_goto (tgt := 154) (pc := 150) C dL_owners_150 (by decide) ?_
        exact k_L_owners_b154 C N _ hk8 _ _ _ _ _ _ _ _ _ h rx1 ra9 ra5 rx6 rx7 rx8 rk_1 _ _ _ hM (lv_sub hl [2, 3, 0, 1, 4, 5, 6] rfl)
    · have h := if_f h c4
      refine m_iload (pc := 37) C dL_owners_37 (lv_at hl 5 rfl) ?_
      refine m_aload_n (pc := 39) C dL_owners_39 rfl (lv_at hl 0 rfl) ?_
      refine m_iload (pc := 40) C dL_owners_40 (lv_at hl 7 rfl) ?_
      refine m_iconst (pc := 42) C dL_owners_42 ?_
      obtain ⟨q20, h⟩ := ck_some h
      obtain ⟨a21, μ22, ca21, h⟩ := bd_some h
      refine V_X7_lot (pc := 43) C hM ca21 rx10 rk_0 q20 bw_3_54 ⟨Nat.le_of_ble_eq_true rfl, Nat.le_of_ble_eq_true rfl⟩ hl.1 (rcI rc0) ⟨Nat.le_refl _, Nat.le_refl _⟩ dL_owners_43 (fun ra21 H locs hM => ?_)
      refine m_iload (pc := 46) C dL_owners_46 (lv_at hl 4 rfl) ?_
      refine m_icmp_ne (tgt := 66) (pc := 48) C ra21 rx6 dL_owners_48 (by decide) (fun c23 => ?_) (fun c23 => ?_)
      · have h := if_t h c23
        exact k_L_owners_b66 C N _ hk8 _ ih _ _ _ _ _ _ _ _ _ h rx1 rx2 rx4 rx6 rx8 rx10 rx7 _ _ _ hM (lv_sub hl [0, 1, 2, 3, 4, 6, 7] rfl)
      · have h := if_f h c23
        refine m_aload_n (pc := 51) C dL_owners_51 rfl (lv_at hl 0 rfl) ?_
        refine m_iload (pc := 52) C dL_owners_52 (lv_at hl 7 rfl) ?_
        refine m_bipush (pc := 54) C dL_owners_54 rfl ?_
        obtain ⟨q24, h⟩ := ck_some h
        obtain ⟨a25, μ26, ca25, h⟩ := bd_some h
        refine V_X7_lot (pc := 56) C hM ca25 rx10 rk_7 q24 bw_3_54 ⟨Nat.le_of_ble_eq_true rfl, Nat.le_of_ble_eq_true rfl⟩ hl.1 (rcI rc0) ⟨Nat.le_refl _, Nat.le_refl _⟩ dL_owners_56 (fun ra25 H locs hM => ?_)
        refine m_if_le (tgt := 66) (pc := 59) C ra25 dL_owners_59 (by decide) (fun c27 => ?_) (fun c27 => ?_)
        · have h := if_t h c27
          exact k_L_owners_b66 C N _ hk8 _ ih _ _ _ _ _ _ _ _ _ h rx1 rx2 rx4 rx6 rx8 rx10 rx7 _ _ _ hM (lv_sub hl [0, 1, 2, 3, 4, 6, 7] rfl)
        · have h := if_f h c27
          refine m_iconst (pc := 62) C dL_owners_62 ?_
          refine m_goto (tgt := 67) (pc := 63) C dL_owners_63 (by decide) ?_
          exact k_L_owners_b67 C N _ hk8 _ ih _ _ _ _ _ _ _ _ _ _ h rx1 rx2 rx4 rx6 rx8 rx10 rx7 rk_1 _ _ _ hM (lv_sub hl [0, 1, 2, 3, 4, 6, 7] rfl)
set_option maxHeartbeats 4000000 in
set_option maxRecDepth 100000 in
theorem k_L_owners_b8 (C : gCx p s m args meth c cL_owners 15 (some .boolean) "owners" RL) (N : Nat) {r : Int} {μ' : Mm} : ∀ (n : Nat), ∀ (x0 x1 x2 x4 x6 : Int) (μ : Mm), f_L_owners_b8 N n x0 x1 x2 x4 x6 μ = some (r, μ') → R32 x1 → R64 x2 → R64 x4 → R32 x6 → ∀ (H : Heap) (locs : List Loc) (ls : Array Slot), MS E μ s H locs → lv_has ls 15 [(0, vr E x0), (1, vi x1), (2, vl x2), (4, vl x4), (6, vi x6)] → W p l e ({ frames := 4, cells := 0, slots := 0, locals := 85 } : Room) s m args below meth c H locs 0 0 (MQ below (gQ E (some (vi r)) (R32 r) μ') args s 0 0 (gA E)) (F0 m 8 ls []) := by
  intro n
  induction n with
  | zero => intro x0 x1 x2 x4 x6 μ h; simp [f_L_owners_b8] at h
  | succ n ih =>
    intro x0 x1 x2 x4 x6 μ h rx1 rx2 rx4 rx6 H locs ls hM hl
    rw [f_L_owners_b8] at h
    refine m_iload (pc := 8) C dL_owners_8 (lv_at hl 4 rfl) ?_
    refine m_aload_n (pc := 10) C dL_owners_10 rfl (lv_at hl 0 rfl) ?_
    refine m_iconst (pc := 11) C dL_owners_11 ?_
    obtain ⟨q1, h⟩ := ck_some h
    obtain ⟨a2, μ3, ca2, h⟩ := bd_some h
    refine V_X7_count (pc := 12) C hM ca2 rk_1 q1 bw_3_4 ⟨Nat.le_of_ble_eq_true rfl, Nat.le_of_ble_eq_true rfl⟩ hl.1 (rcI rc0) ⟨Nat.le_refl _, Nat.le_refl _⟩ dL_owners_12 (fun ra2 H locs hM => ?_)
    refine m_icmp_ge (tgt := 264) (pc := 15) C rx6 ra2 dL_owners_15 (by decide) (fun c4 => ?_) (fun c4 => ?_)
    · have h := if_t h c4
      refine m_lload_n (pc := 264) C dL_owners_264 rfl (lv_at hl 2 rfl) ?_
      refine m_aload_n (pc := 265) C dL_owners_265 rfl (lv_at hl 0 rfl) ?_
      refine m_iconst (pc := 266) C dL_owners_266 ?_
      obtain ⟨q5, h⟩ := ck_some h
      obtain ⟨a6, μ7, ca6, h⟩ := bd_some h
      refine V_X7_account (pc := 267) C hM ca6 rk_4 q5 bw_3_63 ⟨Nat.le_of_ble_eq_true rfl, Nat.le_of_ble_eq_true rfl⟩ hl.1 (rcL rc0) ⟨Nat.le_refl _, Nat.le_refl _⟩ dL_owners_267 (fun ra6 H locs hM => ?_)
      refine m_lcmp_ne (tgt := 324) (pc := 270) C rx2 ra6 dL_owners_270 dL_owners_271 (by decide) (fun c8 => ?_) (fun c8 => ?_)
      · have h := if_t h c8
        refine m_iconst (pc := 324) C dL_owners_324 ?_
        cases h
        exact m_zret (pc := 325) C rfl hM rk_0 dL_owners_325
      · have h := if_f h c8
        refine m_lload (pc := 274) C dL_owners_274 (lv_at hl 3 rfl) ?_
        refine m_aload_n (pc := 276) C dL_owners_276 rfl (lv_at hl 0 rfl) ?_
        refine m_iconst (pc := 277) C dL_owners_277 ?_
        obtain ⟨q9, h⟩ := ck_some h
        obtain ⟨a10, μ11, ca10, h⟩ := bd_some h
        refine V_X7_account (pc := 278) C hM ca10 rk_1 q9 bw_3_63 ⟨Nat.le_of_ble_eq_true rfl, Nat.le_of_ble_eq_true rfl⟩ hl.1 (rcL rc0) ⟨Nat.le_refl _, Nat.le_refl _⟩ dL_owners_278 (fun ra10 H locs hM => ?_)
        refine m_lcmp_ne (tgt := 324) (pc := 281) C rx4 ra10 dL_owners_281 dL_owners_282 (by decide) (fun c12 => ?_) (fun c12 => ?_)
        · have h := if_t h c12
          refine m_iconst (pc := 324) C dL_owners_324 ?_
          cases h
          exact m_zret (pc := 325) C rfl hM rk_0 dL_owners_325
        · have h := if_f h c12
          refine m_aload_n (pc := 285) C dL_owners_285 rfl (lv_at hl 0 rfl) ?_
          refine m_aload_n (pc := 286) C dL_owners_286 rfl (lv_at hl 0 rfl) ?_
          refine m_iconst (pc := 287) C dL_owners_287 ?_
          obtain ⟨q13, h⟩ := ck_some h
          obtain ⟨a14, μ15, ca14, h⟩ := bd_some h
          refine V_X7_count (pc := 288) C hM ca14 rk_1 q13 bw_3_4 ⟨Nat.le_of_ble_eq_true rfl, Nat.le_of_ble_eq_true rfl⟩ hl.1 (rcR rc0) ⟨Nat.le_refl _, Nat.le_refl _⟩ dL_owners_288 (fun ra14 H locs hM => ?_)
          refine m_iconst (pc := 291) C dL_owners_291 ?_
          obtain ⟨q16, h⟩ := ck_some h
          obtain ⟨a17, μ18, ca17, h⟩ := bd_some h
          refine V_X7_owner (pc := 292) C hM ca17 ra14 rk_0 q16 bw_3_30 ⟨Nat.le_of_ble_eq_true rfl, Nat.le_of_ble_eq_true rfl⟩ hl.1 rc0 ⟨Nat.le_refl _, Nat.le_refl _⟩ dL_owners_292 (fun ra17 H locs hM => ?_)
          refine m_ldc2 (n := -100000001) (pc := 295) C bw_3_90 rfl dL_owners_295 ?_
          refine m_lcmp_ne (tgt := 324) (pc := 298) C ra17 rl_m100000001 dL_owners_298 dL_owners_299 (by decide) (fun c19 => ?_) (fun c19 => ?_)
          · have h := if_t h c19
            refine m_iconst (pc := 324) C dL_owners_324 ?_
            cases h
            exact m_zret (pc := 325) C rfl hM rk_0 dL_owners_325
          · have h := if_f h c19
            refine m_aload_n (pc := 302) C dL_owners_302 rfl (lv_at hl 0 rfl) ?_
            refine m_bipush (pc := 303) C dL_owners_303 rfl ?_
            obtain ⟨q20, h⟩ := ck_some h
            obtain ⟨a21, μ22, ca21, h⟩ := bd_some h
            refine V_X7_count (pc := 305) C hM ca21 rk_13 q20 bw_3_4 ⟨Nat.le_of_ble_eq_true rfl, Nat.le_of_ble_eq_true rfl⟩ hl.1 rc0 ⟨Nat.le_refl _, Nat.le_refl _⟩ dL_owners_305 (fun ra21 H locs hM => ?_)
            refine m_ldc (n := -100000002) (pc := 308) C bw_3_83 rfl dL_owners_308 ?_
            refine m_icmp_ne (tgt := 324) (pc := 310) C ra21 rk_m100000002 dL_owners_310 (by decide) (fun c23 => ?_) (fun c23 => ?_)
            · have h := if_t h c23
              refine m_iconst (pc := 324) C dL_owners_324 ?_
              cases h
              exact m_zret (pc := 325) C rfl hM rk_0 dL_owners_325
            · have h := if_f h c23
              refine m_aload_n (pc := 313) C dL_owners_313 rfl (lv_at hl 0 rfl) ?_
              refine m_bipush (pc := 314) C dL_owners_314 rfl ?_
              obtain ⟨q24, h⟩ := ck_some h
              obtain ⟨a25, μ26, ca25, h⟩ := bd_some h
              refine V_X7_rate (pc := 316) C hM ca25 rk_6 q24 bw_3_26 ⟨Nat.le_of_ble_eq_true rfl, Nat.le_of_ble_eq_true rfl⟩ hl.1 rc0 ⟨Nat.le_refl _, Nat.le_refl _⟩ dL_owners_316 (fun ra25 H locs hM => ?_)
              refine m_ldc (n := -100000001) (pc := 319) C bw_3_85 rfl dL_owners_319 ?_
              refine m_icmp_eq (tgt := 326) (pc := 321) C ra25 rk_m100000001 dL_owners_321 (by decide) (fun c27 => ?_) (fun c27 => ?_)
              · have h := if_t h c27
                refine m_aload_n (pc := 326) C dL_owners_326 rfl (lv_at hl 0 rfl) ?_
                refine m_iconst (pc := 327) C dL_owners_327 ?_
                obtain ⟨q28, h⟩ := ck_some h
                obtain ⟨a29, μ30, ca29, h⟩ := bd_some h
                refine V_X7_count (pc := 328) C hM ca29 rk_1 q28 bw_3_4 ⟨Nat.le_of_ble_eq_true rfl, Nat.le_of_ble_eq_true rfl⟩ hl.1 rc0 ⟨Nat.le_refl _, Nat.le_refl _⟩ dL_owners_328 (fun ra29 H locs hM => ?_)
                refine m_if_ne (tgt := 336) (pc := 331) C ra29 dL_owners_331 (by decide) (fun c31 => ?_) (fun c31 => ?_)
                · have h := if_t h c31
                  refine m_iload_n (pc := 336) C dL_owners_336 rfl (lv_at hl 1 rfl) ?_
                  refine m_aload_n (pc := 337) C dL_owners_337 rfl (lv_at hl 0 rfl) ?_
                  refine m_iconst (pc := 338) C dL_owners_338 ?_
                  obtain ⟨q32, h⟩ := ck_some h
                  obtain ⟨a33, μ34, ca33, h⟩ := bd_some h
                  refine V_X7_count (pc := 339) C hM ca33 rk_1 q32 bw_3_4 ⟨Nat.le_of_ble_eq_true rfl, Nat.le_of_ble_eq_true rfl⟩ hl.1 (rcI rc0) ⟨Nat.le_refl _, Nat.le_refl _⟩ dL_owners_339 (fun ra33 H locs hM => ?_)
                  obtain ⟨a35, μ36, ca35, h⟩ := bd_some h
                  refine V_L_low (pc := 342) C hM ca35 rx1 ra33 bw_3_17 ⟨Nat.le_of_ble_eq_true rfl, Nat.le_of_ble_eq_true rfl⟩ hl.1 rc0 ⟨Nat.le_refl _, Nat.le_refl _⟩ dL_owners_342 (fun ra35 H locs hM => ?_)
                  refine m_istore (pc := 345) C dL_owners_345 hl (by decide) (lvK1 0 rfl (Nat.ne_of_beq_eq_false rfl) (Nat.ne_of_beq_eq_false rfl) (lvK1 1 rfl (Nat.ne_of_beq_eq_false rfl) (Nat.ne_of_beq_eq_false rfl) lvK0)) (fun ls hl => ?_)
                  refine m_iload_n (pc := 347) C dL_owners_347 rfl (lv_at hl 2 rfl) ?_
                  refine m_iconst (pc := 348) C dL_owners_348 ?_
                  obtain ⟨a37, ea37, h⟩ := nm_some h
                  have ra37 : R32 a37 := by rw [ea37]; exact R32_of _
                  refine m_ishr (pc := 349) C dL_owners_349 ea37 ?_
                  refine m_bipush (pc := 350) C dL_owners_350 rfl ?_
                  obtain ⟨a38, μ39, ca38, h⟩ := bd_some h
                  refine V_L_low (pc := 352) C hM ca38 ra37 rk_6 bw_3_17 ⟨Nat.le_of_ble_eq_true rfl, Nat.le_of_ble_eq_true rfl⟩ hl.1 rc0 ⟨Nat.le_refl _, Nat.le_refl _⟩ dL_owners_352 (fun ra38 H locs hM => ?_)
                  refine m_istore (pc := 355) C dL_owners_355 hl (by decide) (lvK2 0 rfl (Nat.ne_of_beq_eq_false rfl) rfl (lvK1 1 rfl (Nat.ne_of_beq_eq_false rfl) (Nat.ne_of_beq_eq_false rfl) lvK0)) (fun ls hl => ?_)
                  refine m_aload_n (pc := 357) C dL_owners_357 rfl (lv_at hl 2 rfl) ?_
                  refine m_iload (pc := 358) C dL_owners_358 (lv_at hl 1 rfl) ?_
                  refine m_iconst (pc := 360) C dL_owners_360 ?_
                  obtain ⟨q40, h⟩ := ck_some h
                  obtain ⟨a41, μ42, ca41, h⟩ := bd_some h
                  refine V_X7_owner (pc := 361) C hM ca41 ra35 rk_3 q40 bw_3_30 ⟨Nat.le_of_ble_eq_true rfl, Nat.le_of_ble_eq_true rfl⟩ hl.1 rc0 ⟨Nat.le_refl _, Nat.le_refl _⟩ dL_owners_361 (fun ra41 H locs hM => ?_)
                  refine m_lstore (pc := 364) C dL_owners_364 hl (by decide) (lvK2 0 rfl (Nat.ne_of_beq_eq_false rfl) rfl (lvK1 1 rfl (Nat.ne_of_beq_eq_false rfl) (Nat.ne_of_beq_eq_false rfl) (lvK1 2 rfl (Nat.ne_of_beq_eq_false rfl) (Nat.ne_of_beq_eq_false rfl) lvK0))) (lvN1 (Nat.ne_of_beq_eq_false rfl) (lvN1 (Nat.ne_of_beq_eq_false rfl) (lvN1 (Nat.ne_of_beq_eq_false rfl) lvN0))) (fun ls hl => ?_)
                  refine m_aload_n (pc := 366) C dL_owners_366 rfl (lv_at hl 3 rfl) ?_
                  refine m_bipush (pc := 367) C dL_owners_367 rfl ?_
                  obtain ⟨q43, h⟩ := ck_some h
                  obtain ⟨a44, μ45, ca44, h⟩ := bd_some h
                  refine V_X7_count (pc := 369) C hM ca44 rk_8 q43 bw_3_4 ⟨Nat.le_of_ble_eq_true rfl, Nat.le_of_ble_eq_true rfl⟩ hl.1 rc0 ⟨Nat.le_refl _, Nat.le_refl _⟩ dL_owners_369 (fun ra44 H locs hM => ?_)
                  refine m_i2l (pc := 372) C ra44 dL_owners_372 ?_
                  refine m_lstore (pc := 373) C dL_owners_373 hl (by decide) (lvK1 0 rfl (Nat.ne_of_beq_eq_false rfl) (Nat.ne_of_beq_eq_false rfl) (lvK1 1 rfl (Nat.ne_of_beq_eq_false rfl) (Nat.ne_of_beq_eq_false rfl) (lvK1 2 rfl (Nat.ne_of_beq_eq_false rfl) (Nat.ne_of_beq_eq_false rfl) (lvK1 3 rfl (Nat.ne_of_beq_eq_false rfl) (Nat.ne_of_beq_eq_false rfl) lvK0)))) (lvN1 (Nat.ne_of_beq_eq_false rfl) (lvN1 (Nat.ne_of_beq_eq_false rfl) (lvN1 (Nat.ne_of_beq_eq_false rfl) (lvN1 (Nat.ne_of_beq_eq_false rfl) lvN0)))) (fun ls hl => ?_)
                  refine m_aload_n (pc := 375) C dL_owners_375 rfl (lv_at hl 4 rfl) ?_
                  refine m_iload (pc := 376) C dL_owners_376 (lv_at hl 3 rfl) ?_
                  refine m_iload (pc := 378) C dL_owners_378 (lv_at hl 2 rfl) ?_
                  obtain ⟨q46, h⟩ := ck_some h
                  obtain ⟨a47, μ48, ca47, h⟩ := bd_some h
                  refine V_X7_greatestValue (pc := 380) C hM ca47 ra35 ra38 q46 bw_3_91 ⟨Nat.le_of_ble_eq_true rfl, Nat.le_of_ble_eq_true rfl⟩ hl.1 rc0 ⟨Nat.le_refl _, Nat.le_refl _⟩ dL_owners_380 (fun ra47 H locs hM => ?_)
                  refine m_istore (pc := 383) C dL_owners_383 hl (by decide) (lvK1 0 rfl (Nat.ne_of_beq_eq_false rfl) (Nat.ne_of_beq_eq_false rfl) (lvK1 1 rfl (Nat.ne_of_beq_eq_false rfl) (Nat.ne_of_beq_eq_false rfl) (lvK1 2 rfl (Nat.ne_of_beq_eq_false rfl) (Nat.ne_of_beq_eq_false rfl) (lvK1 3 rfl (Nat.ne_of_beq_eq_false rfl) (Nat.ne_of_beq_eq_false rfl) (lvK1 4 rfl (Nat.ne_of_beq_eq_false rfl) (Nat.ne_of_beq_eq_false rfl) lvK0))))) (fun ls hl => ?_)
                  refine m_lload (pc := 385) C dL_owners_385 (lv_at hl 2 rfl) ?_
                  refine m_lload (pc := 387) C dL_owners_387 (lv_at hl 1 rfl) ?_
                  obtain ⟨a49, ea49, h⟩ := nm_some h
                  have ra49 : R64 a49 := by rw [ea49]; exact w64_R _
                  refine m_lmul (pc := 389) C dL_owners_389 ea49 ?_
                  refine m_ldc2 (n := 100) (pc := 390) C bw_3_89 rfl dL_owners_390 ?_
                  obtain ⟨a50, ea50, h⟩ := nm_some h
                  have ra50 : R64 a50 := by rw [ea50]; exact w64_R _
                  refine m_ldiv (pc := 393) C ra49 rl_100 (by decide) dL_owners_393 ea50 ?_
                  refine m_aload_n (pc := 394) C dL_owners_394 rfl (lv_at hl 5 rfl) ?_
                  refine m_iload (pc := 395) C dL_owners_395 (lv_at hl 4 rfl) ?_
                  refine m_iconst (pc := 397) C dL_owners_397 ?_
                  obtain ⟨q52, h⟩ := ck_some h
                  obtain ⟨a53, μ54, ca53, h⟩ := bd_some h
                  refine V_X7_owner (pc := 398) C hM ca53 ra35 rk_1 q52 bw_3_30 ⟨Nat.le_of_ble_eq_true rfl, Nat.le_of_ble_eq_true rfl⟩ hl.1 (rcL rc0) ⟨Nat.le_refl _, Nat.le_refl _⟩ dL_owners_398 (fun ra53 H locs hM => ?_)
                  refine m_lcmp_le (tgt := 409) (pc := 401) C ra50 ra53 dL_owners_401 dL_owners_402 (by decide) (fun c55 => ?_) (fun c55 => ?_)
                  · have h := if_t h c55
                    refine m_iconst (pc := 409) C dL_owners_409 ?_
                    exact k_L_owners_b410 C N _ _ _ _ _ _ _ _ h ra35 ra38 ra41 (R32.to64 ra44) ra47 rk_0 _ _ _ hM (lv_sub hl [5, 4, 3, 2, 1, 0] rfl)
                  · have h := if_f h c55
                    refine m_iconst (pc := 405) C dL_owners_405 ?_
                    refine m_goto (tgt := 410) (pc := 406) C dL_owners_406 (by decide) ?_
                    exact k_L_owners_b410 C N _ _ _ _ _ _ _ _ h ra35 ra38 ra41 (R32.to64 ra44) ra47 rk_1 _ _ _ hM (lv_sub hl [5, 4, 3, 2, 1, 0] rfl)
                · have h := if_f h c31
                  refine m_iconst (pc := 334) C dL_owners_334 ?_
                  cases h
                  exact m_zret (pc := 335) C rfl hM rk_1 dL_owners_335
              · have h := if_f h c27
                refine m_iconst (pc := 324) C dL_owners_324 ?_
                cases h
                exact m_zret (pc := 325) C rfl hM rk_0 dL_owners_325
    · have h := if_f h c4
      refine m_iconst (pc := 18) C dL_owners_18 ?_
      refine m_istore (pc := 19) C dL_owners_19 hl (by decide) (lvK1 0 rfl (Nat.ne_of_beq_eq_false rfl) (Nat.ne_of_beq_eq_false rfl) (lvK1 1 rfl (Nat.ne_of_beq_eq_false rfl) (Nat.ne_of_beq_eq_false rfl) (lvK1 2 rfl (Nat.ne_of_beq_eq_false rfl) (Nat.ne_of_beq_eq_false rfl) (lvK1 3 rfl (Nat.ne_of_beq_eq_false rfl) (Nat.ne_of_beq_eq_false rfl) (lvK2 4 rfl (Nat.ne_of_beq_eq_false rfl) rfl lvK0))))) (fun ls hl => ?_)
      refine m_lconst (v := 0) (pc := 21) C dL_owners_21 rfl ?_
      refine m_lstore (pc := 22) C dL_owners_22 hl (by decide) (lvK2 0 rfl (Nat.ne_of_beq_eq_false rfl) rfl (lvK1 1 rfl (Nat.ne_of_beq_eq_false rfl) (Nat.ne_of_beq_eq_false rfl) (lvK1 2 rfl (Nat.ne_of_beq_eq_false rfl) (Nat.ne_of_beq_eq_false rfl) (lvK1 3 rfl (Nat.ne_of_beq_eq_false rfl) (Nat.ne_of_beq_eq_false rfl) (lvK1 4 rfl (Nat.ne_of_beq_eq_false rfl) (Nat.ne_of_beq_eq_false rfl) (lvK1 5 rfl (Nat.ne_of_beq_eq_false rfl) (Nat.ne_of_beq_eq_false rfl) lvK0)))))) (lvN1 (Nat.ne_of_beq_eq_false rfl) (lvN1 (Nat.ne_of_beq_eq_false rfl) (lvN1 (Nat.ne_of_beq_eq_false rfl) (lvN1 (Nat.ne_of_beq_eq_false rfl) (lvN1 (Nat.ne_of_beq_eq_false rfl) (lvN1 (Nat.ne_of_beq_eq_false rfl) lvN0)))))) (fun ls hl => ?_)
      refine m_iconst (pc := 24) C dL_owners_24 ?_
      refine m_istore (pc := 25) C dL_owners_25 hl (by decide) (lvK1 0 rfl (Nat.ne_of_beq_eq_false rfl) (Nat.ne_of_beq_eq_false rfl) (lvK1 1 rfl (Nat.ne_of_beq_eq_false rfl) (Nat.ne_of_beq_eq_false rfl) (lvK1 2 rfl (Nat.ne_of_beq_eq_false rfl) (Nat.ne_of_beq_eq_false rfl) (lvK1 3 rfl (Nat.ne_of_beq_eq_false rfl) (Nat.ne_of_beq_eq_false rfl) (lvK1 4 rfl (Nat.ne_of_beq_eq_false rfl) (Nat.ne_of_beq_eq_false rfl) (lvK1 5 rfl (Nat.ne_of_beq_eq_false rfl) (Nat.ne_of_beq_eq_false rfl) (lvK1 6 rfl (Nat.ne_of_beq_eq_false rfl) (Nat.ne_of_beq_eq_false rfl) lvK0))))))) (fun ls hl => ?_)
      exact k_L_owners_b27 C N _ ih N _ _ _ _ _ _ _ _ _ h rx1 rx2 rx4 rx6 rk_0 rl_0 rk_0 _ _ _ hM (lv_sub hl [3, 4, 5, 6, 7, 2, 1, 0] rfl)
set_option maxHeartbeats 4000000 in
set_option maxRecDepth 100000 in
theorem c_L_owners (l : Launch) (E : gE) (N : Nat) (x0 x1 : Int) (μ μ' : Mm) (r : Int) (h : f_L_owners N x0 x1 μ = some (r, μ')) (rx1 : R32 x1) : gMet l E yL_owners cL_owners 15 (some .boolean) 4 85 [vr E x0, vi x1] (some (vi r)) (R32 r) μ μ' 0 0 := by
  refine g_ofW [1, 1] (by first | (simp only [List.map_cons, List.map_nil, vr_cat]; done) | (simp only [List.map_cons, List.map_nil, vr_cat]; rfl)) (by decide) (by decide) (fun p e s m below meth c ls C hM hl => ?_)
  replace C : gCx p s m _ meth c cL_owners 15 (some .boolean) "owners" RL := C
  replace hl : lv_has ls 15 [(0, vr E x0), (1, vi x1)] := hl
  unfold f_L_owners at h
  refine m_lconst (v := 0) (pc := 0) C dL_owners_0 rfl ?_
  refine m_lstore_n (pc := 1) C dL_owners_1 rfl hl (by decide) (lvK1 0 rfl (Nat.ne_of_beq_eq_false rfl) (Nat.ne_of_beq_eq_false rfl) (lvK2 1 rfl (Nat.ne_of_beq_eq_false rfl) rfl lvK0)) (lvN1 (Nat.ne_of_beq_eq_false rfl) (lvN1 (Nat.ne_of_beq_eq_false rfl) lvN0)) (fun ls hl => ?_)
  refine m_lconst (v := 0) (pc := 2) C dL_owners_2 rfl ?_
  refine m_lstore (pc := 3) C dL_owners_3 hl (by decide) (lvK1 0 rfl (Nat.ne_of_beq_eq_false rfl) (Nat.ne_of_beq_eq_false rfl) (lvK1 1 rfl (Nat.ne_of_beq_eq_false rfl) (Nat.ne_of_beq_eq_false rfl) (lvK1 2 rfl (Nat.ne_of_beq_eq_false rfl) (Nat.ne_of_beq_eq_false rfl) lvK0))) (lvN1 (Nat.ne_of_beq_eq_false rfl) (lvN1 (Nat.ne_of_beq_eq_false rfl) (lvN1 (Nat.ne_of_beq_eq_false rfl) lvN0))) (fun ls hl => ?_)
  refine m_iconst (pc := 5) C dL_owners_5 ?_
  refine m_istore (pc := 6) C dL_owners_6 hl (by decide) (lvK1 0 rfl (Nat.ne_of_beq_eq_false rfl) (Nat.ne_of_beq_eq_false rfl) (lvK1 1 rfl (Nat.ne_of_beq_eq_false rfl) (Nat.ne_of_beq_eq_false rfl) (lvK1 2 rfl (Nat.ne_of_beq_eq_false rfl) (Nat.ne_of_beq_eq_false rfl) (lvK1 3 rfl (Nat.ne_of_beq_eq_false rfl) (Nat.ne_of_beq_eq_false rfl) lvK0)))) (fun ls hl => ?_)
  exact k_L_owners_b8 C N N _ _ _ _ _ _ h rx1 rl_0 rl_0 rk_0 _ _ _ hM (lv_sub hl [3, 4, 2, 1, 0] rfl)
theorem hd_L_owners : yL_owners.cls ≠ "java/lang/invoke/MethodHandle" ∧ yL_owners.cls ≠ "java/lang/invoke/VarHandle" ∧ (parseMethodDescriptor yL_owners.desc).map (fun d => d.parameters.length) = some 2 := by decide +kernel

theorem V_L_owners {p : Program} {l : Launch} {e : Env} {R : Room} {s : State} {m : MethodId} {args : Array Value} {below : List Frame} {meth : Method} {c : Code} {H : Heap} {locs : List Loc} {cells slots : Nat} {Q : State → Prop} {cc : ByteArray} {pc nL : Nat} {ls : Array Slot} {rest : List Value} {ret : Option FieldType} {nmm own : String} {E : gE} {μ μ1 : Mm} {index : Nat} (C : gCx p s m args meth c cc nL ret nmm own) (hM : MS E μ s H locs) {N : Nat} {x0 x1 v : Int} (hc : f_L_owners N x0 x1 μ = some (v, μ1)) (rx1 : R32 x1) (h1 : Cond.methodLink own index yL_owners ∈ bigL) (hR : 5 ≤ R.frames ∧ 119 ≤ R.locals) (hl : ls.size = nL) (hcat : RC rest 8) (hf : cells + 0 ≤ R.cells ∧ slots + 0 ≤ R.slots) (hdg : decode cc pc = .ok (.invokestatic index, 3)) (kk : (R32 v) → ∀ (H1 : Heap) (locs1 : List Loc), MS E μ1 s H1 locs1 → W p l e R s m args below meth c H1 locs1 (cells + 0) (slots + 0) Q (F0 m (pc + 3) ls (vi v :: rest))) : W p l e R s m args below meth c H locs cells slots Q (F0 m pc ls (vi x1 :: vr E x0 :: rest)) := g_callS C hM (c_L_owners l E N x0 x1 μ μ1 v hc rx1) (gS h1 bw_3_87 bw_1_0 bw_3_88) hd_L_owners hR rfl hl rfl hcat hf hdg kk
/-! L_deadlines -/
def f_L_deadlines_b244 (N : Nat) (x0 x1 x5 x6 : Int) (μ : Mm) : Rs :=
  nm (o_shr x1 8) fun a1 =>
  nm (o_and a1 3) fun a2 =>
  if a2 = 0 then
    (bd (f_L_digest N x0 μ) fun a4 μ5 =>
     ck (μ5 x0 (-2) = 9) <|
     bd (f_X7_pass N x0 x5 μ5) fun a7 μ8 =>
     if ¬ a7 = x6 then
       (some (0, μ8))
     else
     ck (μ8 x0 (-2) = 9) <|
     bd (f_X7_undo N x0 μ8) fun a11 μ12 =>
     if a11 < 0 then
       (some (0, μ12))
     else
     bd (f_L_digest N x0 μ12) fun a14 μ15 =>
     if ¬ a14 = a4 then
       (some (0, μ15))
     else
     some (1, μ15))
  else
  some (1, μ)
def f_L_deadlines_b228 (N : Nat) (x0 x1 x3 x4 x5 x6 : Int) (μ : Mm) : Rs :=
  nm (w32 (x3 + x5)) fun a1 =>
  if x4 < a1 then
    (f_L_deadlines_b244 N x0 x1 x5 x6 μ)
  else
  if x6 = 0 then
    (f_L_deadlines_b244 N x0 x1 x5 x6 μ)
  else
  some (0, μ)
def f_L_deadlines_b173 (N : Nat) (x0 x1 x2 x3 x4 : Int) (μ : Mm) : Rs :=
  bd (f_L_low N x1 100 μ) fun a1 μ2 =>
  nm (w32 (1 + a1)) fun a3 =>
  ck (μ2 x0 (-2) = 9) <|
  bd (f_X7_calledIn N x0 a3 μ2) fun a5 μ6 =>
  if a5 < 0 then
    (some (0, μ6))
  else
  ck (μ6 x0 (-2) = 9) <|
  bd (f_X7_calledIn N x0 0 μ6) fun a9 μ10 =>
  if ¬ a9 = ((-100000002)) then
    (some (0, μ10))
  else
  ck (μ10 x0 (-2) = 9) <|
  bd (f_X7_calledIn N x0 101 μ10) fun a13 μ14 =>
  if ¬ a13 = ((-100000002)) then
    (some (0, μ14))
  else
  if ¬ x2 = ((-100000005)) then
    (f_L_deadlines_b228 N x0 x1 x3 x4 a3 a5 μ14)
  else
  if ¬ a5 = 0 then
    (some (0, μ14))
  else
  f_L_deadlines_b228 N x0 x1 x3 x4 a3 a5 μ14
def f_L_deadlines_b166 (N : Nat) (x0 x1 x2 x3 x4 y0 : Int) (μ : Mm) : Rs :=
  if y0 = x4 then
    (f_L_deadlines_b173 N x0 x1 x2 x3 x4 μ)
  else
  some (0, μ)
def f_L_deadlines_b74 (N : Nat) : Nat → Int → Int → Int → Int → Int → Int → Mm → Rs
  | 0, _, _, _, _, _, _, _ => none
  | n + 1, x0, x1, x2, x3, x4, x5, μ =>
    ck (μ x0 (-2) = 9) <|
    bd (f_X7_count N x0 3 μ) fun a2 μ3 =>
    if a2 ≤ x5 then
      (if ¬ x2 = ((-100000005)) then
         (if 100 ≤ x2 then
            (nm (w32 (x2 - 100)) fun a7 =>
             ck (μ3 x0 (-2) = 9) <|
             bd (f_X7_exported N x0 a7 3 μ3) fun a9 μ10 =>
             f_L_deadlines_b166 N x0 x1 x2 x3 x4 a9 μ10)
          else
          ck (μ3 x0 (-2) = 9) <|
          bd (f_X7_lot N x0 x2 5 μ3) fun a12 μ13 =>
          f_L_deadlines_b166 N x0 x1 x2 x3 x4 a12 μ13)
       else
       if x4 = 1000000 then
         (f_L_deadlines_b173 N x0 x1 x2 x3 x4 μ3)
       else
       some (0, μ3))
    else
    ck (μ3 x0 (-2) = 9) <|
    bd (f_X7_exported N x0 x5 4 μ3) fun a16 μ17 =>
    if ¬ a16 = 0 then
      (nm (w32 (x5 + 1)) fun a19 =>
       f_L_deadlines_b74 N n x0 x1 x2 x3 x4 a19 μ17)
    else
    ck (μ17 x0 (-2) = 9) <|
    bd (f_X7_exported N x0 x5 3 μ17) fun a21 μ22 =>
    if x4 ≤ a21 then
      (nm (w32 (x5 + 1)) fun a24 =>
       f_L_deadlines_b74 N n x0 x1 x2 x3 x4 a24 μ22)
    else
    ck (μ22 x0 (-2) = 9) <|
    bd (f_X7_exported N x0 x5 3 μ22) fun a26 μ27 =>
    nm (w32 (x5 + 1)) fun a28 =>
    f_L_deadlines_b74 N n x0 x1 x2 x3 a26 a28 μ27
def f_L_deadlines_b18 (N : Nat) : Nat → Int → Int → Int → Int → Int → Int → Mm → Rs
  | 0, _, _, _, _, _, _, _ => none
  | n + 1, x0, x1, x2, x3, x4, x5, μ =>
    ck (μ x0 (-2) = 9) <|
    bd (f_X7_count N x0 2 μ) fun a2 μ3 =>
    if a2 ≤ x5 then
      (f_L_deadlines_b74 N N x0 x1 x2 x3 x4 0 μ3)
    else
    ck (μ3 x0 (-2) = 9) <|
    bd (f_X7_lot N x0 x5 7 μ3) fun a6 μ7 =>
    if a6 ≤ 0 then
      (nm (w32 (x5 + 1)) fun a9 =>
       f_L_deadlines_b18 N n x0 x1 x2 x3 x4 a9 μ7)
    else
    ck (μ7 x0 (-2) = 9) <|
    bd (f_X7_lot N x0 x5 5 μ7) fun a11 μ12 =>
    if x4 ≤ a11 then
      (nm (w32 (x5 + 1)) fun a14 =>
       f_L_deadlines_b18 N n x0 x1 x2 x3 x4 a14 μ12)
    else
    ck (μ12 x0 (-2) = 9) <|
    bd (f_X7_lot N x0 x5 5 μ12) fun a16 μ17 =>
    nm (w32 (x5 + 1)) fun a18 =>
    f_L_deadlines_b18 N n x0 x1 x2 x3 a16 a18 μ17
def f_L_deadlines (N : Nat) (x0 x1 : Int) (μ : Mm) : Rs :=
  ck (μ x0 (-2) = 9) <|
  bd (f_X7_nextDeadline N x0 μ) fun a2 μ3 =>
  ck (μ3 x0 (-2) = 9) <|
  bd (f_X7_count N x0 0 μ3) fun a5 μ6 =>
  f_L_deadlines_b18 N N x0 x1 a2 a5 1000000 0 μ6
set_option maxHeartbeats 4000000 in
set_option maxRecDepth 100000 in
theorem k_L_deadlines_b244 (C : gCx p s m args meth c cL_deadlines 9 (some .boolean) "deadlines" RL) (N : Nat) {r : Int} {μ' : Mm} : ∀ (x0 x1 x5 x6 : Int) (μ : Mm), f_L_deadlines_b244 N x0 x1 x5 x6 μ = some (r, μ') → R32 x1 → R32 x5 → R32 x6 → ∀ (H : Heap) (locs : List Loc) (ls : Array Slot), MS E μ s H locs → lv_has ls 9 [(0, vr E x0), (1, vi x1), (5, vi x5), (6, vi x6)] → W p l e ({ frames := 5, cells := 0, slots := 0, locals := 125 } : Room) s m args below meth c H locs 0 0 (MQ below (gQ E (some (vi r)) (R32 r) μ') args s 0 0 (gA E)) (F0 m 244 ls []) := by
  intro x0 x1 x5 x6 μ h rx1 rx5 rx6 H locs ls hM hl
  unfold f_L_deadlines_b244 at h
  refine m_iload_n (pc := 244) C dL_deadlines_244 rfl (lv_at hl 1 rfl) ?_
  refine m_bipush (pc := 245) C dL_deadlines_245 rfl ?_
  obtain ⟨a1, ea1, h⟩ := nm_some h
  have ra1 : R32 a1 := by rw [ea1]; exact R32_of _
  refine m_ishr (pc := 247) C dL_deadlines_247 ea1 ?_
  refine m_iconst (pc := 248) C dL_deadlines_248 ?_
  obtain ⟨a2, ea2, h⟩ := nm_some h
  have ra2 : R32 a2 := by rw [ea2]; exact R32_of _
  refine m_iand (pc := 249) C dL_deadlines_249 ea2 ?_
  refine m_if_eq (tgt := 255) (pc := 250) C ra2 dL_deadlines_250 (by decide) (fun c3 => ?_) (fun c3 => ?_)
  · have h := if_t h c3
    refine m_aload_n (pc := 255) C dL_deadlines_255 rfl (lv_at hl 0 rfl) ?_
    obtain ⟨a4, μ5, ca4, h⟩ := bd_some h
    refine V_L_digest (pc := 256) C hM ca4 bw_3_21 ⟨Nat.le_of_ble_eq_true rfl, Nat.le_of_ble_eq_true rfl⟩ hl.1 rc0 ⟨Nat.le_refl _, Nat.le_refl _⟩ dL_deadlines_256 (fun ra4 H locs hM => ?_)
    refine m_lstore (pc := 259) C dL_deadlines_259 hl (by decide) (lvK1 0 rfl (Nat.ne_of_beq_eq_false rfl) (Nat.ne_of_beq_eq_false rfl) (lvK1 2 rfl (Nat.ne_of_beq_eq_false rfl) (Nat.ne_of_beq_eq_false rfl) (lvK2 3 rfl (Nat.ne_of_beq_eq_false rfl) rfl lvK0))) (lvN1 (Nat.ne_of_beq_eq_false rfl) (lvN1 (Nat.ne_of_beq_eq_false rfl) (lvN1 (Nat.ne_of_beq_eq_false rfl) lvN0))) (fun ls hl => ?_)
    refine m_aload_n (pc := 261) C dL_deadlines_261 rfl (lv_at hl 1 rfl) ?_
    refine m_iload (pc := 262) C dL_deadlines_262 (lv_at hl 2 rfl) ?_
    obtain ⟨q6, h⟩ := ck_some h
    obtain ⟨a7, μ8, ca7, h⟩ := bd_some h
    refine V_X7_pass (pc := 264) C hM ca7 rx5 q6 bw_2_162 ⟨Nat.le_of_ble_eq_true rfl, Nat.le_of_ble_eq_true rfl⟩ hl.1 rc0 ⟨Nat.le_refl _, Nat.le_refl _⟩ dL_deadlines_264 (fun ra7 H locs hM => ?_)
    refine m_iload (pc := 267) C dL_deadlines_267 (lv_at hl 3 rfl) ?_
    refine m_icmp_ne (tgt := 293) (pc := 269) C ra7 rx6 dL_deadlines_269 (by decide) (fun c9 => ?_) (fun c9 => ?_)
    · have h := if_t h c9
      refine m_iconst (pc := 293) C dL_deadlines_293 ?_
      cases h
      exact m_zret (pc := 294) C rfl hM rk_0 dL_deadlines_294
    · have h := if_f h c9
      refine m_aload_n (pc := 272) C dL_deadlines_272 rfl (lv_at hl 1 rfl) ?_
      obtain ⟨q10, h⟩ := ck_some h
      obtain ⟨a11, μ12, ca11, h⟩ := bd_some h
      refine V_X7_undo (pc := 273) C hM ca11 q10 bw_2_208 ⟨Nat.le_of_ble_eq_true rfl, Nat.le_of_ble_eq_true rfl⟩ hl.1 rc0 ⟨Nat.le_refl _, Nat.le_refl _⟩ dL_deadlines_273 (fun ra11 H locs hM => ?_)
      refine m_if_lt (tgt := 293) (pc := 276) C ra11 dL_deadlines_276 (by decide) (fun c13 => ?_) (fun c13 => ?_)
      · have h := if_t h c13
        refine m_iconst (pc := 293) C dL_deadlines_293 ?_
        cases h
        exact m_zret (pc := 294) C rfl hM rk_0 dL_deadlines_294
      · have h := if_f h c13
        refine m_aload_n (pc := 279) C dL_deadlines_279 rfl (lv_at hl 1 rfl) ?_
        obtain ⟨a14, μ15, ca14, h⟩ := bd_some h
        refine V_L_digest (pc := 280) C hM ca14 bw_3_21 ⟨Nat.le_of_ble_eq_true rfl, Nat.le_of_ble_eq_true rfl⟩ hl.1 rc0 ⟨Nat.le_refl _, Nat.le_refl _⟩ dL_deadlines_280 (fun ra14 H locs hM => ?_)
        refine m_lload (pc := 283) C dL_deadlines_283 (lv_at hl 0 rfl) ?_
        refine m_lcmp_ne (tgt := 293) (pc := 285) C ra14 ra4 dL_deadlines_285 dL_deadlines_286 (by decide) (fun c16 => ?_) (fun c16 => ?_)
        · have h := if_t h c16
          refine m_iconst (pc := 293) C dL_deadlines_293 ?_
          cases h
          exact m_zret (pc := 294) C rfl hM rk_0 dL_deadlines_294
        · have h := if_f h c16
          refine m_iconst (pc := 289) C dL_deadlines_289 ?_
          refine m_goto (tgt := 294) (pc := 290) C dL_deadlines_290 (by decide) ?_
          cases h
          exact m_zret (pc := 294) C rfl hM rk_1 dL_deadlines_294
  · have h := if_f h c3
    refine m_iconst (pc := 253) C dL_deadlines_253 ?_
    cases h
    exact m_zret (pc := 254) C rfl hM rk_1 dL_deadlines_254
set_option maxHeartbeats 4000000 in
set_option maxRecDepth 100000 in
theorem k_L_deadlines_b228 (C : gCx p s m args meth c cL_deadlines 9 (some .boolean) "deadlines" RL) (N : Nat) {r : Int} {μ' : Mm} : ∀ (x0 x1 x3 x4 x5 x6 : Int) (μ : Mm), f_L_deadlines_b228 N x0 x1 x3 x4 x5 x6 μ = some (r, μ') → R32 x1 → R32 x3 → R32 x4 → R32 x5 → R32 x6 → ∀ (H : Heap) (locs : List Loc) (ls : Array Slot), MS E μ s H locs → lv_has ls 9 [(0, vr E x0), (1, vi x1), (3, vi x3), (4, vi x4), (5, vi x5), (6, vi x6)] → W p l e ({ frames := 5, cells := 0, slots := 0, locals := 125 } : Room) s m args below meth c H locs 0 0 (MQ below (gQ E (some (vi r)) (R32 r) μ') args s 0 0 (gA E)) (F0 m 228 ls []) := by
  intro x0 x1 x3 x4 x5 x6 μ h rx1 rx3 rx4 rx5 rx6 H locs ls hM hl
  unfold f_L_deadlines_b228 at h
  refine m_iload_n (pc := 228) C dL_deadlines_228 rfl (lv_at hl 2 rfl) ?_
  refine m_iload (pc := 229) C dL_deadlines_229 (lv_at hl 4 rfl) ?_
  obtain ⟨a1, ea1, h⟩ := nm_some h
  have ra1 : R32 a1 := by rw [ea1]; exact w32_R _
  refine m_iadd (pc := 231) C dL_deadlines_231 ea1 ?_
  refine m_iload (pc := 232) C dL_deadlines_232 (lv_at hl 3 rfl) ?_
  refine m_icmp_gt (tgt := 244) (pc := 234) C ra1 rx4 dL_deadlines_234 (by decide) (fun c2 => ?_) (fun c2 => ?_)
  · have h := if_t h c2
    exact k_L_deadlines_b244 C N _ _ _ _ _ h rx1 rx5 rx6 _ _ _ hM (lv_sub hl [0, 1, 4, 5] rfl)
  · have h := if_f h c2
    refine m_iload (pc := 237) C dL_deadlines_237 (lv_at hl 5 rfl) ?_
    refine m_if_eq (tgt := 244) (pc := 239) C rx6 dL_deadlines_239 (by decide) (fun c3 => ?_) (fun c3 => ?_)
    · have h := if_t h c3
      exact k_L_deadlines_b244 C N _ _ _ _ _ h rx1 rx5 rx6 _ _ _ hM (lv_sub hl [0, 1, 4, 5] rfl)
    · have h := if_f h c3
      refine m_iconst (pc := 242) C dL_deadlines_242 ?_
      cases h
      exact m_zret (pc := 243) C rfl hM rk_0 dL_deadlines_243
set_option maxHeartbeats 4000000 in
set_option maxRecDepth 100000 in
theorem k_L_deadlines_b173 (C : gCx p s m args meth c cL_deadlines 9 (some .boolean) "deadlines" RL) (N : Nat) {r : Int} {μ' : Mm} : ∀ (x0 x1 x2 x3 x4 : Int) (μ : Mm), f_L_deadlines_b173 N x0 x1 x2 x3 x4 μ = some (r, μ') → R32 x1 → R32 x2 → R32 x3 → R32 x4 → ∀ (H : Heap) (locs : List Loc) (ls : Array Slot), MS E μ s H locs → lv_has ls 9 [(0, vr E x0), (1, vi x1), (2, vi x2), (3, vi x3), (4, vi x4)] → W p l e ({ frames := 5, cells := 0, slots := 0, locals := 125 } : Room) s m args below meth c H locs 0 0 (MQ below (gQ E (some (vi r)) (R32 r) μ') args s 0 0 (gA E)) (F0 m 173 ls []) := by
  intro x0 x1 x2 x3 x4 μ h rx1 rx2 rx3 rx4 H locs ls hM hl
  unfold f_L_deadlines_b173 at h
  refine m_iconst (pc := 173) C dL_deadlines_173 ?_
  refine m_iload_n (pc := 174) C dL_deadlines_174 rfl (lv_at hl 1 rfl) ?_
  refine m_bipush (pc := 175) C dL_deadlines_175 rfl ?_
  obtain ⟨a1, μ2, ca1, h⟩ := bd_some h
  refine V_L_low (pc := 177) C hM ca1 rx1 rk_100 bw_3_17 ⟨Nat.le_of_ble_eq_true rfl, Nat.le_of_ble_eq_true rfl⟩ hl.1 (rcI rc0) ⟨Nat.le_refl _, Nat.le_refl _⟩ dL_deadlines_177 (fun ra1 H locs hM => ?_)
  obtain ⟨a3, ea3, h⟩ := nm_some h
  have ra3 : R32 a3 := by rw [ea3]; exact w32_R _
  refine m_iadd (pc := 180) C dL_deadlines_180 ea3 ?_
  refine m_istore (pc := 181) C dL_deadlines_181 hl (by decide) (lvK1 0 rfl (Nat.ne_of_beq_eq_false rfl) (Nat.ne_of_beq_eq_false rfl) (lvK1 1 rfl (Nat.ne_of_beq_eq_false rfl) (Nat.ne_of_beq_eq_false rfl) (lvK1 2 rfl (Nat.ne_of_beq_eq_false rfl) (Nat.ne_of_beq_eq_false rfl) (lvK1 3 rfl (Nat.ne_of_beq_eq_false rfl) (Nat.ne_of_beq_eq_false rfl) (lvK2 4 rfl (Nat.ne_of_beq_eq_false rfl) rfl lvK0))))) (fun ls hl => ?_)
  refine m_aload_n (pc := 183) C dL_deadlines_183 rfl (lv_at hl 1 rfl) ?_
  refine m_iload (pc := 184) C dL_deadlines_184 (lv_at hl 0 rfl) ?_
  obtain ⟨q4, h⟩ := ck_some h
  obtain ⟨a5, μ6, ca5, h⟩ := bd_some h
  refine V_X7_calledIn (pc := 186) C hM ca5 ra3 q4 bw_2_236 ⟨Nat.le_of_ble_eq_true rfl, Nat.le_of_ble_eq_true rfl⟩ hl.1 rc0 ⟨Nat.le_refl _, Nat.le_refl _⟩ dL_deadlines_186 (fun ra5 H locs hM => ?_)
  refine m_istore (pc := 189) C dL_deadlines_189 hl (by decide) (lvK2 0 rfl (Nat.ne_of_beq_eq_false rfl) rfl (lvK1 1 rfl (Nat.ne_of_beq_eq_false rfl) (Nat.ne_of_beq_eq_false rfl) (lvK1 2 rfl (Nat.ne_of_beq_eq_false rfl) (Nat.ne_of_beq_eq_false rfl) (lvK1 3 rfl (Nat.ne_of_beq_eq_false rfl) (Nat.ne_of_beq_eq_false rfl) (lvK1 4 rfl (Nat.ne_of_beq_eq_false rfl) (Nat.ne_of_beq_eq_false rfl) (lvK1 5 rfl (Nat.ne_of_beq_eq_false rfl) (Nat.ne_of_beq_eq_false rfl) lvK0)))))) (fun ls hl => ?_)
  refine m_iload (pc := 191) C dL_deadlines_191 (lv_at hl 0 rfl) ?_
  refine m_if_lt (tgt := 242) (pc := 193) C ra5 dL_deadlines_193 (by decide) (fun c7 => ?_) (fun c7 => ?_)
  · have h := if_t h c7
    refine m_iconst (pc := 242) C dL_deadlines_242 ?_
    cases h
    exact m_zret (pc := 243) C rfl hM rk_0 dL_deadlines_243
  · have h := if_f h c7
    refine m_aload_n (pc := 196) C dL_deadlines_196 rfl (lv_at hl 2 rfl) ?_
    refine m_iconst (pc := 197) C dL_deadlines_197 ?_
    obtain ⟨q8, h⟩ := ck_some h
    obtain ⟨a9, μ10, ca9, h⟩ := bd_some h
    refine V_X7_calledIn (pc := 198) C hM ca9 rk_0 q8 bw_2_236 ⟨Nat.le_of_ble_eq_true rfl, Nat.le_of_ble_eq_true rfl⟩ hl.1 rc0 ⟨Nat.le_refl _, Nat.le_refl _⟩ dL_deadlines_198 (fun ra9 H locs hM => ?_)
    refine m_ldc (n := -100000002) (pc := 201) C bw_3_83 rfl dL_deadlines_201 ?_
    refine m_icmp_ne (tgt := 242) (pc := 203) C ra9 rk_m100000002 dL_deadlines_203 (by decide) (fun c11 => ?_) (fun c11 => ?_)
    · have h := if_t h c11
      refine m_iconst (pc := 242) C dL_deadlines_242 ?_
      cases h
      exact m_zret (pc := 243) C rfl hM rk_0 dL_deadlines_243
    · have h := if_f h c11
      refine m_aload_n (pc := 206) C dL_deadlines_206 rfl (lv_at hl 2 rfl) ?_
      refine m_bipush (pc := 207) C dL_deadlines_207 rfl ?_
      obtain ⟨q12, h⟩ := ck_some h
      obtain ⟨a13, μ14, ca13, h⟩ := bd_some h
      refine V_X7_calledIn (pc := 209) C hM ca13 rk_101 q12 bw_2_236 ⟨Nat.le_of_ble_eq_true rfl, Nat.le_of_ble_eq_true rfl⟩ hl.1 rc0 ⟨Nat.le_refl _, Nat.le_refl _⟩ dL_deadlines_209 (fun ra13 H locs hM => ?_)
      refine m_ldc (n := -100000002) (pc := 212) C bw_3_83 rfl dL_deadlines_212 ?_
      refine m_icmp_ne (tgt := 242) (pc := 214) C ra13 rk_m100000002 dL_deadlines_214 (by decide) (fun c15 => ?_) (fun c15 => ?_)
      · have h := if_t h c15
        refine m_iconst (pc := 242) C dL_deadlines_242 ?_
        cases h
        exact m_zret (pc := 243) C rfl hM rk_0 dL_deadlines_243
      · have h := if_f h c15
        refine m_iload_n (pc := 217) C dL_deadlines_217 rfl (lv_at hl 4 rfl) ?_
        refine m_ldc (n := -100000005) (pc := 218) C bw_3_102 rfl dL_deadlines_218 ?_
        refine m_icmp_ne (tgt := 228) (pc := 220) C rx2 rk_m100000005 dL_deadlines_220 (by decide) (fun c16 => ?_) (fun c16 => ?_)
        · have h := if_t h c16
          exact k_L_deadlines_b228 C N _ _ _ _ _ _ _ h rx1 rx3 rx4 ra3 ra5 _ _ _ hM (lv_sub hl [2, 3, 5, 6, 1, 0] rfl)
        · have h := if_f h c16
          refine m_iload (pc := 223) C dL_deadlines_223 (lv_at hl 0 rfl) ?_
          refine m_if_ne (tgt := 242) (pc := 225) C ra5 dL_deadlines_225 (by decide) (fun c17 => ?_) (fun c17 => ?_)
          · have h := if_t h c17
            refine m_iconst (pc := 242) C dL_deadlines_242 ?_
            cases h
            exact m_zret (pc := 243) C rfl hM rk_0 dL_deadlines_243
          · have h := if_f h c17
            exact k_L_deadlines_b228 C N _ _ _ _ _ _ _ h rx1 rx3 rx4 ra3 ra5 _ _ _ hM (lv_sub hl [2, 3, 5, 6, 1, 0] rfl)
set_option maxHeartbeats 4000000 in
set_option maxRecDepth 100000 in
theorem k_L_deadlines_b166 (C : gCx p s m args meth c cL_deadlines 9 (some .boolean) "deadlines" RL) (N : Nat) {r : Int} {μ' : Mm} : ∀ (x0 x1 x2 x3 x4 y0 : Int) (μ : Mm), f_L_deadlines_b166 N x0 x1 x2 x3 x4 y0 μ = some (r, μ') → R32 x1 → R32 x2 → R32 x3 → R32 x4 → R32 y0 → ∀ (H : Heap) (locs : List Loc) (ls : Array Slot), MS E μ s H locs → lv_has ls 9 [(0, vr E x0), (1, vi x1), (2, vi x2), (3, vi x3), (4, vi x4)] → W p l e ({ frames := 5, cells := 0, slots := 0, locals := 125 } : Room) s m args below meth c H locs 0 0 (MQ below (gQ E (some (vi r)) (R32 r) μ') args s 0 0 (gA E)) (F0 m 166 ls [vi y0]) := by
  intro x0 x1 x2 x3 x4 y0 μ h rx1 rx2 rx3 rx4 ry0 H locs ls hM hl
  unfold f_L_deadlines_b166 at h
  refine m_iload (pc := 166) C dL_deadlines_166 (lv_at hl 4 rfl) ?_
  refine m_icmp_eq (tgt := 173) (pc := 168) C ry0 rx4 dL_deadlines_168 (by decide) (fun c1 => ?_) (fun c1 => ?_)
  · have h := if_t h c1
    exact k_L_deadlines_b173 C N _ _ _ _ _ _ h rx1 rx2 rx3 rx4 _ _ _ hM (lv_sub hl [0, 1, 2, 3, 4] rfl)
  · have h := if_f h c1
    refine m_iconst (pc := 171) C dL_deadlines_171 ?_
    cases h
    exact m_zret (pc := 172) C rfl hM rk_0 dL_deadlines_172
set_option maxHeartbeats 4000000 in
set_option maxRecDepth 100000 in
theorem k_L_deadlines_b74 (C : gCx p s m args meth c cL_deadlines 9 (some .boolean) "deadlines" RL) (N : Nat) {r : Int} {μ' : Mm} : ∀ (n : Nat), ∀ (x0 x1 x2 x3 x4 x5 : Int) (μ : Mm), f_L_deadlines_b74 N n x0 x1 x2 x3 x4 x5 μ = some (r, μ') → R32 x1 → R32 x2 → R32 x3 → R32 x4 → R32 x5 → ∀ (H : Heap) (locs : List Loc) (ls : Array Slot), MS E μ s H locs → lv_has ls 9 [(0, vr E x0), (1, vi x1), (2, vi x2), (3, vi x3), (4, vi x4), (5, vi x5)] → W p l e ({ frames := 5, cells := 0, slots := 0, locals := 125 } : Room) s m args below meth c H locs 0 0 (MQ below (gQ E (some (vi r)) (R32 r) μ') args s 0 0 (gA E)) (F0 m 74 ls []) := by
  intro n
  induction n with
  | zero => intro x0 x1 x2 x3 x4 x5 μ h; simp [f_L_deadlines_b74] at h
  | succ n ih =>
    intro x0 x1 x2 x3 x4 x5 μ h rx1 rx2 rx3 rx4 rx5 H locs ls hM hl
    rw [f_L_deadlines_b74] at h
    refine m_iload (pc := 74) C dL_deadlines_74 (lv_at hl 5 rfl) ?_
    refine m_aload_n (pc := 76) C dL_deadlines_76 rfl (lv_at hl 0 rfl) ?_
    refine m_iconst (pc := 77) C dL_deadlines_77 ?_
    obtain ⟨q1, h⟩ := ck_some h
    obtain ⟨a2, μ3, ca2, h⟩ := bd_some h
    refine V_X7_count (pc := 78) C hM ca2 rk_3 q1 bw_3_4 ⟨Nat.le_of_ble_eq_true rfl, Nat.le_of_ble_eq_true rfl⟩ hl.1 (rcI rc0) ⟨Nat.le_refl _, Nat.le_refl _⟩ dL_deadlines_78 (fun ra2 H locs hM => ?_)
    refine m_icmp_ge (tgt := 126) (pc := 81) C rx5 ra2 dL_deadlines_81 (by decide) (fun c4 => ?_) (fun c4 => ?_)
    · have h := if_t h c4
      refine m_iload_n (pc := 126) C dL_deadlines_126 rfl (lv_at hl 2 rfl) ?_
      refine m_ldc (n := -100000005) (pc := 127) C bw_3_102 rfl dL_deadlines_127 ?_
      refine m_icmp_ne (tgt := 142) (pc := 129) C rx2 rk_m100000005 dL_deadlines_129 (by decide) (fun c5 => ?_) (fun c5 => ?_)
      · have h := if_t h c5
        refine m_iload_n (pc := 142) C dL_deadlines_142 rfl (lv_at hl 2 rfl) ?_
        refine m_bipush (pc := 143) C dL_deadlines_143 rfl ?_
        refine m_icmp_ge (tgt := 157) (pc := 145) C rx2 rk_100 dL_deadlines_145 (by decide) (fun c6 => ?_) (fun c6 => ?_)
        · have h := if_t h c6
          refine m_aload_n (pc := 157) C dL_deadlines_157 rfl (lv_at hl 0 rfl) ?_
          refine m_iload_n (pc := 158) C dL_deadlines_158 rfl (lv_at hl 2 rfl) ?_
          refine m_bipush (pc := 159) C dL_deadlines_159 rfl ?_
          obtain ⟨a7, ea7, h⟩ := nm_some h
          have ra7 : R32 a7 := by rw [ea7]; exact w32_R _
          refine m_isub (pc := 161) C dL_deadlines_161 ea7 ?_
          refine m_iconst (pc := 162) C dL_deadlines_162 ?_
          obtain ⟨q8, h⟩ := ck_some h
          obtain ⟨a9, μ10, ca9, h⟩ := bd_some h
          refine V_X7_exported (pc := 163) C hM ca9 ra7 rk_3 q8 bw_2_226 ⟨Nat.le_of_ble_eq_true rfl, Nat.le_of_ble_eq_true rfl⟩ hl.1 rc0 ⟨Nat.le_refl _, Nat.le_refl _⟩ dL_deadlines_163 (fun ra9 H locs hM => ?_)
          exact k_L_deadlines_b166 C N _ _ _ _ _ _ _ h rx1 rx2 rx3 rx4 ra9 _ _ _ hM (lv_sub hl [0, 1, 2, 3, 4] rfl)
        · have h := if_f h c6
          refine m_aload_n (pc := 148) C dL_deadlines_148 rfl (lv_at hl 0 rfl) ?_
          refine m_iload_n (pc := 149) C dL_deadlines_149 rfl (lv_at hl 2 rfl) ?_
          refine m_iconst (pc := 150) C dL_deadlines_150 ?_
          obtain ⟨q11, h⟩ := ck_some h
          obtain ⟨a12, μ13, ca12, h⟩ := bd_some h
          refine V_X7_lot (pc := 151) C hM ca12 rx2 rk_5 q11 bw_3_54 ⟨Nat.le_of_ble_eq_true rfl, Nat.le_of_ble_eq_true rfl⟩ hl.1 rc0 ⟨Nat.le_refl _, Nat.le_refl _⟩ dL_deadlines_151 (fun ra12 H locs hM => ?_)
          refine m_goto (tgt := 166) (pc := 154) C dL_deadlines_154 (by decide) ?_
          exact k_L_deadlines_b166 C N _ _ _ _ _ _ _ h rx1 rx2 rx3 rx4 ra12 _ _ _ hM (lv_sub hl [0, 1, 2, 3, 4] rfl)
      · have h := if_f h c5
        refine m_iload (pc := 132) C dL_deadlines_132 (lv_at hl 4 rfl) ?_
        refine m_ldc (n := 1000000) (pc := 134) C bw_3_108 rfl dL_deadlines_134 ?_
        refine m_icmp_eq (tgt := 173) (pc := 136) C rx4 rk_1000000 dL_deadlines_136 (by decide) (fun c14 => ?_) (fun c14 => ?_)
        · have h := if_t h c14
          exact k_L_deadlines_b173 C N _ _ _ _ _ _ h rx1 rx2 rx3 rx4 _ _ _ hM (lv_sub hl [0, 1, 2, 3, 4] rfl)
        · have h := if_f h c14
          refine m_goto (tgt := 171) (pc := 139) C dL_deadlines_139 (by decide) ?_
          refine m_iconst (pc := 171) C dL_deadlines_171 ?_
          cases h
          exact m_zret (pc := 172) C rfl hM rk_0 dL_deadlines_172
    · have h := if_f h c4
      refine m_aload_n (pc := 84) C dL_deadlines_84 rfl (lv_at hl 0 rfl) ?_
      refine m_iload (pc := 85) C dL_deadlines_85 (lv_at hl 5 rfl) ?_
      refine m_iconst (pc := 87) C dL_deadlines_87 ?_
      obtain ⟨q15, h⟩ := ck_some h
      obtain ⟨a16, μ17, ca16, h⟩ := bd_some h
      refine V_X7_exported (pc := 88) C hM ca16 rx5 rk_4 q15 bw_2_226 ⟨Nat.le_of_ble_eq_true rfl, Nat.le_of_ble_eq_true rfl⟩ hl.1 rc0 ⟨Nat.le_refl _, Nat.le_refl _⟩ dL_deadlines_88 (fun ra16 H locs hM => ?_)
      refine m_if_ne (tgt := 116) (pc := 91) C ra16 dL_deadlines_91 (by decide) (fun c18 => ?_) (fun c18 => ?_)
      · have h := if_t h c18
        refine m_iload (pc := 116) C dL_deadlines_116 (lv_at hl 4 rfl) ?_
        refine m_istore (pc := 118) C dL_deadlines_118 hl (by decide) (lvK1 0 rfl (Nat.ne_of_beq_eq_false rfl) (Nat.ne_of_beq_eq_false rfl) (lvK1 1 rfl (Nat.ne_of_beq_eq_false rfl) (Nat.ne_of_beq_eq_false rfl) (lvK1 2 rfl (Nat.ne_of_beq_eq_false rfl) (Nat.ne_of_beq_eq_false rfl) (lvK2 3 rfl (Nat.ne_of_beq_eq_false rfl) rfl (lvK1 5 rfl (Nat.ne_of_beq_eq_false rfl) (Nat.ne_of_beq_eq_false rfl) lvK0))))) (fun ls hl => ?_)
        obtain ⟨a19, ea19, h⟩ := nm_some h
        have ra19 : R32 a19 := by rw [ea19]; exact w32_R _
        refine m_iinc (k := 5) (pc := 120) C dL_deadlines_120 hl rfl (by decide) ea19 (lvK2 0 rfl (Nat.ne_of_beq_eq_false rfl) rfl (lvK1 1 rfl (Nat.ne_of_beq_eq_false rfl) (Nat.ne_of_beq_eq_false rfl) (lvK1 2 rfl (Nat.ne_of_beq_eq_false rfl) (Nat.ne_of_beq_eq_false rfl) (lvK1 3 rfl (Nat.ne_of_beq_eq_false rfl) (Nat.ne_of_beq_eq_false rfl) (lvK1 4 rfl (Nat.ne_of_beq_eq_false rfl) (Nat.ne_of_beq_eq_false rfl) lvK0))))) (fun ls hl => ?_)
        refine m_goto (tgt := 74) (pc := 123) C dL_deadlines_123 (by decide) ?_
        exact ih _ _ _ _ _ _ _ h rx1 rx2 rx3 rx4 ra19 _ _ _ hM (lv_sub hl [2, 3, 4, 5, 1, 0] rfl)
      · have h := if_f h c18
        refine m_aload_n (pc := 94) C dL_deadlines_94 rfl (lv_at hl 0 rfl) ?_
        refine m_iload (pc := 95) C dL_deadlines_95 (lv_at hl 5 rfl) ?_
        refine m_iconst (pc := 97) C dL_deadlines_97 ?_
        obtain ⟨q20, h⟩ := ck_some h
        obtain ⟨a21, μ22, ca21, h⟩ := bd_some h
        refine V_X7_exported (pc := 98) C hM ca21 rx5 rk_3 q20 bw_2_226 ⟨Nat.le_of_ble_eq_true rfl, Nat.le_of_ble_eq_true rfl⟩ hl.1 rc0 ⟨Nat.le_refl _, Nat.le_refl _⟩ dL_deadlines_98 (fun ra21 H locs hM => ?_)
        refine m_iload (pc := 101) C dL_deadlines_101 (lv_at hl 4 rfl) ?_
        refine m_icmp_ge (tgt := 116) (pc := 103) C ra21 rx4 dL_deadlines_103 (by decide) (fun c23 => ?_) (fun c23 => ?_)
        · have h := if_t h c23
          refine m_iload (pc := 116) C dL_deadlines_116 (lv_at hl 4 rfl) ?_
          refine m_istore (pc := 118) C dL_deadlines_118 hl (by decide) (lvK1 0 rfl (Nat.ne_of_beq_eq_false rfl) (Nat.ne_of_beq_eq_false rfl) (lvK1 1 rfl (Nat.ne_of_beq_eq_false rfl) (Nat.ne_of_beq_eq_false rfl) (lvK1 2 rfl (Nat.ne_of_beq_eq_false rfl) (Nat.ne_of_beq_eq_false rfl) (lvK2 3 rfl (Nat.ne_of_beq_eq_false rfl) rfl (lvK1 5 rfl (Nat.ne_of_beq_eq_false rfl) (Nat.ne_of_beq_eq_false rfl) lvK0))))) (fun ls hl => ?_)
          obtain ⟨a24, ea24, h⟩ := nm_some h
          have ra24 : R32 a24 := by rw [ea24]; exact w32_R _
          refine m_iinc (k := 5) (pc := 120) C dL_deadlines_120 hl rfl (by decide) ea24 (lvK2 0 rfl (Nat.ne_of_beq_eq_false rfl) rfl (lvK1 1 rfl (Nat.ne_of_beq_eq_false rfl) (Nat.ne_of_beq_eq_false rfl) (lvK1 2 rfl (Nat.ne_of_beq_eq_false rfl) (Nat.ne_of_beq_eq_false rfl) (lvK1 3 rfl (Nat.ne_of_beq_eq_false rfl) (Nat.ne_of_beq_eq_false rfl) (lvK1 4 rfl (Nat.ne_of_beq_eq_false rfl) (Nat.ne_of_beq_eq_false rfl) lvK0))))) (fun ls hl => ?_)
          refine m_goto (tgt := 74) (pc := 123) C dL_deadlines_123 (by decide) ?_
          exact ih _ _ _ _ _ _ _ h rx1 rx2 rx3 rx4 ra24 _ _ _ hM (lv_sub hl [2, 3, 4, 5, 1, 0] rfl)
        · have h := if_f h c23
          refine m_aload_n (pc := 106) C dL_deadlines_106 rfl (lv_at hl 0 rfl) ?_
          refine m_iload (pc := 107) C dL_deadlines_107 (lv_at hl 5 rfl) ?_
          refine m_iconst (pc := 109) C dL_deadlines_109 ?_
          obtain ⟨q25, h⟩ := ck_some h
          obtain ⟨a26, μ27, ca26, h⟩ := bd_some h
          refine V_X7_exported (pc := 110) C hM ca26 rx5 rk_3 q25 bw_2_226 ⟨Nat.le_of_ble_eq_true rfl, Nat.le_of_ble_eq_true rfl⟩ hl.1 rc0 ⟨Nat.le_refl _, Nat.le_refl _⟩ dL_deadlines_110 (fun ra26 H locs hM => ?_)
          refine m_goto (tgt := 118) (pc := 113) C dL_deadlines_113 (by decide) ?_
          refine m_istore (pc := 118) C dL_deadlines_118 hl (by decide) (lvK1 0 rfl (Nat.ne_of_beq_eq_false rfl) (Nat.ne_of_beq_eq_false rfl) (lvK1 1 rfl (Nat.ne_of_beq_eq_false rfl) (Nat.ne_of_beq_eq_false rfl) (lvK1 2 rfl (Nat.ne_of_beq_eq_false rfl) (Nat.ne_of_beq_eq_false rfl) (lvK2 3 rfl (Nat.ne_of_beq_eq_false rfl) rfl (lvK1 5 rfl (Nat.ne_of_beq_eq_false rfl) (Nat.ne_of_beq_eq_false rfl) lvK0))))) (fun ls hl => ?_)
          obtain ⟨a28, ea28, h⟩ := nm_some h
          have ra28 : R32 a28 := by rw [ea28]; exact w32_R _
          refine m_iinc (k := 5) (pc := 120) C dL_deadlines_120 hl rfl (by decide) ea28 (lvK2 0 rfl (Nat.ne_of_beq_eq_false rfl) rfl (lvK1 1 rfl (Nat.ne_of_beq_eq_false rfl) (Nat.ne_of_beq_eq_false rfl) (lvK1 2 rfl (Nat.ne_of_beq_eq_false rfl) (Nat.ne_of_beq_eq_false rfl) (lvK1 3 rfl (Nat.ne_of_beq_eq_false rfl) (Nat.ne_of_beq_eq_false rfl) (lvK1 4 rfl (Nat.ne_of_beq_eq_false rfl) (Nat.ne_of_beq_eq_false rfl) lvK0))))) (fun ls hl => ?_)
          refine m_goto (tgt := 74) (pc := 123) C dL_deadlines_123 (by decide) ?_
          exact ih _ _ _ _ _ _ _ h rx1 rx2 rx3 ra26 ra28 _ _ _ hM (lv_sub hl [2, 3, 4, 5, 1, 0] rfl)
set_option maxHeartbeats 4000000 in
set_option maxRecDepth 100000 in
theorem k_L_deadlines_b18 (C : gCx p s m args meth c cL_deadlines 9 (some .boolean) "deadlines" RL) (N : Nat) {r : Int} {μ' : Mm} : ∀ (n : Nat), ∀ (x0 x1 x2 x3 x4 x5 : Int) (μ : Mm), f_L_deadlines_b18 N n x0 x1 x2 x3 x4 x5 μ = some (r, μ') → R32 x1 → R32 x2 → R32 x3 → R32 x4 → R32 x5 → ∀ (H : Heap) (locs : List Loc) (ls : Array Slot), MS E μ s H locs → lv_has ls 9 [(0, vr E x0), (1, vi x1), (2, vi x2), (3, vi x3), (4, vi x4), (5, vi x5)] → W p l e ({ frames := 5, cells := 0, slots := 0, locals := 125 } : Room) s m args below meth c H locs 0 0 (MQ below (gQ E (some (vi r)) (R32 r) μ') args s 0 0 (gA E)) (F0 m 18 ls []) := by
  intro n
  induction n with
  | zero => intro x0 x1 x2 x3 x4 x5 μ h; simp [f_L_deadlines_b18] at h
  | succ n ih =>
    intro x0 x1 x2 x3 x4 x5 μ h rx1 rx2 rx3 rx4 rx5 H locs ls hM hl
    rw [f_L_deadlines_b18] at h
    refine m_iload (pc := 18) C dL_deadlines_18 (lv_at hl 5 rfl) ?_
    refine m_aload_n (pc := 20) C dL_deadlines_20 rfl (lv_at hl 0 rfl) ?_
    refine m_iconst (pc := 21) C dL_deadlines_21 ?_
    obtain ⟨q1, h⟩ := ck_some h
    obtain ⟨a2, μ3, ca2, h⟩ := bd_some h
    refine V_X7_count (pc := 22) C hM ca2 rk_2 q1 bw_3_4 ⟨Nat.le_of_ble_eq_true rfl, Nat.le_of_ble_eq_true rfl⟩ hl.1 (rcI rc0) ⟨Nat.le_refl _, Nat.le_refl _⟩ dL_deadlines_22 (fun ra2 H locs hM => ?_)
    refine m_icmp_ge (tgt := 71) (pc := 25) C rx5 ra2 dL_deadlines_25 (by decide) (fun c4 => ?_) (fun c4 => ?_)
    · have h := if_t h c4
      refine m_iconst (pc := 71) C dL_deadlines_71 ?_
      refine m_istore (pc := 72) C dL_deadlines_72 hl (by decide) (lvK1 0 rfl (Nat.ne_of_beq_eq_false rfl) (Nat.ne_of_beq_eq_false rfl) (lvK1 1 rfl (Nat.ne_of_beq_eq_false rfl) (Nat.ne_of_beq_eq_false rfl) (lvK1 2 rfl (Nat.ne_of_beq_eq_false rfl) (Nat.ne_of_beq_eq_false rfl) (lvK1 3 rfl (Nat.ne_of_beq_eq_false rfl) (Nat.ne_of_beq_eq_false rfl) (lvK2 4 rfl (Nat.ne_of_beq_eq_false rfl) rfl lvK0))))) (fun ls hl => ?_)
      exact k_L_deadlines_b74 C N N _ _ _ _ _ _ _ h rx1 rx2 rx3 rx4 rk_0 _ _ _ hM (lv_sub hl [1, 2, 3, 4, 5, 0] rfl)
    · have h := if_f h c4
      refine m_aload_n (pc := 28) C dL_deadlines_28 rfl (lv_at hl 0 rfl) ?_
      refine m_iload (pc := 29) C dL_deadlines_29 (lv_at hl 5 rfl) ?_
      refine m_bipush (pc := 31) C dL_deadlines_31 rfl ?_
      obtain ⟨q5, h⟩ := ck_some h
      obtain ⟨a6, μ7, ca6, h⟩ := bd_some h
      refine V_X7_lot (pc := 33) C hM ca6 rx5 rk_7 q5 bw_3_54 ⟨Nat.le_of_ble_eq_true rfl, Nat.le_of_ble_eq_true rfl⟩ hl.1 rc0 ⟨Nat.le_refl _, Nat.le_refl _⟩ dL_deadlines_33 (fun ra6 H locs hM => ?_)
      refine m_if_le (tgt := 61) (pc := 36) C ra6 dL_deadlines_36 (by decide) (fun c8 => ?_) (fun c8 => ?_)
      · have h := if_t h c8
        refine m_iload (pc := 61) C dL_deadlines_61 (lv_at hl 4 rfl) ?_
        refine m_istore (pc := 63) C dL_deadlines_63 hl (by decide) (lvK1 0 rfl (Nat.ne_of_beq_eq_false rfl) (Nat.ne_of_beq_eq_false rfl) (lvK1 1 rfl (Nat.ne_of_beq_eq_false rfl) (Nat.ne_of_beq_eq_false rfl) (lvK1 2 rfl (Nat.ne_of_beq_eq_false rfl) (Nat.ne_of_beq_eq_false rfl) (lvK2 3 rfl (Nat.ne_of_beq_eq_false rfl) rfl (lvK1 5 rfl (Nat.ne_of_beq_eq_false rfl) (Nat.ne_of_beq_eq_false rfl) lvK0))))) (fun ls hl => ?_)
        obtain ⟨a9, ea9, h⟩ := nm_some h
        have ra9 : R32 a9 := by rw [ea9]; exact w32_R _
        refine m_iinc (k := 5) (pc := 65) C dL_deadlines_65 hl rfl (by decide) ea9 (lvK2 0 rfl (Nat.ne_of_beq_eq_false rfl) rfl (lvK1 1 rfl (Nat.ne_of_beq_eq_false rfl) (Nat.ne_of_beq_eq_false rfl) (lvK1 2 rfl (Nat.ne_of_beq_eq_false rfl) (Nat.ne_of_beq_eq_false rfl) (lvK1 3 rfl (Nat.ne_of_beq_eq_false rfl) (Nat.ne_of_beq_eq_false rfl) (lvK1 4 rfl (Nat.ne_of_beq_eq_false rfl) (Nat.ne_of_beq_eq_false rfl) lvK0))))) (fun ls hl => ?_)
        refine m_goto (tgt := 18) (pc := 68) C dL_deadlines_68 (by decide) ?_
        exact ih _ _ _ _ _ _ _ h rx1 rx2 rx3 rx4 ra9 _ _ _ hM (lv_sub hl [2, 3, 4, 5, 1, 0] rfl)
      · have h := if_f h c8
        refine m_aload_n (pc := 39) C dL_deadlines_39 rfl (lv_at hl 0 rfl) ?_
        refine m_iload (pc := 40) C dL_deadlines_40 (lv_at hl 5 rfl) ?_
        refine m_iconst (pc := 42) C dL_deadlines_42 ?_
        obtain ⟨q10, h⟩ := ck_some h
        obtain ⟨a11, μ12, ca11, h⟩ := bd_some h
        refine V_X7_lot (pc := 43) C hM ca11 rx5 rk_5 q10 bw_3_54 ⟨Nat.le_of_ble_eq_true rfl, Nat.le_of_ble_eq_true rfl⟩ hl.1 rc0 ⟨Nat.le_refl _, Nat.le_refl _⟩ dL_deadlines_43 (fun ra11 H locs hM => ?_)
        refine m_iload (pc := 46) C dL_deadlines_46 (lv_at hl 4 rfl) ?_
        refine m_icmp_ge (tgt := 61) (pc := 48) C ra11 rx4 dL_deadlines_48 (by decide) (fun c13 => ?_) (fun c13 => ?_)
        · have h := if_t h c13
          refine m_iload (pc := 61) C dL_deadlines_61 (lv_at hl 4 rfl) ?_
          refine m_istore (pc := 63) C dL_deadlines_63 hl (by decide) (lvK1 0 rfl (Nat.ne_of_beq_eq_false rfl) (Nat.ne_of_beq_eq_false rfl) (lvK1 1 rfl (Nat.ne_of_beq_eq_false rfl) (Nat.ne_of_beq_eq_false rfl) (lvK1 2 rfl (Nat.ne_of_beq_eq_false rfl) (Nat.ne_of_beq_eq_false rfl) (lvK2 3 rfl (Nat.ne_of_beq_eq_false rfl) rfl (lvK1 5 rfl (Nat.ne_of_beq_eq_false rfl) (Nat.ne_of_beq_eq_false rfl) lvK0))))) (fun ls hl => ?_)
          obtain ⟨a14, ea14, h⟩ := nm_some h
          have ra14 : R32 a14 := by rw [ea14]; exact w32_R _
          refine m_iinc (k := 5) (pc := 65) C dL_deadlines_65 hl rfl (by decide) ea14 (lvK2 0 rfl (Nat.ne_of_beq_eq_false rfl) rfl (lvK1 1 rfl (Nat.ne_of_beq_eq_false rfl) (Nat.ne_of_beq_eq_false rfl) (lvK1 2 rfl (Nat.ne_of_beq_eq_false rfl) (Nat.ne_of_beq_eq_false rfl) (lvK1 3 rfl (Nat.ne_of_beq_eq_false rfl) (Nat.ne_of_beq_eq_false rfl) (lvK1 4 rfl (Nat.ne_of_beq_eq_false rfl) (Nat.ne_of_beq_eq_false rfl) lvK0))))) (fun ls hl => ?_)
          refine m_goto (tgt := 18) (pc := 68) C dL_deadlines_68 (by decide) ?_
          exact ih _ _ _ _ _ _ _ h rx1 rx2 rx3 rx4 ra14 _ _ _ hM (lv_sub hl [2, 3, 4, 5, 1, 0] rfl)
        · have h := if_f h c13
          refine m_aload_n (pc := 51) C dL_deadlines_51 rfl (lv_at hl 0 rfl) ?_
          refine m_iload (pc := 52) C dL_deadlines_52 (lv_at hl 5 rfl) ?_
          refine m_iconst (pc := 54) C dL_deadlines_54 ?_
          obtain ⟨q15, h⟩ := ck_some h
          obtain ⟨a16, μ17, ca16, h⟩ := bd_some h
          refine V_X7_lot (pc := 55) C hM ca16 rx5 rk_5 q15 bw_3_54 ⟨Nat.le_of_ble_eq_true rfl, Nat.le_of_ble_eq_true rfl⟩ hl.1 rc0 ⟨Nat.le_refl _, Nat.le_refl _⟩ dL_deadlines_55 (fun ra16 H locs hM => ?_)
          refine m_goto (tgt := 63) (pc := 58) C dL_deadlines_58 (by decide) ?_
          refine m_istore (pc := 63) C dL_deadlines_63 hl (by decide) (lvK1 0 rfl (Nat.ne_of_beq_eq_false rfl) (Nat.ne_of_beq_eq_false rfl) (lvK1 1 rfl (Nat.ne_of_beq_eq_false rfl) (Nat.ne_of_beq_eq_false rfl) (lvK1 2 rfl (Nat.ne_of_beq_eq_false rfl) (Nat.ne_of_beq_eq_false rfl) (lvK2 3 rfl (Nat.ne_of_beq_eq_false rfl) rfl (lvK1 5 rfl (Nat.ne_of_beq_eq_false rfl) (Nat.ne_of_beq_eq_false rfl) lvK0))))) (fun ls hl => ?_)
          obtain ⟨a18, ea18, h⟩ := nm_some h
          have ra18 : R32 a18 := by rw [ea18]; exact w32_R _
          refine m_iinc (k := 5) (pc := 65) C dL_deadlines_65 hl rfl (by decide) ea18 (lvK2 0 rfl (Nat.ne_of_beq_eq_false rfl) rfl (lvK1 1 rfl (Nat.ne_of_beq_eq_false rfl) (Nat.ne_of_beq_eq_false rfl) (lvK1 2 rfl (Nat.ne_of_beq_eq_false rfl) (Nat.ne_of_beq_eq_false rfl) (lvK1 3 rfl (Nat.ne_of_beq_eq_false rfl) (Nat.ne_of_beq_eq_false rfl) (lvK1 4 rfl (Nat.ne_of_beq_eq_false rfl) (Nat.ne_of_beq_eq_false rfl) lvK0))))) (fun ls hl => ?_)
          refine m_goto (tgt := 18) (pc := 68) C dL_deadlines_68 (by decide) ?_
          exact ih _ _ _ _ _ _ _ h rx1 rx2 rx3 ra16 ra18 _ _ _ hM (lv_sub hl [2, 3, 4, 5, 1, 0] rfl)
set_option maxHeartbeats 4000000 in
set_option maxRecDepth 100000 in
theorem c_L_deadlines (l : Launch) (E : gE) (N : Nat) (x0 x1 : Int) (μ μ' : Mm) (r : Int) (h : f_L_deadlines N x0 x1 μ = some (r, μ')) (rx1 : R32 x1) : gMet l E yL_deadlines cL_deadlines 9 (some .boolean) 5 125 [vr E x0, vi x1] (some (vi r)) (R32 r) μ μ' 0 0 := by
  refine g_ofW [1, 1] (by first | (simp only [List.map_cons, List.map_nil, vr_cat]; done) | (simp only [List.map_cons, List.map_nil, vr_cat]; rfl)) (by decide) (by decide) (fun p e s m below meth c ls C hM hl => ?_)
  replace C : gCx p s m _ meth c cL_deadlines 9 (some .boolean) "deadlines" RL := C
  replace hl : lv_has ls 9 [(0, vr E x0), (1, vi x1)] := hl
  unfold f_L_deadlines at h
  refine m_aload_n (pc := 0) C dL_deadlines_0 rfl (lv_at hl 0 rfl) ?_
  obtain ⟨q1, h⟩ := ck_some h
  obtain ⟨a2, μ3, ca2, h⟩ := bd_some h
  refine V_X7_nextDeadline (pc := 1) C hM ca2 q1 bw_2_230 ⟨Nat.le_of_ble_eq_true rfl, Nat.le_of_ble_eq_true rfl⟩ hl.1 rc0 ⟨Nat.le_refl _, Nat.le_refl _⟩ dL_deadlines_1 (fun ra2 H locs hM => ?_)
  refine m_istore_n (pc := 4) C dL_deadlines_4 rfl hl (by decide) (lvK1 0 rfl (Nat.ne_of_beq_eq_false rfl) (Nat.ne_of_beq_eq_false rfl) (lvK2 1 rfl (Nat.ne_of_beq_eq_false rfl) rfl lvK0)) (fun ls hl => ?_)
  refine m_aload_n (pc := 5) C dL_deadlines_5 rfl (lv_at hl 1 rfl) ?_
  refine m_iconst (pc := 6) C dL_deadlines_6 ?_
  obtain ⟨q4, h⟩ := ck_some h
  obtain ⟨a5, μ6, ca5, h⟩ := bd_some h
  refine V_X7_count (pc := 7) C hM ca5 rk_0 q4 bw_3_4 ⟨Nat.le_of_ble_eq_true rfl, Nat.le_of_ble_eq_true rfl⟩ hl.1 rc0 ⟨Nat.le_refl _, Nat.le_refl _⟩ dL_deadlines_7 (fun ra5 H locs hM => ?_)
  refine m_istore_n (pc := 10) C dL_deadlines_10 rfl hl (by decide) (lvK2 0 rfl (Nat.ne_of_beq_eq_false rfl) rfl (lvK1 1 rfl (Nat.ne_of_beq_eq_false rfl) (Nat.ne_of_beq_eq_false rfl) (lvK1 2 rfl (Nat.ne_of_beq_eq_false rfl) (Nat.ne_of_beq_eq_false rfl) lvK0))) (fun ls hl => ?_)
  refine m_ldc (n := 1000000) (pc := 11) C bw_3_108 rfl dL_deadlines_11 ?_
  refine m_istore (pc := 13) C dL_deadlines_13 hl (by decide) (lvK2 0 rfl (Nat.ne_of_beq_eq_false rfl) rfl (lvK1 1 rfl (Nat.ne_of_beq_eq_false rfl) (Nat.ne_of_beq_eq_false rfl) (lvK1 2 rfl (Nat.ne_of_beq_eq_false rfl) (Nat.ne_of_beq_eq_false rfl) (lvK1 3 rfl (Nat.ne_of_beq_eq_false rfl) (Nat.ne_of_beq_eq_false rfl) lvK0)))) (fun ls hl => ?_)
  refine m_iconst (pc := 15) C dL_deadlines_15 ?_
  refine m_istore (pc := 16) C dL_deadlines_16 hl (by decide) (lvK2 0 rfl (Nat.ne_of_beq_eq_false rfl) rfl (lvK1 1 rfl (Nat.ne_of_beq_eq_false rfl) (Nat.ne_of_beq_eq_false rfl) (lvK1 2 rfl (Nat.ne_of_beq_eq_false rfl) (Nat.ne_of_beq_eq_false rfl) (lvK1 3 rfl (Nat.ne_of_beq_eq_false rfl) (Nat.ne_of_beq_eq_false rfl) (lvK1 4 rfl (Nat.ne_of_beq_eq_false rfl) (Nat.ne_of_beq_eq_false rfl) lvK0))))) (fun ls hl => ?_)
  exact k_L_deadlines_b18 C N N _ _ _ _ _ _ _ h rx1 ra2 ra5 rk_1000000 rk_0 _ _ _ hM (lv_sub hl [4, 5, 3, 2, 1, 0] rfl)
theorem hd_L_deadlines : yL_deadlines.cls ≠ "java/lang/invoke/MethodHandle" ∧ yL_deadlines.cls ≠ "java/lang/invoke/VarHandle" ∧ (parseMethodDescriptor yL_deadlines.desc).map (fun d => d.parameters.length) = some 2 := by decide +kernel

theorem V_L_deadlines {p : Program} {l : Launch} {e : Env} {R : Room} {s : State} {m : MethodId} {args : Array Value} {below : List Frame} {meth : Method} {c : Code} {H : Heap} {locs : List Loc} {cells slots : Nat} {Q : State → Prop} {cc : ByteArray} {pc nL : Nat} {ls : Array Slot} {rest : List Value} {ret : Option FieldType} {nmm own : String} {E : gE} {μ μ1 : Mm} {index : Nat} (C : gCx p s m args meth c cc nL ret nmm own) (hM : MS E μ s H locs) {N : Nat} {x0 x1 v : Int} (hc : f_L_deadlines N x0 x1 μ = some (v, μ1)) (rx1 : R32 x1) (h1 : Cond.methodLink own index yL_deadlines ∈ bigL) (hR : 6 ≤ R.frames ∧ 153 ≤ R.locals) (hl : ls.size = nL) (hcat : RC rest 8) (hf : cells + 0 ≤ R.cells ∧ slots + 0 ≤ R.slots) (hdg : decode cc pc = .ok (.invokestatic index, 3)) (kk : (R32 v) → ∀ (H1 : Heap) (locs1 : List Loc), MS E μ1 s H1 locs1 → W p l e R s m args below meth c H1 locs1 (cells + 0) (slots + 0) Q (F0 m (pc + 3) ls (vi v :: rest))) : W p l e R s m args below meth c H locs cells slots Q (F0 m pc ls (vi x1 :: vr E x0 :: rest)) := g_callS C hM (c_L_deadlines l E N x0 x1 μ μ1 v hc rx1) (gS h1 bw_3_106 bw_1_0 bw_3_107) hd_L_deadlines hR rfl hl rfl hcat hf hdg kk
end G11
