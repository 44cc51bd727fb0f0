section G13
variable {p : Program} {l : Launch} {e : Env} {R : Room} {s : State} {m : MethodId} {args : Array Value} {below : List Frame} {meth : Method} {c : Code} {E : gE}
/-! L_enters -/
def f_L_enters_b255 (N : Nat) (y0 y1 : Int) (μ : Mm) : Rs :=
  if ¬ y0 = y1 then
    (some (0, μ))
  else
  some (1, μ)
def f_L_enters_b222 (N : Nat) (x0 x3 x12 x13 : Int) (μ : Mm) : Rs :=
  if ¬ x13 = ((-100000003)) then
    (some (0, μ))
  else
  ck (μ x0 (-2) = 9) <|
  bd (f_X7_count N x0 11 μ) fun a3 μ4 =>
  if x12 = 0 then
    (if ¬ x3 = 30 then
       (f_L_enters_b255 N a3 2 μ4)
     else
     f_L_enters_b255 N a3 5 μ4)
  else
  f_L_enters_b255 N a3 1 μ4
def f_L_enters_b190 (N : Nat) (x0 x3 x4 x5 x6 x7 x8 x11 y0 : Int) (μ : Mm) : Rs :=
  ck (μ x0 (-2) = 9) <|
  bd (f_X7_enter N x0 x4 x5 x6 x7 μ) fun a2 μ3 =>
  if ¬ y0 = 0 then
    (f_L_enters_b222 N x0 x3 y0 a2 μ3)
  else
  if x3 = 30 then
    (f_L_enters_b222 N x0 x3 y0 a2 μ3)
  else
  if ¬ x11 = 0 then
    (if ¬ a2 = x3 then
       (some (0, μ3))
     else
     ck (μ3 x0 (-2) = 9) <|
     bd (f_X7_lot N x0 a2 0 μ3) fun a9 μ10 =>
     if ¬ a9 = x4 then
       (some (0, μ10))
     else
     ck (μ10 x0 (-2) = 9) <|
     bd (f_X7_lot N x0 a2 1 μ10) fun a13 μ14 =>
     if ¬ a13 = x5 then
       (some (0, μ14))
     else
     ck (μ14 x0 (-2) = 9) <|
     bd (f_X7_lot N x0 a2 2 μ14) fun a17 μ18 =>
     if ¬ a17 = x6 then
       (some (0, μ18))
     else
     ck (μ18 x0 (-2) = 9) <|
     bd (f_X7_lot N x0 a2 3 μ18) fun a21 μ22 =>
     if ¬ a21 = x7 then
       (some (0, μ22))
     else
     ck (μ22 x0 (-2) = 9) <|
     bd (f_X7_lot N x0 a2 4 μ22) fun a25 μ26 =>
     ck (μ26 x0 (-2) = 9) <|
     bd (f_X7_count N x0 0 μ26) fun a28 μ29 =>
     if ¬ a25 = a28 then
       (some (0, μ29))
     else
     ck (μ29 x0 (-2) = 9) <|
     bd (f_X7_lot N x0 a2 5 μ29) fun a32 μ33 =>
     ck (μ33 x0 (-2) = 9) <|
     bd (f_X7_count N x0 0 μ33) fun a35 μ36 =>
     ck (μ36 x0 (-2) = 9) <|
     bd (f_X7_count N x0 6 μ36) fun a38 μ39 =>
     nm (w32 (a35 + a38)) fun a40 =>
     if ¬ a32 = a40 then
       (some (0, μ39))
     else
     ck (μ39 x0 (-2) = 9) <|
     bd (f_X7_lot N x0 a2 6 μ39) fun a43 μ44 =>
     if ¬ a43 = x8 then
       (some (0, μ44))
     else
     ck (μ44 x0 (-2) = 9) <|
     bd (f_X7_lot N x0 a2 7 μ44) fun a47 μ48 =>
     if ¬ a47 = x6 then
       (some (0, μ48))
     else
     ck (μ48 x0 (-2) = 9) <|
     bd (f_X7_enter N x0 x4 6 1 0 μ48) fun a51 μ52 =>
     if ¬ a51 = ((-100000001)) then
       (some (0, μ52))
     else
     ck (μ52 x0 (-2) = 9) <|
     bd (f_X7_enter N x0 x4 0 0 0 μ52) fun a55 μ56 =>
     if ¬ a55 = ((-100000002)) then
       (some (0, μ56))
     else
     ck (μ56 x0 (-2) = 9) <|
     bd (f_X7_enter N x0 x4 0 1 10000001 μ56) fun a59 μ60 =>
     if ¬ a59 = ((-100000002)) then
       (some (0, μ60))
     else
     some (1, μ60))
  else
  f_L_enters_b222 N x0 x3 y0 a2 μ3
def f_L_enters_b171 (N : Nat) (x0 x3 x4 x5 x6 x7 x8 y0 : Int) (μ : Mm) : Rs :=
  ck (μ x0 (-2) = 9) <|
  bd (f_X7_owner N x0 x4 2 μ) fun a2 μ3 =>
  if a2 ≤ 0 then
    (f_L_enters_b190 N x0 x3 x4 x5 x6 x7 x8 y0 0 μ3)
  else
  f_L_enters_b190 N x0 x3 x4 x5 x6 x7 x8 y0 1 μ3
def f_L_enters_b105 (N : Nat) (x0 x3 x4 x5 x6 y0 y1 : Int) (μ : Mm) : Rs :=
  bd (f_L_low N y0 y1 μ) fun a1 μ2 =>
  ck (μ2 x0 (-2) = 9) <|
  bd (f_X7_rate N x0 x5 μ2) fun a4 μ5 =>
  nm (w64 (a1 * a4)) fun a6 =>
  nm (w64 (Int.tdiv a6 1000)) fun a7 =>
  nm (w32 a7) fun a9 =>
  ck (μ5 x0 (-2) = 9) <|
  bd (f_X7_owner N x0 x4 3 μ5) fun a11 μ12 =>
  nm (w64 (a11 + a9)) fun a13 =>
  ck (μ12 x0 (-2) = 9) <|
  bd (f_X7_count N x0 8 μ12) fun a15 μ16 =>
  nm (w64 (a13 * a15)) fun a17 =>
  nm (w64 (Int.tdiv a17 100)) fun a18 =>
  ck (μ16 x0 (-2) = 9) <|
  bd (f_X7_owner N x0 x4 1 μ16) fun a21 μ22 =>
  if a21 < a18 then
    (f_L_enters_b171 N x0 x3 x4 x5 x6 a1 a9 0 μ22)
  else
  f_L_enters_b171 N x0 x3 x4 x5 x6 a1 a9 1 μ22
def f_L_enters_b81 (N : Nat) (x0 x1 x2 x3 x4 x5 y0 y1 y2 : Int) (μ : Mm) : Rs :=
  bd (f_L_low N y1 y2 μ) fun a1 μ2 =>
  nm (w32 (y0 + a1)) fun a3 =>
  nm (o_shr x2 3) fun a4 =>
  nm (o_and x1 64) fun a5 =>
  if ¬ a5 = 0 then
    (f_L_enters_b105 N x0 x3 x4 x5 a3 a4 3000000 μ2)
  else
  f_L_enters_b105 N x0 x3 x4 x5 a3 a4 20000 μ2
def f_L_enters (N : Nat) (x0 x1 x2 : Int) (μ : Mm) : Rs :=
  ck (μ x0 (-2) = 9) <|
  bd (f_X7_count N x0 2 μ) fun a2 μ3 =>
  ck (μ3 x0 (-2) = 9) <|
  bd (f_X7_count N x0 1 μ3) fun a5 μ6 =>
  if ¬ a5 = 0 then
    (ck (μ6 x0 (-2) = 9) <|
     bd (f_X7_count N x0 1 μ6) fun a9 μ10 =>
     bd (f_L_low N x1 a9 μ10) fun a11 μ12 =>
     nm (o_shr x1 3) fun a13 =>
     bd (f_L_low N a13 6 μ12) fun a14 μ15 =>
     nm (o_and x2 1) fun a16 =>
     if ¬ a16 = 0 then
       (f_L_enters_b81 N x0 x1 x2 a2 a11 a14 1 x2 2000 μ15)
     else
     f_L_enters_b81 N x0 x1 x2 a2 a11 a14 1 x2 30 μ15)
  else
  ck (μ6 x0 (-2) = 9) <|
  bd (f_X7_enter N x0 0 0 1 0 μ6) fun a19 μ20 =>
  if ¬ a19 = ((-100000001)) then
    (some (0, μ20))
  else
  ck (μ20 x0 (-2) = 9) <|
  bd (f_X7_deposit N x0 0 1 μ20) fun a23 μ24 =>
  if ¬ a23 = ((-100000001)) then
    (some (0, μ24))
  else
  some (1, μ24)
set_option maxHeartbeats 4000000 in
set_option maxRecDepth 100000 in
theorem k_L_enters_b255 (C : gCx p s m args meth c cL_enters 14 (some .boolean) "enters" RL) (N : Nat) {r : Int} {μ' : Mm} : ∀ (y0 y1 : Int) (μ : Mm), f_L_enters_b255 N y0 y1 μ = some (r, μ') → R32 y0 → R32 y1 → ∀ (H : Heap) (locs : List Loc) (ls : Array Slot), MS E μ s H locs → lv_has ls 14 [] → W p l e ({ frames := 5, cells := 0, slots := 0, locals := 128 } : Room) s m args below meth c H locs 0 0 (MQ below (gQ E (some (vi r)) (R32 r) μ') args s 0 0 (gA E)) (F0 m 255 ls [vi y1, vi y0]) := by
  intro y0 y1 μ h ry0 ry1 H locs ls hM hl
  unfold f_L_enters_b255 at h
  refine m_icmp_ne (tgt := 262) (pc := 255) C ry0 ry1 dL_enters_255 (by decide) (fun c1 => ?_) (fun c1 => ?_)
  · have h := if_t h c1
    refine m_iconst (pc := 262) C dL_enters_262 ?_
    cases h
    exact m_zret (pc := 263) C rfl hM rk_0 dL_enters_263
  · have h := if_f h c1
    refine m_iconst (pc := 258) C dL_enters_258 ?_
    refine m_goto (tgt := 263) (pc := 259) C dL_enters_259 (by decide) ?_
    cases h
    exact m_zret (pc := 263) C rfl hM rk_1 dL_enters_263
set_option maxHeartbeats 4000000 in
set_option maxRecDepth 100000 in
theorem k_L_enters_b222 (C : gCx p s m args meth c cL_enters 14 (some .boolean) "enters" RL) (N : Nat) {r : Int} {μ' : Mm} : ∀ (x0 x3 x12 x13 : Int) (μ : Mm), f_L_enters_b222 N x0 x3 x12 x13 μ = some (r, μ') → R32 x3 → R32 x12 → R32 x13 → ∀ (H : Heap) (locs : List Loc) (ls : Array Slot), MS E μ s H locs → lv_has ls 14 [(0, vr E x0), (3, vi x3), (12, vi x12), (13, vi x13)] → W p l e ({ frames := 5, cells := 0, slots := 0, locals := 128 } : Room) s m args below meth c H locs 0 0 (MQ below (gQ E (some (vi r)) (R32 r) μ') args s 0 0 (gA E)) (F0 m 222 ls []) := by
  intro x0 x3 x12 x13 μ h rx3 rx12 rx13 H locs ls hM hl
  unfold f_L_enters_b222 at h
  refine m_iload (pc := 222) C dL_enters_222 (lv_at hl 3 rfl) ?_
  refine m_ldc (n := -100000003) (pc := 224) C bw_4_109 rfl dL_enters_224 ?_
  refine m_icmp_ne (tgt := 262) (pc := 226) C rx13 rk_m100000003 dL_enters_226 (by decide) (fun c1 => ?_) (fun c1 => ?_)
  · have h := if_t h c1
    refine m_iconst (pc := 262) C dL_enters_262 ?_
    cases h
    exact m_zret (pc := 263) C rfl hM rk_0 dL_enters_263
  · have h := if_f h c1
    refine m_aload_n (pc := 229) C dL_enters_229 rfl (lv_at hl 0 rfl) ?_
    refine m_bipush (pc := 230) C dL_enters_230 rfl ?_
    obtain ⟨q2, h⟩ := ck_some h
    obtain ⟨a3, μ4, ca3, h⟩ := bd_some h
    refine V_X7_count (pc := 232) C hM ca3 rk_11 q2 bw_3_4 ⟨Nat.le_of_ble_eq_true rfl, Nat.le_of_ble_eq_true rfl⟩ hl.1 rc0 ⟨Nat.le_refl _, Nat.le_refl _⟩ dL_enters_232 (fun ra3 H locs hM => ?_)
    refine m_iload (pc := 235) C dL_enters_235 (lv_at hl 2 rfl) ?_
    refine m_if_eq (tgt := 244) (pc := 237) C rx12 dL_enters_237 (by decide) (fun c5 => ?_) (fun c5 => ?_)
    · have h := if_t h c5
      refine m_iload_n (pc := 244) C dL_enters_244 rfl (lv_at hl 1 rfl) ?_
      refine m_bipush (pc := 245) C dL_enters_245 rfl ?_
      refine m_icmp_ne (tgt := 254) (pc := 247) C rx3 rk_30 dL_enters_247 (by decide) (fun c6 => ?_) (fun c6 => ?_)
      · have h := if_t h c6
        refine m_iconst (pc := 254) C dL_enters_254 ?_
        exact k_L_enters_b255 C N _ _ _ h ra3 rk_2 _ _ _ hM (lv_sub hl [] rfl)
      · have h := if_f h c6
        refine m_iconst (pc := 250) C dL_enters_250 ?_
        refine m_goto (tgt := 255) (pc := 251) C dL_enters_251 (by decide) ?_
        exact k_L_enters_b255 C N _ _ _ h ra3 rk_5 _ _ _ hM (lv_sub hl [] rfl)
    · have h := if_f h c5
      refine m_iconst (pc := 240) C dL_enters_240 ?_
      refine m_goto (tgt := 255) (pc := 241) C dL_enters_241 (by decide) ?_
      exact k_L_enters_b255 C N _ _ _ h ra3 rk_1 _ _ _ hM (lv_sub hl [] rfl)
set_option maxHeartbeats 4000000 in
set_option maxRecDepth 100000 in
theorem k_L_enters_b190 (C : gCx p s m args meth c cL_enters 14 (some .boolean) "enters" RL) (N : Nat) {r : Int} {μ' : Mm} : ∀ (x0 x3 x4 x5 x6 x7 x8 x11 y0 : Int) (μ : Mm), f_L_enters_b190 N x0 x3 x4 x5 x6 x7 x8 x11 y0 μ = some (r, μ') → R32 x3 → R32 x4 → R32 x5 → R32 x6 → R32 x7 → R32 x8 → R32 x11 → R32 y0 → ∀ (H : Heap) (locs : List Loc) (ls : Array Slot), MS E μ s H locs → lv_has ls 14 [(0, vr E x0), (3, vi x3), (4, vi x4), (5, vi x5), (6, vi x6), (7, vi x7), (8, vi x8), (11, vi x11)] → W p l e ({ frames := 5, cells := 0, slots := 0, locals := 128 } : Room) s m args below meth c H locs 0 0 (MQ below (gQ E (some (vi r)) (R32 r) μ') args s 0 0 (gA E)) (F0 m 190 ls [vi y0]) := by
  intro x0 x3 x4 x5 x6 x7 x8 x11 y0 μ h rx3 rx4 rx5 rx6 rx7 rx8 rx11 ry0 H locs ls hM hl
  unfold f_L_enters_b190 at h
  refine m_istore (pc := 190) C dL_enters_190 hl (by decide) (lvK1 0 rfl (Nat.ne_of_beq_eq_false rfl) (Nat.ne_of_beq_eq_false rfl) (lvK1 1 rfl (Nat.ne_of_beq_eq_false rfl) (Nat.ne_of_beq_eq_false rfl) (lvK1 2 rfl (Nat.ne_of_beq_eq_false rfl) (Nat.ne_of_beq_eq_false rfl) (lvK1 3 rfl (Nat.ne_of_beq_eq_false rfl) (Nat.ne_of_beq_eq_false rfl) (lvK1 4 rfl (Nat.ne_of_beq_eq_false rfl) (Nat.ne_of_beq_eq_false rfl) (lvK1 5 rfl (Nat.ne_of_beq_eq_false rfl) (Nat.ne_of_beq_eq_false rfl) (lvK1 6 rfl (Nat.ne_of_beq_eq_false rfl) (Nat.ne_of_beq_eq_false rfl) (lvK2 7 rfl (Nat.ne_of_beq_eq_false rfl) rfl lvK0)))))))) (fun ls hl => ?_)
  refine m_aload_n (pc := 192) C dL_enters_192 rfl (lv_at hl 1 rfl) ?_
  refine m_iload (pc := 193) C dL_enters_193 (lv_at hl 3 rfl) ?_
  refine m_iload (pc := 195) C dL_enters_195 (lv_at hl 4 rfl) ?_
  refine m_iload (pc := 197) C dL_enters_197 (lv_at hl 5 rfl) ?_
  refine m_iload (pc := 199) C dL_enters_199 (lv_at hl 6 rfl) ?_
  obtain ⟨q1, h⟩ := ck_some h
  obtain ⟨a2, μ3, ca2, h⟩ := bd_some h
  refine V_X7_enter (pc := 201) C hM ca2 rx4 rx5 rx6 rx7 q1 bw_4_113 ⟨Nat.le_of_ble_eq_true rfl, Nat.le_of_ble_eq_true rfl⟩ hl.1 rc0 ⟨Nat.le_refl _, Nat.le_refl _⟩ dL_enters_201 (fun ra2 H locs hM => ?_)
  refine m_istore (pc := 204) C dL_enters_204 hl (by decide) (lvK2 0 rfl (Nat.ne_of_beq_eq_false rfl) rfl (lvK1 1 rfl (Nat.ne_of_beq_eq_false rfl) (Nat.ne_of_beq_eq_false rfl) (lvK1 2 rfl (Nat.ne_of_beq_eq_false rfl) (Nat.ne_of_beq_eq_false rfl) (lvK1 3 rfl (Nat.ne_of_beq_eq_false rfl) (Nat.ne_of_beq_eq_false rfl) (lvK1 4 rfl (Nat.ne_of_beq_eq_false rfl) (Nat.ne_of_beq_eq_false rfl) (lvK1 5 rfl (Nat.ne_of_beq_eq_false rfl) (Nat.ne_of_beq_eq_false rfl) (lvK1 6 rfl (Nat.ne_of_beq_eq_false rfl) (Nat.ne_of_beq_eq_false rfl) (lvK1 7 rfl (Nat.ne_of_beq_eq_false rfl) (Nat.ne_of_beq_eq_false rfl) (lvK1 8 rfl (Nat.ne_of_beq_eq_false rfl) (Nat.ne_of_beq_eq_false rfl) lvK0))))))))) (fun ls hl => ?_)
  refine m_iload (pc := 206) C dL_enters_206 (lv_at hl 1 rfl) ?_
  refine m_if_ne (tgt := 222) (pc := 208) C ry0 dL_enters_208 (by decide) (fun c4 => ?_) (fun c4 => ?_)
  · have h := if_t h c4
    exact k_L_enters_b222 C N _ _ _ _ _ h rx3 ry0 ra2 _ _ _ hM (lv_sub hl [2, 3, 1, 0] rfl)
  · have h := if_f h c4
    refine m_iload_n (pc := 211) C dL_enters_211 rfl (lv_at hl 3 rfl) ?_
    refine m_bipush (pc := 212) C dL_enters_212 rfl ?_
    refine m_icmp_eq (tgt := 222) (pc := 214) C rx3 rk_30 dL_enters_214 (by decide) (fun c5 => ?_) (fun c5 => ?_)
    · have h := if_t h c5
      exact k_L_enters_b222 C N _ _ _ _ _ h rx3 ry0 ra2 _ _ _ hM (lv_sub hl [2, 3, 1, 0] rfl)
    · have h := if_f h c5
      refine m_iload (pc := 217) C dL_enters_217 (lv_at hl 9 rfl) ?_
      refine m_if_ne (tgt := 264) (pc := 219) C rx11 dL_enters_219 (by decide) (fun c6 => ?_) (fun c6 => ?_)
      · have h := if_t h c6
        refine m_iload (pc := 264) C dL_enters_264 (lv_at hl 0 rfl) ?_
        refine m_iload_n (pc := 266) C dL_enters_266 rfl (lv_at hl 3 rfl) ?_
        refine m_icmp_ne (tgt := 429) (pc := 267) C ra2 rx3 dL_enters_267 (by decide) (fun c7 => ?_) (fun c7 => ?_)
        · have h := if_t h c7
          refine m_iconst (pc := 429) C dL_enters_429 ?_
          cases h
          exact m_zret (pc := 430) C rfl hM rk_0 dL_enters_430
        · have h := if_f h c7
          refine m_aload_n (pc := 270) C dL_enters_270 rfl (lv_at hl 2 rfl) ?_
          refine m_iload (pc := 271) C dL_enters_271 (lv_at hl 0 rfl) ?_
          refine m_iconst (pc := 273) C dL_enters_273 ?_
          obtain ⟨q8, h⟩ := ck_some h
          obtain ⟨a9, μ10, ca9, h⟩ := bd_some h
          refine V_X7_lot (pc := 274) C hM ca9 ra2 rk_0 q8 bw_3_54 ⟨Nat.le_of_ble_eq_true rfl, Nat.le_of_ble_eq_true rfl⟩ hl.1 rc0 ⟨Nat.le_refl _, Nat.le_refl _⟩ dL_enters_274 (fun ra9 H locs hM => ?_)
          refine m_iload (pc := 277) C dL_enters_277 (lv_at hl 4 rfl) ?_
          refine m_icmp_ne (tgt := 429) (pc := 279) C ra9 rx4 dL_enters_279 (by decide) (fun c11 => ?_) (fun c11 => ?_)
          · have h := if_t h c11
            refine m_iconst (pc := 429) C dL_enters_429 ?_
            cases h
            exact m_zret (pc := 430) C rfl hM rk_0 dL_enters_430
          · have h := if_f h c11
            refine m_aload_n (pc := 282) C dL_enters_282 rfl (lv_at hl 2 rfl) ?_
            refine m_iload (pc := 283) C dL_enters_283 (lv_at hl 0 rfl) ?_
            refine m_iconst (pc := 285) C dL_enters_285 ?_
            obtain ⟨q12, h⟩ := ck_some h
            obtain ⟨a13, μ14, ca13, h⟩ := bd_some h
            refine V_X7_lot (pc := 286) C hM ca13 ra2 rk_1 q12 bw_3_54 ⟨Nat.le_of_ble_eq_true rfl, Nat.le_of_ble_eq_true rfl⟩ hl.1 rc0 ⟨Nat.le_refl _, Nat.le_refl _⟩ dL_enters_286 (fun ra13 H locs hM => ?_)
            refine m_iload (pc := 289) C dL_enters_289 (lv_at hl 5 rfl) ?_
            refine m_icmp_ne (tgt := 429) (pc := 291) C ra13 rx5 dL_enters_291 (by decide) (fun c15 => ?_) (fun c15 => ?_)
            · have h := if_t h c15
              refine m_iconst (pc := 429) C dL_enters_429 ?_
              cases h
              exact m_zret (pc := 430) C rfl hM rk_0 dL_enters_430
            · have h := if_f h c15
              refine m_aload_n (pc := 294) C dL_enters_294 rfl (lv_at hl 2 rfl) ?_
              refine m_iload (pc := 295) C dL_enters_295 (lv_at hl 0 rfl) ?_
              refine m_iconst (pc := 297) C dL_enters_297 ?_
              obtain ⟨q16, h⟩ := ck_some h
              obtain ⟨a17, μ18, ca17, h⟩ := bd_some h
              refine V_X7_lot (pc := 298) C hM ca17 ra2 rk_2 q16 bw_3_54 ⟨Nat.le_of_ble_eq_true rfl, Nat.le_of_ble_eq_true rfl⟩ hl.1 rc0 ⟨Nat.le_refl _, Nat.le_refl _⟩ dL_enters_298 (fun ra17 H locs hM => ?_)
              refine m_iload (pc := 301) C dL_enters_301 (lv_at hl 6 rfl) ?_
              refine m_icmp_ne (tgt := 429) (pc := 303) C ra17 rx6 dL_enters_303 (by decide) (fun c19 => ?_) (fun c19 => ?_)
              · have h := if_t h c19
                refine m_iconst (pc := 429) C dL_enters_429 ?_
                cases h
                exact m_zret (pc := 430) C rfl hM rk_0 dL_enters_430
              · have h := if_f h c19
                refine m_aload_n (pc := 306) C dL_enters_306 rfl (lv_at hl 2 rfl) ?_
                refine m_iload (pc := 307) C dL_enters_307 (lv_at hl 0 rfl) ?_
                refine m_iconst (pc := 309) C dL_enters_309 ?_
                obtain ⟨q20, h⟩ := ck_some h
                obtain ⟨a21, μ22, ca21, h⟩ := bd_some h
                refine V_X7_lot (pc := 310) C hM ca21 ra2 rk_3 q20 bw_3_54 ⟨Nat.le_of_ble_eq_true rfl, Nat.le_of_ble_eq_true rfl⟩ hl.1 rc0 ⟨Nat.le_refl _, Nat.le_refl _⟩ dL_enters_310 (fun ra21 H locs hM => ?_)
                refine m_iload (pc := 313) C dL_enters_313 (lv_at hl 7 rfl) ?_
                refine m_icmp_ne (tgt := 429) (pc := 315) C ra21 rx7 dL_enters_315 (by decide) (fun c23 => ?_) (fun c23 => ?_)
                · have h := if_t h c23
                  refine m_iconst (pc := 429) C dL_enters_429 ?_
                  cases h
                  exact m_zret (pc := 430) C rfl hM rk_0 dL_enters_430
                · have h := if_f h c23
                  refine m_aload_n (pc := 318) C dL_enters_318 rfl (lv_at hl 2 rfl) ?_
                  refine m_iload (pc := 319) C dL_enters_319 (lv_at hl 0 rfl) ?_
                  refine m_iconst (pc := 321) C dL_enters_321 ?_
                  obtain ⟨q24, h⟩ := ck_some h
                  obtain ⟨a25, μ26, ca25, h⟩ := bd_some h
                  refine V_X7_lot (pc := 322) C hM ca25 ra2 rk_4 q24 bw_3_54 ⟨Nat.le_of_ble_eq_true rfl, Nat.le_of_ble_eq_true rfl⟩ hl.1 rc0 ⟨Nat.le_refl _, Nat.le_refl _⟩ dL_enters_322 (fun ra25 H locs hM => ?_)
                  refine m_aload_n (pc := 325) C dL_enters_325 rfl (lv_at hl 2 rfl) ?_
                  refine m_iconst (pc := 326) C dL_enters_326 ?_
                  obtain ⟨q27, h⟩ := ck_some h
                  obtain ⟨a28, μ29, ca28, h⟩ := bd_some h
                  refine V_X7_count (pc := 327) C hM ca28 rk_0 q27 bw_3_4 ⟨Nat.le_of_ble_eq_true rfl, Nat.le_of_ble_eq_true rfl⟩ hl.1 (rcI rc0) ⟨Nat.le_refl _, Nat.le_refl _⟩ dL_enters_327 (fun ra28 H locs hM => ?_)
                  refine m_icmp_ne (tgt := 429) (pc := 330) C ra25 ra28 dL_enters_330 (by decide) (fun c30 => ?_) (fun c30 => ?_)
                  · have h := if_t h c30
                    refine m_iconst (pc := 429) C dL_enters_429 ?_
                    cases h
                    exact m_zret (pc := 430) C rfl hM rk_0 dL_enters_430
                  · have h := if_f h c30
                    refine m_aload_n (pc := 333) C dL_enters_333 rfl (lv_at hl 2 rfl) ?_
                    refine m_iload (pc := 334) C dL_enters_334 (lv_at hl 0 rfl) ?_
                    refine m_iconst (pc := 336) C dL_enters_336 ?_
                    obtain ⟨q31, h⟩ := ck_some h
                    obtain ⟨a32, μ33, ca32, h⟩ := bd_some h
                    refine V_X7_lot (pc := 337) C hM ca32 ra2 rk_5 q31 bw_3_54 ⟨Nat.le_of_ble_eq_true rfl, Nat.le_of_ble_eq_true rfl⟩ hl.1 rc0 ⟨Nat.le_refl _, Nat.le_refl _⟩ dL_enters_337 (fun ra32 H locs hM => ?_)
                    refine m_aload_n (pc := 340) C dL_enters_340 rfl (lv_at hl 2 rfl) ?_
                    refine m_iconst (pc := 341) C dL_enters_341 ?_
                    obtain ⟨q34, h⟩ := ck_some h
                    obtain ⟨a35, μ36, ca35, h⟩ := bd_some h
                    refine V_X7_count (pc := 342) C hM ca35 rk_0 q34 bw_3_4 ⟨Nat.le_of_ble_eq_true rfl, Nat.le_of_ble_eq_true rfl⟩ hl.1 (rcI rc0) ⟨Nat.le_refl _, Nat.le_refl _⟩ dL_enters_342 (fun ra35 H locs hM => ?_)
                    refine m_aload_n (pc := 345) C dL_enters_345 rfl (lv_at hl 2 rfl) ?_
                    refine m_bipush (pc := 346) C dL_enters_346 rfl ?_
                    obtain ⟨q37, h⟩ := ck_some h
                    obtain ⟨a38, μ39, ca38, h⟩ := bd_some h
                    refine V_X7_count (pc := 348) C hM ca38 rk_6 q37 bw_3_4 ⟨Nat.le_of_ble_eq_true rfl, Nat.le_of_ble_eq_true rfl⟩ hl.1 (rcI (rcI rc0)) ⟨Nat.le_refl _, Nat.le_refl _⟩ dL_enters_348 (fun ra38 H locs hM => ?_)
                    obtain ⟨a40, ea40, h⟩ := nm_some h
                    have ra40 : R32 a40 := by rw [ea40]; exact w32_R _
                    refine m_iadd (pc := 351) C dL_enters_351 ea40 ?_
                    refine m_icmp_ne (tgt := 429) (pc := 352) C ra32 ra40 dL_enters_352 (by decide) (fun c41 => ?_) (fun c41 => ?_)
                    · have h := if_t h c41
                      refine m_iconst (pc := 429) C dL_enters_429 ?_
                      cases h
                      exact m_zret (pc := 430) C rfl hM rk_0 dL_enters_430
                    · have h := if_f h c41
                      refine m_aload_n (pc := 355) C dL_enters_355 rfl (lv_at hl 2 rfl) ?_
                      refine m_iload (pc := 356) C dL_enters_356 (lv_at hl 0 rfl) ?_
                      refine m_bipush (pc := 358) C dL_enters_358 rfl ?_
                      obtain ⟨q42, h⟩ := ck_some h
                      obtain ⟨a43, μ44, ca43, h⟩ := bd_some h
                      refine V_X7_lot (pc := 360) C hM ca43 ra2 rk_6 q42 bw_3_54 ⟨Nat.le_of_ble_eq_true rfl, Nat.le_of_ble_eq_true rfl⟩ hl.1 rc0 ⟨Nat.le_refl _, Nat.le_refl _⟩ dL_enters_360 (fun ra43 H locs hM => ?_)
                      refine m_iload (pc := 363) C dL_enters_363 (lv_at hl 8 rfl) ?_
                      refine m_icmp_ne (tgt := 429) (pc := 365) C ra43 rx8 dL_enters_365 (by decide) (fun c45 => ?_) (fun c45 => ?_)
                      · have h := if_t h c45
                        refine m_iconst (pc := 429) C dL_enters_429 ?_
                        cases h
                        exact m_zret (pc := 430) C rfl hM rk_0 dL_enters_430
                      · have h := if_f h c45
                        refine m_aload_n (pc := 368) C dL_enters_368 rfl (lv_at hl 2 rfl) ?_
                        refine m_iload (pc := 369) C dL_enters_369 (lv_at hl 0 rfl) ?_
                        refine m_bipush (pc := 371) C dL_enters_371 rfl ?_
                        obtain ⟨q46, h⟩ := ck_some h
                        obtain ⟨a47, μ48, ca47, h⟩ := bd_some h
                        refine V_X7_lot (pc := 373) C hM ca47 ra2 rk_7 q46 bw_3_54 ⟨Nat.le_of_ble_eq_true rfl, Nat.le_of_ble_eq_true rfl⟩ hl.1 rc0 ⟨Nat.le_refl _, Nat.le_refl _⟩ dL_enters_373 (fun ra47 H locs hM => ?_)
                        refine m_iload (pc := 376) C dL_enters_376 (lv_at hl 6 rfl) ?_
                        refine m_icmp_ne (tgt := 429) (pc := 378) C ra47 rx6 dL_enters_378 (by decide) (fun c49 => ?_) (fun c49 => ?_)
                        · have h := if_t h c49
                          refine m_iconst (pc := 429) C dL_enters_429 ?_
                          cases h
                          exact m_zret (pc := 430) C rfl hM rk_0 dL_enters_430
                        · have h := if_f h c49
                          refine m_aload_n (pc := 381) C dL_enters_381 rfl (lv_at hl 2 rfl) ?_
                          refine m_iload (pc := 382) C dL_enters_382 (lv_at hl 4 rfl) ?_
                          refine m_bipush (pc := 384) C dL_enters_384 rfl ?_
                          refine m_iconst (pc := 386) C dL_enters_386 ?_
                          refine m_iconst (pc := 387) C dL_enters_387 ?_
                          obtain ⟨q50, h⟩ := ck_some h
                          obtain ⟨a51, μ52, ca51, h⟩ := bd_some h
                          refine V_X7_enter (pc := 388) C hM ca51 rx4 rk_6 rk_1 rk_0 q50 bw_4_113 ⟨Nat.le_of_ble_eq_true rfl, Nat.le_of_ble_eq_true rfl⟩ hl.1 rc0 ⟨Nat.le_refl _, Nat.le_refl _⟩ dL_enters_388 (fun ra51 H locs hM => ?_)
                          refine m_ldc (n := -100000001) (pc := 391) C bw_3_85 rfl dL_enters_391 ?_
                          refine m_icmp_ne (tgt := 429) (pc := 393) C ra51 rk_m100000001 dL_enters_393 (by decide) (fun c53 => ?_) (fun c53 => ?_)
                          · have h := if_t h c53
                            refine m_iconst (pc := 429) C dL_enters_429 ?_
                            cases h
                            exact m_zret (pc := 430) C rfl hM rk_0 dL_enters_430
                          · have h := if_f h c53
                            refine m_aload_n (pc := 396) C dL_enters_396 rfl (lv_at hl 2 rfl) ?_
                            refine m_iload (pc := 397) C dL_enters_397 (lv_at hl 4 rfl) ?_
                            refine m_iconst (pc := 399) C dL_enters_399 ?_
                            refine m_iconst (pc := 400) C dL_enters_400 ?_
                            refine m_iconst (pc := 401) C dL_enters_401 ?_
                            obtain ⟨q54, h⟩ := ck_some h
                            obtain ⟨a55, μ56, ca55, h⟩ := bd_some h
                            refine V_X7_enter (pc := 402) C hM ca55 rx4 rk_0 rk_0 rk_0 q54 bw_4_113 ⟨Nat.le_of_ble_eq_true rfl, Nat.le_of_ble_eq_true rfl⟩ hl.1 rc0 ⟨Nat.le_refl _, Nat.le_refl _⟩ dL_enters_402 (fun ra55 H locs hM => ?_)
                            refine m_ldc (n := -100000002) (pc := 405) C bw_3_83 rfl dL_enters_405 ?_
                            refine m_icmp_ne (tgt := 429) (pc := 407) C ra55 rk_m100000002 dL_enters_407 (by decide) (fun c57 => ?_) (fun c57 => ?_)
                            · have h := if_t h c57
                              refine m_iconst (pc := 429) C dL_enters_429 ?_
                              cases h
                              exact m_zret (pc := 430) C rfl hM rk_0 dL_enters_430
                            · have h := if_f h c57
                              refine m_aload_n (pc := 410) C dL_enters_410 rfl (lv_at hl 2 rfl) ?_
                              refine m_iload (pc := 411) C dL_enters_411 (lv_at hl 4 rfl) ?_
                              refine m_iconst (pc := 413) C dL_enters_413 ?_
                              refine m_iconst (pc := 414) C dL_enters_414 ?_
                              refine m_ldc (n := 10000001) (pc := 415) C bw_4_131 rfl dL_enters_415 ?_
                              obtain ⟨q58, h⟩ := ck_some h
                              obtain ⟨a59, μ60, ca59, h⟩ := bd_some h
                              refine V_X7_enter (pc := 417) C hM ca59 rx4 rk_0 rk_1 rk_10000001 q58 bw_4_113 ⟨Nat.le_of_ble_eq_true rfl, Nat.le_of_ble_eq_true rfl⟩ hl.1 rc0 ⟨Nat.le_refl _, Nat.le_refl _⟩ dL_enters_417 (fun ra59 H locs hM => ?_)
                              refine m_ldc (n := -100000002) (pc := 420) C bw_3_83 rfl dL_enters_420 ?_
                              refine m_icmp_ne (tgt := 429) (pc := 422) C ra59 rk_m100000002 dL_enters_422 (by decide) (fun c61 => ?_) (fun c61 => ?_)
                              · have h := if_t h c61
                                refine m_iconst (pc := 429) C dL_enters_429 ?_
                                cases h
                                exact m_zret (pc := 430) C rfl hM rk_0 dL_enters_430
                              · have h := if_f h c61
                                refine m_iconst (pc := 425) C dL_enters_425 ?_
                                refine m_goto (tgt := 430) (pc := 426) C dL_enters_426 (by decide) ?_
                                cases h
                                exact m_zret (pc := 430) C rfl hM rk_1 dL_enters_430
      · have h := if_f h c6
        exact k_L_enters_b222 C N _ _ _ _ _ h rx3 ry0 ra2 _ _ _ hM (lv_sub hl [2, 3, 1, 0] rfl)
set_option maxHeartbeats 4000000 in
set_option maxRecDepth 100000 in
theorem k_L_enters_b171 (C : gCx p s m args meth c cL_enters 14 (some .boolean) "enters" RL) (N : Nat) {r : Int} {μ' : Mm} : ∀ (x0 x3 x4 x5 x6 x7 x8 y0 : Int) (μ : Mm), f_L_enters_b171 N x0 x3 x4 x5 x6 x7 x8 y0 μ = some (r, μ') → R32 x3 → R32 x4 → R32 x5 → R32 x6 → R32 x7 → R32 x8 → R32 y0 → ∀ (H : Heap) (locs : List Loc) (ls : Array Slot), MS E μ s H locs → lv_has ls 14 [(0, vr E x0), (3, vi x3), (4, vi x4), (5, vi x5), (6, vi x6), (7, vi x7), (8, vi x8)] → W p l e ({ frames := 5, cells := 0, slots := 0, locals := 128 } : Room) s m args below meth c H locs 0 0 (MQ below (gQ E (some (vi r)) (R32 r) μ') args s 0 0 (gA E)) (F0 m 171 ls [vi y0]) := by
  intro x0 x3 x4 x5 x6 x7 x8 y0 μ h rx3 rx4 rx5 rx6 rx7 rx8 ry0 H locs ls hM hl
  unfold f_L_enters_b171 at h
  refine m_istore (pc := 171) C dL_enters_171 hl (by decide) (lvK1 0 rfl (Nat.ne_of_beq_eq_false rfl) (Nat.ne_of_beq_eq_false rfl) (lvK1 1 rfl (Nat.ne_of_beq_eq_false rfl) (Nat.ne_of_beq_eq_false rfl) (lvK1 2 rfl (Nat.ne_of_beq_eq_false rfl) (Nat.ne_of_beq_eq_false rfl) (lvK1 3 rfl (Nat.ne_of_beq_eq_false rfl) (Nat.ne_of_beq_eq_false rfl) (lvK1 4 rfl (Nat.ne_of_beq_eq_false rfl) (Nat.ne_of_beq_eq_false rfl) (lvK1 5 rfl (Nat.ne_of_beq_eq_false rfl) (Nat.ne_of_beq_eq_false rfl) (lvK1 6 rfl (Nat.ne_of_beq_eq_false rfl) (Nat.ne_of_beq_eq_false rfl) lvK0))))))) (fun ls hl => ?_)
  refine m_aload_n (pc := 173) C dL_enters_173 rfl (lv_at hl 1 rfl) ?_
  refine m_iload (pc := 174) C dL_enters_174 (lv_at hl 3 rfl) ?_
  refine m_iconst (pc := 176) C dL_enters_176 ?_
  obtain ⟨q1, h⟩ := ck_some h
  obtain ⟨a2, μ3, ca2, h⟩ := bd_some h
  refine V_X7_owner (pc := 177) C hM ca2 rx4 rk_2 q1 bw_3_30 ⟨Nat.le_of_ble_eq_true rfl, Nat.le_of_ble_eq_true rfl⟩ hl.1 rc0 ⟨Nat.le_refl _, Nat.le_refl _⟩ dL_enters_177 (fun ra2 H locs hM => ?_)
  refine m_lconst (v := 0) (pc := 180) C dL_enters_180 rfl ?_
  refine m_lcmp_le (tgt := 189) (pc := 181) C ra2 rl_0 dL_enters_181 dL_enters_182 (by decide) (fun c4 => ?_) (fun c4 => ?_)
  · have h := if_t h c4
    refine m_iconst (pc := 189) C dL_enters_189 ?_
    exact k_L_enters_b190 C N _ _ _ _ _ _ _ _ _ _ h rx3 rx4 rx5 rx6 rx7 rx8 ry0 rk_0 _ _ _ hM (lv_sub hl [1, 2, 3, 4, 5, 6, 7, 0] rfl)
  · have h := if_f h c4
    refine m_iconst (pc := 185) C dL_enters_185 ?_
    refine m_goto (tgt := 190) (pc := 186) C dL_enters_186 (by decide) ?_
    exact k_L_enters_b190 C N _ _ _ _ _ _ _ _ _ _ h rx3 rx4 rx5 rx6 rx7 rx8 ry0 rk_1 _ _ _ hM (lv_sub hl [1, 2, 3, 4, 5, 6, 7, 0] rfl)
set_option maxHeartbeats 4000000 in
set_option maxRecDepth 100000 in
theorem k_L_enters_b105 (C : gCx p s m args meth c cL_enters 14 (some .boolean) "enters" RL) (N : Nat) {r : Int} {μ' : Mm} : ∀ (x0 x3 x4 x5 x6 y0 y1 : Int) (μ : Mm), f_L_enters_b105 N x0 x3 x4 x5 x6 y0 y1 μ = some (r, μ') → R32 x3 → R32 x4 → R32 x5 → R32 x6 → R32 y0 → R32 y1 → ∀ (H : Heap) (locs : List Loc) (ls : Array Slot), MS E μ s H locs → lv_has ls 14 [(0, vr E x0), (3, vi x3), (4, vi x4), (5, vi x5), (6, vi x6)] → W p l e ({ frames := 5, cells := 0, slots := 0, locals := 128 } : Room) s m args below meth c H locs 0 0 (MQ below (gQ E (some (vi r)) (R32 r) μ') args s 0 0 (gA E)) (F0 m 105 ls [vi y1, vi y0]) := by
  intro x0 x3 x4 x5 x6 y0 y1 μ h rx3 rx4 rx5 rx6 ry0 ry1 H locs ls hM hl
  unfold f_L_enters_b105 at h
  obtain ⟨a1, μ2, ca1, h⟩ := bd_some h
  refine V_L_low (pc := 105) C hM ca1 ry0 ry1 bw_3_17 ⟨Nat.le_of_ble_eq_true rfl, Nat.le_of_ble_eq_true rfl⟩ hl.1 rc0 ⟨Nat.le_refl _, Nat.le_refl _⟩ dL_enters_105 (fun ra1 H locs hM => ?_)
  refine m_istore (pc := 108) C dL_enters_108 hl (by decide) (lvK1 0 rfl (Nat.ne_of_beq_eq_false rfl) (Nat.ne_of_beq_eq_false rfl) (lvK1 1 rfl (Nat.ne_of_beq_eq_false rfl) (Nat.ne_of_beq_eq_false rfl) (lvK1 2 rfl (Nat.ne_of_beq_eq_false rfl) (Nat.ne_of_beq_eq_false rfl) (lvK1 3 rfl (Nat.ne_of_beq_eq_false rfl) (Nat.ne_of_beq_eq_false rfl) (lvK2 4 rfl (Nat.ne_of_beq_eq_false rfl) rfl lvK0))))) (fun ls hl => ?_)
  refine m_iload (pc := 110) C dL_enters_110 (lv_at hl 0 rfl) ?_
  refine m_i2l (pc := 112) C ra1 dL_enters_112 ?_
  refine m_aload_n (pc := 113) C dL_enters_113 rfl (lv_at hl 1 rfl) ?_
  refine m_iload (pc := 114) C dL_enters_114 (lv_at hl 4 rfl) ?_
  obtain ⟨q3, h⟩ := ck_some h
  obtain ⟨a4, μ5, ca4, h⟩ := bd_some h
  refine V_X7_rate (pc := 116) C hM ca4 rx5 q3 bw_3_26 ⟨Nat.le_of_ble_eq_true rfl, Nat.le_of_ble_eq_true rfl⟩ hl.1 (rcL rc0) ⟨Nat.le_refl _, Nat.le_refl _⟩ dL_enters_116 (fun ra4 H locs hM => ?_)
  refine m_i2l (pc := 119) C ra4 dL_enters_119 ?_
  obtain ⟨a6, ea6, h⟩ := nm_some h
  have ra6 : R64 a6 := by rw [ea6]; exact w64_R _
  refine m_lmul (pc := 120) C dL_enters_120 ea6 ?_
  refine m_ldc2 (n := 1000) (pc := 121) C bw_3_103 rfl dL_enters_121 ?_
  obtain ⟨a7, ea7, h⟩ := nm_some h
  have ra7 : R64 a7 := by rw [ea7]; exact w64_R _
  refine m_ldiv (pc := 124) C ra6 rl_1000 (by decide) dL_enters_124 ea7 ?_
  obtain ⟨a9, ea9, h⟩ := nm_some h
  have ra9 : R32 a9 := by rw [ea9]; exact w32_R _
  refine m_l2i (pc := 125) C dL_enters_125 ea9 ?_
  refine m_istore (pc := 126) C dL_enters_126 hl (by decide) (lvK2 0 rfl (Nat.ne_of_beq_eq_false rfl) rfl (lvK1 1 rfl (Nat.ne_of_beq_eq_false rfl) (Nat.ne_of_beq_eq_false rfl) (lvK1 2 rfl (Nat.ne_of_beq_eq_false rfl) (Nat.ne_of_beq_eq_false rfl) (lvK1 3 rfl (Nat.ne_of_beq_eq_false rfl) (Nat.ne_of_beq_eq_false rfl) (lvK1 4 rfl (Nat.ne_of_beq_eq_false rfl) (Nat.ne_of_beq_eq_false rfl) (lvK1 5 rfl (Nat.ne_of_beq_eq_false rfl) (Nat.ne_of_beq_eq_false rfl) lvK0)))))) (fun ls hl => ?_)
  refine m_aload_n (pc := 128) C dL_enters_128 rfl (lv_at hl 2 rfl) ?_
  refine m_iload (pc := 129) C dL_enters_129 (lv_at hl 4 rfl) ?_
  refine m_iconst (pc := 131) C dL_enters_131 ?_
  obtain ⟨q10, h⟩ := ck_some h
  obtain ⟨a11, μ12, ca11, h⟩ := bd_some h
  refine V_X7_owner (pc := 132) C hM ca11 rx4 rk_3 q10 bw_3_30 ⟨Nat.le_of_ble_eq_true rfl, Nat.le_of_ble_eq_true rfl⟩ hl.1 rc0 ⟨Nat.le_refl _, Nat.le_refl _⟩ dL_enters_132 (fun ra11 H locs hM => ?_)
  refine m_iload (pc := 135) C dL_enters_135 (lv_at hl 0 rfl) ?_
  refine m_i2l (pc := 137) C ra9 dL_enters_137 ?_
  obtain ⟨a13, ea13, h⟩ := nm_some h
  have ra13 : R64 a13 := by rw [ea13]; exact w64_R _
  refine m_ladd (pc := 138) C dL_enters_138 ea13 ?_
  refine m_lstore (pc := 139) C dL_enters_139 hl (by decide) (lvK2 0 rfl (Nat.ne_of_beq_eq_false rfl) rfl (lvK1 1 rfl (Nat.ne_of_beq_eq_false rfl) (Nat.ne_of_beq_eq_false rfl) (lvK1 2 rfl (Nat.ne_of_beq_eq_false rfl) (Nat.ne_of_beq_eq_false rfl) (lvK1 3 rfl (Nat.ne_of_beq_eq_false rfl) (Nat.ne_of_beq_eq_false rfl) (lvK1 4 rfl (Nat.ne_of_beq_eq_false rfl) (Nat.ne_of_beq_eq_false rfl) (lvK1 5 rfl (Nat.ne_of_beq_eq_false rfl) (Nat.ne_of_beq_eq_false rfl) (lvK1 6 rfl (Nat.ne_of_beq_eq_false rfl) (Nat.ne_of_beq_eq_false rfl) lvK0))))))) (lvN1 (Nat.ne_of_beq_eq_false rfl) (lvN1 (Nat.ne_of_beq_eq_false rfl) (lvN1 (Nat.ne_of_beq_eq_false rfl) (lvN1 (Nat.ne_of_beq_eq_false rfl) (lvN1 (Nat.ne_of_beq_eq_false rfl) (lvN1 (Nat.ne_of_beq_eq_false rfl) (lvN1 (Nat.ne_of_beq_eq_false rfl) lvN0))))))) (fun ls hl => ?_)
  refine m_lload (pc := 141) C dL_enters_141 (lv_at hl 0 rfl) ?_
  refine m_aload_n (pc := 143) C dL_enters_143 rfl (lv_at hl 3 rfl) ?_
  refine m_bipush (pc := 144) C dL_enters_144 rfl ?_
  obtain ⟨q14, h⟩ := ck_some h
  obtain ⟨a15, μ16, ca15, h⟩ := bd_some h
  refine V_X7_count (pc := 146) C hM ca15 rk_8 q14 bw_3_4 ⟨Nat.le_of_ble_eq_true rfl, Nat.le_of_ble_eq_true rfl⟩ hl.1 (rcL rc0) ⟨Nat.le_refl _, Nat.le_refl _⟩ dL_enters_146 (fun ra15 H locs hM => ?_)
  refine m_i2l (pc := 149) C ra15 dL_enters_149 ?_
  obtain ⟨a17, ea17, h⟩ := nm_some h
  have ra17 : R64 a17 := by rw [ea17]; exact w64_R _
  refine m_lmul (pc := 150) C dL_enters_150 ea17 ?_
  refine m_ldc2 (n := 100) (pc := 151) C bw_3_89 rfl dL_enters_151 ?_
  obtain ⟨a18, ea18, h⟩ := nm_some h
  have ra18 : R64 a18 := by rw [ea18]; exact w64_R _
  refine m_ldiv (pc := 154) C ra17 rl_100 (by decide) dL_enters_154 ea18 ?_
  refine m_aload_n (pc := 155) C dL_enters_155 rfl (lv_at hl 3 rfl) ?_
  refine m_iload (pc := 156) C dL_enters_156 (lv_at hl 5 rfl) ?_
  refine m_iconst (pc := 158) C dL_enters_158 ?_
  obtain ⟨q20, h⟩ := ck_some h
  obtain ⟨a21, μ22, ca21, h⟩ := bd_some h
  refine V_X7_owner (pc := 159) C hM ca21 rx4 rk_1 q20 bw_3_30 ⟨Nat.le_of_ble_eq_true rfl, Nat.le_of_ble_eq_true rfl⟩ hl.1 (rcL rc0) ⟨Nat.le_refl _, Nat.le_refl _⟩ dL_enters_159 (fun ra21 H locs hM => ?_)
  refine m_lcmp_gt (tgt := 170) (pc := 162) C ra18 ra21 dL_enters_162 dL_enters_163 (by decide) (fun c23 => ?_) (fun c23 => ?_)
  · have h := if_t h c23
    refine m_iconst (pc := 170) C dL_enters_170 ?_
    exact k_L_enters_b171 C N _ _ _ _ _ _ _ _ _ h rx3 rx4 rx5 rx6 ra1 ra9 rk_0 _ _ _ hM (lv_sub hl [3, 4, 5, 6, 7, 2, 1] rfl)
  · have h := if_f h c23
    refine m_iconst (pc := 166) C dL_enters_166 ?_
    refine m_goto (tgt := 171) (pc := 167) C dL_enters_167 (by decide) ?_
    exact k_L_enters_b171 C N _ _ _ _ _ _ _ _ _ h rx3 rx4 rx5 rx6 ra1 ra9 rk_1 _ _ _ hM (lv_sub hl [3, 4, 5, 6, 7, 2, 1] rfl)
set_option maxHeartbeats 4000000 in
set_option maxRecDepth 100000 in
theorem k_L_enters_b81 (C : gCx p s m args meth c cL_enters 14 (some .boolean) "enters" RL) (N : Nat) {r : Int} {μ' : Mm} : ∀ (x0 x1 x2 x3 x4 x5 y0 y1 y2 : Int) (μ : Mm), f_L_enters_b81 N x0 x1 x2 x3 x4 x5 y0 y1 y2 μ = some (r, μ') → R32 x1 → R32 x2 → R32 x3 → R32 x4 → R32 x5 → R32 y0 → R32 y1 → R32 y2 → ∀ (H : Heap) (locs : List Loc) (ls : Array Slot), MS E μ s H locs → lv_has ls 14 [(0, vr E x0), (1, vi x1), (2, vi x2), (3, vi x3), (4, vi x4), (5, vi x5)] → W p l e ({ frames := 5, cells := 0, slots := 0, locals := 128 } : Room) s m args below meth c H locs 0 0 (MQ below (gQ E (some (vi r)) (R32 r) μ') args s 0 0 (gA E)) (F0 m 81 ls [vi y2, vi y1, vi y0]) := by
  intro x0 x1 x2 x3 x4 x5 y0 y1 y2 μ h rx1 rx2 rx3 rx4 rx5 ry0 ry1 ry2 H locs ls hM hl
  unfold f_L_enters_b81 at h
  obtain ⟨a1, μ2, ca1, h⟩ := bd_some h
  refine V_L_low (pc := 81) C hM ca1 ry1 ry2 bw_3_17 ⟨Nat.le_of_ble_eq_true rfl, Nat.le_of_ble_eq_true rfl⟩ hl.1 (rcI rc0) ⟨Nat.le_refl _, Nat.le_refl _⟩ dL_enters_81 (fun ra1 H locs hM => ?_)
  obtain ⟨a3, ea3, h⟩ := nm_some h
  have ra3 : R32 a3 := by rw [ea3]; exact w32_R _
  refine m_iadd (pc := 84) C dL_enters_84 ea3 ?_
  refine m_istore (pc := 85) C dL_enters_85 hl (by decide) (lvK1 0 rfl (Nat.ne_of_beq_eq_false rfl) (Nat.ne_of_beq_eq_false rfl) (lvK1 1 rfl (Nat.ne_of_beq_eq_false rfl) (Nat.ne_of_beq_eq_false rfl) (lvK1 2 rfl (Nat.ne_of_beq_eq_false rfl) (Nat.ne_of_beq_eq_false rfl) (lvK1 3 rfl (Nat.ne_of_beq_eq_false rfl) (Nat.ne_of_beq_eq_false rfl) (lvK1 4 rfl (Nat.ne_of_beq_eq_false rfl) (Nat.ne_of_beq_eq_false rfl) (lvK2 5 rfl (Nat.ne_of_beq_eq_false rfl) rfl lvK0)))))) (fun ls hl => ?_)
  refine m_iload_n (pc := 87) C dL_enters_87 rfl (lv_at hl 3 rfl) ?_
  refine m_iconst (pc := 88) C dL_enters_88 ?_
  obtain ⟨a4, ea4, h⟩ := nm_some h
  have ra4 : R32 a4 := by rw [ea4]; exact R32_of _
  refine m_ishr (pc := 89) C dL_enters_89 ea4 ?_
  refine m_iload_n (pc := 90) C dL_enters_90 rfl (lv_at hl 2 rfl) ?_
  refine m_bipush (pc := 91) C dL_enters_91 rfl ?_
  obtain ⟨a5, ea5, h⟩ := nm_some h
  have ra5 : R32 a5 := by rw [ea5]; exact R32_of _
  refine m_iand (pc := 93) C dL_enters_93 ea5 ?_
  refine m_if_ne (tgt := 103) (pc := 94) C ra5 dL_enters_94 (by decide) (fun c6 => ?_) (fun c6 => ?_)
  · have h := if_t h c6
    refine m_ldc (n := 3000000) (pc := 103) C bw_4_130 rfl dL_enters_103 ?_
    exact k_L_enters_b105 C N _ _ _ _ _ _ _ _ h rx3 rx4 rx5 ra3 ra4 rk_3000000 _ _ _ hM (lv_sub hl [1, 4, 5, 6, 0] rfl)
  · have h := if_f h c6
    refine m_sipush (pc := 97) C dL_enters_97 rfl ?_
    refine m_goto (tgt := 105) (pc := 100) C dL_enters_100 (by decide) ?_
    exact k_L_enters_b105 C N _ _ _ _ _ _ _ _ h rx3 rx4 rx5 ra3 ra4 rk_20000 _ _ _ hM (lv_sub hl [1, 4, 5, 6, 0] rfl)
set_option maxHeartbeats 4000000 in
set_option maxRecDepth 100000 in
theorem c_L_enters (l : Launch) (E : gE) (N : Nat) (x0 x1 x2 : Int) (μ μ' : Mm) (r : Int) (h : f_L_enters N x0 x1 x2 μ = some (r, μ')) (rx1 : R32 x1) (rx2 : R32 x2) : gMet l E yL_enters cL_enters 14 (some .boolean) 5 128 [vr E x0, vi x1, vi x2] (some (vi r)) (R32 r) μ μ' 0 0 := by
  refine g_ofW [1, 1, 1] (by first | (simp only [List.map_cons, List.map_nil, vr_cat]; done) | (simp only [List.map_cons, List.map_nil, vr_cat]; rfl)) (by decide) (by decide) (fun p e s m below meth c ls C hM hl => ?_)
  replace C : gCx p s m _ meth c cL_enters 14 (some .boolean) "enters" RL := C
  replace hl : lv_has ls 14 [(0, vr E x0), (1, vi x1), (2, vi x2)] := hl
  unfold f_L_enters at h
  refine m_aload_n (pc := 0) C dL_enters_0 rfl (lv_at hl 0 rfl) ?_
  refine m_iconst (pc := 1) C dL_enters_1 ?_
  obtain ⟨q1, h⟩ := ck_some h
  obtain ⟨a2, μ3, ca2, h⟩ := bd_some h
  refine V_X7_count (pc := 2) C hM ca2 rk_2 q1 bw_3_4 ⟨Nat.le_of_ble_eq_true rfl, Nat.le_of_ble_eq_true rfl⟩ hl.1 rc0 ⟨Nat.le_refl _, Nat.le_refl _⟩ dL_enters_2 (fun ra2 H locs hM => ?_)
  refine m_istore_n (pc := 5) C dL_enters_5 rfl hl (by decide) (lvK1 0 rfl (Nat.ne_of_beq_eq_false rfl) (Nat.ne_of_beq_eq_false rfl) (lvK1 1 rfl (Nat.ne_of_beq_eq_false rfl) (Nat.ne_of_beq_eq_false rfl) (lvK2 2 rfl (Nat.ne_of_beq_eq_false rfl) rfl lvK0))) (fun ls hl => ?_)
  refine m_aload_n (pc := 6) C dL_enters_6 rfl (lv_at hl 1 rfl) ?_
  refine m_iconst (pc := 7) C dL_enters_7 ?_
  obtain ⟨q4, h⟩ := ck_some h
  obtain ⟨a5, μ6, ca5, h⟩ := bd_some h
  refine V_X7_count (pc := 8) C hM ca5 rk_1 q4 bw_3_4 ⟨Nat.le_of_ble_eq_true rfl, Nat.le_of_ble_eq_true rfl⟩ hl.1 rc0 ⟨Nat.le_refl _, Nat.le_refl _⟩ dL_enters_8 (fun ra5 H locs hM => ?_)
  refine m_if_ne (tgt := 44) (pc := 11) C ra5 dL_enters_11 (by decide) (fun c7 => ?_) (fun c7 => ?_)
  · have h := if_t h c7
    refine m_iload_n (pc := 44) C dL_enters_44 rfl (lv_at hl 2 rfl) ?_
    refine m_aload_n (pc := 45) C dL_enters_45 rfl (lv_at hl 1 rfl) ?_
    refine m_iconst (pc := 46) C dL_enters_46 ?_
    obtain ⟨q8, h⟩ := ck_some h
    obtain ⟨a9, μ10, ca9, h⟩ := bd_some h
    refine V_X7_count (pc := 47) C hM ca9 rk_1 q8 bw_3_4 ⟨Nat.le_of_ble_eq_true rfl, Nat.le_of_ble_eq_true rfl⟩ hl.1 (rcI rc0) ⟨Nat.le_refl _, Nat.le_refl _⟩ dL_enters_47 (fun ra9 H locs hM => ?_)
    obtain ⟨a11, μ12, ca11, h⟩ := bd_some h
    refine V_L_low (pc := 50) C hM ca11 rx1 ra9 bw_3_17 ⟨Nat.le_of_ble_eq_true rfl, Nat.le_of_ble_eq_true rfl⟩ hl.1 rc0 ⟨Nat.le_refl _, Nat.le_refl _⟩ dL_enters_50 (fun ra11 H locs hM => ?_)
    refine m_istore (pc := 53) C dL_enters_53 hl (by decide) (lvK2 0 rfl (Nat.ne_of_beq_eq_false rfl) rfl (lvK1 1 rfl (Nat.ne_of_beq_eq_false rfl) (Nat.ne_of_beq_eq_false rfl) (lvK1 2 rfl (Nat.ne_of_beq_eq_false rfl) (Nat.ne_of_beq_eq_false rfl) (lvK1 3 rfl (Nat.ne_of_beq_eq_false rfl) (Nat.ne_of_beq_eq_false rfl) lvK0)))) (fun ls hl => ?_)
    refine m_iload_n (pc := 55) C dL_enters_55 rfl (lv_at hl 3 rfl) ?_
    refine m_iconst (pc := 56) C dL_enters_56 ?_
    obtain ⟨a13, ea13, h⟩ := nm_some h
    have ra13 : R32 a13 := by rw [ea13]; exact R32_of _
    refine m_ishr (pc := 57) C dL_enters_57 ea13 ?_
    refine m_bipush (pc := 58) C dL_enters_58 rfl ?_
    obtain ⟨a14, μ15, ca14, h⟩ := bd_some h
    refine V_L_low (pc := 60) C hM ca14 ra13 rk_6 bw_3_17 ⟨Nat.le_of_ble_eq_true rfl, Nat.le_of_ble_eq_true rfl⟩ hl.1 rc0 ⟨Nat.le_refl _, Nat.le_refl _⟩ dL_enters_60 (fun ra14 H locs hM => ?_)
    refine m_istore (pc := 63) C dL_enters_63 hl (by decide) (lvK2 0 rfl (Nat.ne_of_beq_eq_false rfl) rfl (lvK1 1 rfl (Nat.ne_of_beq_eq_false rfl) (Nat.ne_of_beq_eq_false rfl) (lvK1 2 rfl (Nat.ne_of_beq_eq_false rfl) (Nat.ne_of_beq_eq_false rfl) (lvK1 3 rfl (Nat.ne_of_beq_eq_false rfl) (Nat.ne_of_beq_eq_false rfl) (lvK1 4 rfl (Nat.ne_of_beq_eq_false rfl) (Nat.ne_of_beq_eq_false rfl) lvK0))))) (fun ls hl => ?_)
    refine m_iconst (pc := 65) C dL_enters_65 ?_
    refine m_iload_n (pc := 66) C dL_enters_66 rfl (lv_at hl 5 rfl) ?_
    refine m_iload_n (pc := 67) C dL_enters_67 rfl (lv_at hl 5 rfl) ?_
    refine m_iconst (pc := 68) C dL_enters_68 ?_
    obtain ⟨a16, ea16, h⟩ := nm_some h
    have ra16 : R32 a16 := by rw [ea16]; exact R32_of _
    refine m_iand (pc := 69) C dL_enters_69 ea16 ?_
    refine m_if_ne (tgt := 78) (pc := 70) C ra16 dL_enters_70 (by decide) (fun c17 => ?_) (fun c17 => ?_)
    · have h := if_t h c17
      refine m_sipush (pc := 78) C dL_enters_78 rfl ?_
      exact k_L_enters_b81 C N _ _ _ _ _ _ _ _ _ _ h rx1 rx2 ra2 ra11 ra14 rk_1 rx2 rk_2000 _ _ _ hM (lv_sub hl [3, 4, 5, 2, 1, 0] rfl)
    · have h := if_f h c17
      refine m_bipush (pc := 73) C dL_enters_73 rfl ?_
      refine m_goto (tgt := 81) (pc := 75) C dL_enters_75 (by decide) ?_
      exact k_L_enters_b81 C N _ _ _ _ _ _ _ _ _ _ h rx1 rx2 ra2 ra11 ra14 rk_1 rx2 rk_30 _ _ _ hM (lv_sub hl [3, 4, 5, 2, 1, 0] rfl)
  · have h := if_f h c7
    refine m_aload_n (pc := 14) C dL_enters_14 rfl (lv_at hl 1 rfl) ?_
    refine m_iconst (pc := 15) C dL_enters_15 ?_
    refine m_iconst (pc := 16) C dL_enters_16 ?_
    refine m_iconst (pc := 17) C dL_enters_17 ?_
    refine m_iconst (pc := 18) C dL_enters_18 ?_
    obtain ⟨q18, h⟩ := ck_some h
    obtain ⟨a19, μ20, ca19, h⟩ := bd_some h
    refine V_X7_enter (pc := 19) C hM ca19 rk_0 rk_0 rk_1 rk_0 q18 bw_4_113 ⟨Nat.le_of_ble_eq_true rfl, Nat.le_of_ble_eq_true rfl⟩ hl.1 rc0 ⟨Nat.le_refl _, Nat.le_refl _⟩ dL_enters_19 (fun ra19 H locs hM => ?_)
    refine m_ldc (n := -100000001) (pc := 22) C bw_3_85 rfl dL_enters_22 ?_
    refine m_icmp_ne (tgt := 42) (pc := 24) C ra19 rk_m100000001 dL_enters_24 (by decide) (fun c21 => ?_) (fun c21 => ?_)
    · have h := if_t h c21
      refine m_iconst (pc := 42) C dL_enters_42 ?_
      cases h
      exact m_zret (pc := 43) C rfl hM rk_0 dL_enters_43
    · have h := if_f h c21
      refine m_aload_n (pc := 27) C dL_enters_27 rfl (lv_at hl 1 rfl) ?_
      refine m_iconst (pc := 28) C dL_enters_28 ?_
      refine m_iconst (pc := 29) C dL_enters_29 ?_
      obtain ⟨q22, h⟩ := ck_some h
      obtain ⟨a23, μ24, ca23, h⟩ := bd_some h
      refine V_X7_deposit (pc := 30) C hM ca23 rk_0 rk_1 q22 bw_4_121 ⟨Nat.le_of_ble_eq_true rfl, Nat.le_of_ble_eq_true rfl⟩ hl.1 rc0 ⟨Nat.le_refl _, Nat.le_refl _⟩ dL_enters_30 (fun ra23 H locs hM => ?_)
      refine m_ldc (n := -100000001) (pc := 33) C bw_3_85 rfl dL_enters_33 ?_
      refine m_icmp_ne (tgt := 42) (pc := 35) C ra23 rk_m100000001 dL_enters_35 (by decide) (fun c25 => ?_) (fun c25 => ?_)
      · have h := if_t h c25
        refine m_iconst (pc := 42) C dL_enters_42 ?_
        cases h
        exact m_zret (pc := 43) C rfl hM rk_0 dL_enters_43
      · have h := if_f h c25
        refine m_iconst (pc := 38) C dL_enters_38 ?_
        refine m_goto (tgt := 43) (pc := 39) C dL_enters_39 (by decide) ?_
        cases h
        exact m_zret (pc := 43) C rfl hM rk_1 dL_enters_43
theorem hd_L_enters : yL_enters.cls ≠ "java/lang/invoke/MethodHandle" ∧ yL_enters.cls ≠ "java/lang/invoke/VarHandle" ∧ (parseMethodDescriptor yL_enters.desc).map (fun d => d.parameters.length) = some 3 := by decide +kernel

theorem V_L_enters {p : Program} {l : Launch} {e : Env} {R : Room} {s : State} {m : MethodId} {args : Array Value} {below : List Frame} {meth : Method} {c : Code} {H : Heap} {locs : List Loc} {cells slots : Nat} {Q : State → Prop} {cc : ByteArray} {pc nL : Nat} {ls : Array Slot} {rest : List Value} {ret : Option FieldType} {nmm own : String} {E : gE} {μ μ1 : Mm} {index : Nat} (C : gCx p s m args meth c cc nL ret nmm own) (hM : MS E μ s H locs) {N : Nat} {x0 x1 x2 v : Int} (hc : f_L_enters N x0 x1 x2 μ = some (v, μ1)) (rx1 : R32 x1) (rx2 : R32 x2) (h1 : Cond.methodLink own index yL_enters ∈ bigL) (hR : 6 ≤ R.frames ∧ 161 ≤ R.locals) (hl : ls.size = nL) (hcat : RC rest 8) (hf : cells + 0 ≤ R.cells ∧ slots + 0 ≤ R.slots) (hdg : decode cc pc = .ok (.invokestatic index, 3)) (kk : (R32 v) → ∀ (H1 : Heap) (locs1 : List Loc), MS E μ1 s H1 locs1 → W p l e R s m args below meth c H1 locs1 (cells + 0) (slots + 0) Q (F0 m (pc + 3) ls (vi v :: rest))) : W p l e R s m args below meth c H locs cells slots Q (F0 m pc ls (vi x2 :: vi x1 :: vr E x0 :: rest)) := g_callS C hM (c_L_enters l E N x0 x1 x2 μ μ1 v hc rx1 rx2) (gS h1 bw_4_111 bw_1_0 bw_4_112) hd_L_enters hR rfl hl rfl hcat hf hdg kk
/-! L_money -/
def f_L_money_b25 (N : Nat) (x0 : Int) (μ : Mm) : Rs :=
  ck (μ x0 (-2) = 9) <|
  bd (f_X7_count N x0 1 μ) fun a2 μ3 =>
  ck (μ3 x0 (-2) = 9) <|
  bd (f_X7_addOwner N x0 μ3) fun a5 μ6 =>
  if ¬ a5 = a2 then
    (some (0, μ6))
  else
  some (1, μ6)
def f_L_money_b201 (N : Nat) (x0 x3 x4 y0 : Int) (μ : Mm) : Rs :=
  ck (μ x0 (-2) = 9) <|
  bd (f_X7_owner N x0 x3 1 μ) fun a2 μ3 =>
  ck (μ3 x0 (-2) = 9) <|
  bd (f_X7_setGuarantee N x0 x3 x4 μ3) fun a5 μ6 =>
  if y0 = 0 then
    (if ¬ a5 = ((-100000003)) then
       (some (0, μ6))
     else
     ck (μ6 x0 (-2) = 9) <|
     bd (f_X7_count N x0 11 μ6) fun a10 μ11 =>
     if ¬ a10 = 2 then
       (some (0, μ11))
     else
     ck (μ11 x0 (-2) = 9) <|
     bd (f_X7_owner N x0 x3 1 μ11) fun a14 μ15 =>
     if ¬ a14 = a2 then
       (some (0, μ15))
     else
     some (1, μ15))
  else
  if ¬ a5 = a2 then
    (some (0, μ6))
  else
  ck (μ6 x0 (-2) = 9) <|
  bd (f_X7_owner N x0 x3 1 μ6) fun a19 μ20 =>
  if ¬ a19 = x4 then
    (some (0, μ20))
  else
  some (1, μ20)
def f_L_money_b106 (N : Nat) (x0 x3 x4 x5 x7 y0 : Int) (μ : Mm) : Rs :=
  ck (μ x0 (-2) = 9) <|
  bd (f_X7_deposit N x0 x3 x4 μ) fun a2 μ3 =>
  nm (w64 (x5 - y0)) fun a4 =>
  if ¬ a2 = a4 then
    (some (0, μ3))
  else
  ck (μ3 x0 (-2) = 9) <|
  bd (f_X7_owner N x0 x3 0 μ3) fun a7 μ8 =>
  nm (w64 (x7 + x4)) fun a9 =>
  nm (w64 (a9 - y0)) fun a10 =>
  if ¬ a7 = a10 then
    (some (0, μ8))
  else
  ck (μ8 x0 (-2) = 9) <|
  bd (f_X7_deposit N x0 x3 0 μ8) fun a13 μ14 =>
  if ¬ a13 = ((-100000002)) then
    (some (0, μ14))
  else
  some (1, μ14)
def f_L_money_b45 (N : Nat) (x0 x1 x2 : Int) (μ : Mm) : Rs :=
  ck (μ x0 (-2) = 9) <|
  bd (f_X7_count N x0 1 μ) fun a2 μ3 =>
  bd (f_L_low N x1 a2 μ3) fun a4 μ5 =>
  nm (o_and x2 1) fun a6 =>
  if ¬ a6 = 0 then
    (nm (o_shr x2 1) fun a8 =>
     bd (f_L_low N a8 300000 μ5) fun a9 μ10 =>
     ck (μ10 x0 (-2) = 9) <|
     bd (f_X7_owner N x0 a4 3 μ10) fun a12 μ13 =>
     ck (μ13 x0 (-2) = 9) <|
     bd (f_X7_count N x0 8 μ13) fun a15 μ16 =>
     nm (w64 (a12 * a15)) fun a17 =>
     nm (w64 (Int.tdiv a17 100)) fun a18 =>
     if a9 < a18 then
       (f_L_money_b201 N x0 a4 a9 0 μ16)
     else
     f_L_money_b201 N x0 a4 a9 1 μ16)
  else
  nm (o_shr x2 1) fun a21 =>
  bd (f_L_low N a21 400000 μ5) fun a22 μ23 =>
  nm (w32 (1 + a22)) fun a24 =>
  ck (μ23 x0 (-2) = 9) <|
  bd (f_X7_owner N x0 a4 2 μ23) fun a26 μ27 =>
  ck (μ27 x0 (-2) = 9) <|
  bd (f_X7_owner N x0 a4 0 μ27) fun a29 μ30 =>
  if a24 ≤ a26 then
    (f_L_money_b106 N x0 a4 a24 a26 a29 a24 μ30)
  else
  f_L_money_b106 N x0 a4 a24 a26 a29 a26 μ30
def f_L_money (N : Nat) (x0 x1 x2 : Int) (μ : Mm) : Rs :=
  ck (μ x0 (-2) = 9) <|
  bd (f_X7_count N x0 1 μ) fun a2 μ3 =>
  if a2 < 2 then
    (f_L_money_b25 N x0 μ3)
  else
  nm (o_and x1 48) fun a5 =>
  if ¬ a5 = 0 then
    (f_L_money_b45 N x0 x1 x2 μ3)
  else
  ck (μ3 x0 (-2) = 9) <|
  bd (f_X7_count N x0 1 μ3) fun a8 μ9 =>
  if 5 ≤ a8 then
    (f_L_money_b45 N x0 x1 x2 μ9)
  else
  f_L_money_b25 N x0 μ9
set_option maxHeartbeats 4000000 in
set_option maxRecDepth 100000 in
theorem k_L_money_b25 (C : gCx p s m args meth c cL_money 11 (some .boolean) "money" RL) (N : Nat) {r : Int} {μ' : Mm} : ∀ (x0 : Int) (μ : Mm), f_L_money_b25 N x0 μ = some (r, μ') → ∀ (H : Heap) (locs : List Loc) (ls : Array Slot), MS E μ s H locs → lv_has ls 11 [(0, vr E x0)] → W p l e ({ frames := 5, cells := 0, slots := 0, locals := 128 } : Room) s m args below meth c H locs 0 0 (MQ below (gQ E (some (vi r)) (R32 r) μ') args s 0 0 (gA E)) (F0 m 25 ls []) := by
  intro x0 μ h H locs ls hM hl
  unfold f_L_money_b25 at h
  refine m_aload_n (pc := 25) C dL_money_25 rfl (lv_at hl 0 rfl) ?_
  refine m_iconst (pc := 26) C dL_money_26 ?_
  obtain ⟨q1, h⟩ := ck_some h
  obtain ⟨a2, μ3, ca2, h⟩ := bd_some h
  refine V_X7_count (pc := 27) C hM ca2 rk_1 q1 bw_3_4 ⟨Nat.le_of_ble_eq_true rfl, Nat.le_of_ble_eq_true rfl⟩ hl.1 rc0 ⟨Nat.le_refl _, Nat.le_refl _⟩ dL_money_27 (fun ra2 H locs hM => ?_)
  refine m_istore_n (pc := 30) C dL_money_30 rfl hl (by decide) (lvK1 0 rfl (Nat.ne_of_beq_eq_false rfl) (Nat.ne_of_beq_eq_false rfl) lvK0) (fun ls hl => ?_)
  refine m_aload_n (pc := 31) C dL_money_31 rfl (lv_at hl 1 rfl) ?_
  obtain ⟨q4, h⟩ := ck_some h
  obtain ⟨a5, μ6, ca5, h⟩ := bd_some h
  refine V_X7_addOwner (pc := 32) C hM ca5 q4 bw_4_135 ⟨Nat.le_of_ble_eq_true rfl, Nat.le_of_ble_eq_true rfl⟩ hl.1 rc0 ⟨Nat.le_refl _, Nat.le_refl _⟩ dL_money_32 (fun ra5 H locs hM => ?_)
  refine m_iload_n (pc := 35) C dL_money_35 rfl (lv_at hl 0 rfl) ?_
  refine m_icmp_ne (tgt := 43) (pc := 36) C ra5 ra2 dL_money_36 (by decide) (fun c7 => ?_) (fun c7 => ?_)
  · have h := if_t h c7
    refine m_iconst (pc := 43) C dL_money_43 ?_
    cases h
    exact m_zret (pc := 44) C rfl hM rk_0 dL_money_44
  · have h := if_f h c7
    refine m_iconst (pc := 39) C dL_money_39 ?_
    refine m_goto (tgt := 44) (pc := 40) C dL_money_40 (by decide) ?_
    cases h
    exact m_zret (pc := 44) C rfl hM rk_1 dL_money_44
set_option maxHeartbeats 4000000 in
set_option maxRecDepth 100000 in
theorem k_L_money_b201 (C : gCx p s m args meth c cL_money 11 (some .boolean) "money" RL) (N : Nat) {r : Int} {μ' : Mm} : ∀ (x0 x3 x4 y0 : Int) (μ : Mm), f_L_money_b201 N x0 x3 x4 y0 μ = some (r, μ') → R32 x3 → R32 x4 → R32 y0 → ∀ (H : Heap) (locs : List Loc) (ls : Array Slot), MS E μ s H locs → lv_has ls 11 [(0, vr E x0), (3, vi x3), (4, vi x4)] → W p l e ({ frames := 5, cells := 0, slots := 0, locals := 128 } : Room) s m args below meth c H locs 0 0 (MQ below (gQ E (some (vi r)) (R32 r) μ') args s 0 0 (gA E)) (F0 m 201 ls [vi y0]) := by
  intro x0 x3 x4 y0 μ h rx3 rx4 ry0 H locs ls hM hl
  unfold f_L_money_b201 at h
  refine m_istore (pc := 201) C dL_money_201 hl (by decide) (lvK1 0 rfl (Nat.ne_of_beq_eq_false rfl) (Nat.ne_of_beq_eq_false rfl) (lvK1 1 rfl (Nat.ne_of_beq_eq_false rfl) (Nat.ne_of_beq_eq_false rfl) (lvK2 2 rfl (Nat.ne_of_beq_eq_false rfl) rfl lvK0))) (fun ls hl => ?_)
  refine m_aload_n (pc := 203) C dL_money_203 rfl (lv_at hl 1 rfl) ?_
  refine m_iload_n (pc := 204) C dL_money_204 rfl (lv_at hl 2 rfl) ?_
  refine m_iconst (pc := 205) C dL_money_205 ?_
  obtain ⟨q1, h⟩ := ck_some h
  obtain ⟨a2, μ3, ca2, h⟩ := bd_some h
  refine V_X7_owner (pc := 206) C hM ca2 rx3 rk_1 q1 bw_3_30 ⟨Nat.le_of_ble_eq_true rfl, Nat.le_of_ble_eq_true rfl⟩ hl.1 rc0 ⟨Nat.le_refl _, Nat.le_refl _⟩ dL_money_206 (fun ra2 H locs hM => ?_)
  refine m_lstore (pc := 209) C dL_money_209 hl (by decide) (lvK2 0 rfl (Nat.ne_of_beq_eq_false rfl) rfl (lvK1 1 rfl (Nat.ne_of_beq_eq_false rfl) (Nat.ne_of_beq_eq_false rfl) (lvK1 2 rfl (Nat.ne_of_beq_eq_false rfl) (Nat.ne_of_beq_eq_false rfl) (lvK1 3 rfl (Nat.ne_of_beq_eq_false rfl) (Nat.ne_of_beq_eq_false rfl) lvK0)))) (lvN1 (Nat.ne_of_beq_eq_false rfl) (lvN1 (Nat.ne_of_beq_eq_false rfl) (lvN1 (Nat.ne_of_beq_eq_false rfl) (lvN1 (Nat.ne_of_beq_eq_false rfl) lvN0)))) (fun ls hl => ?_)
  refine m_aload_n (pc := 211) C dL_money_211 rfl (lv_at hl 2 rfl) ?_
  refine m_iload_n (pc := 212) C dL_money_212 rfl (lv_at hl 3 rfl) ?_
  refine m_iload (pc := 213) C dL_money_213 (lv_at hl 4 rfl) ?_
  obtain ⟨q4, h⟩ := ck_some h
  obtain ⟨a5, μ6, ca5, h⟩ := bd_some h
  refine V_X7_setGuarantee (pc := 215) C hM ca5 rx3 rx4 q4 bw_4_142 ⟨Nat.le_of_ble_eq_true rfl, Nat.le_of_ble_eq_true rfl⟩ hl.1 rc0 ⟨Nat.le_refl _, Nat.le_refl _⟩ dL_money_215 (fun ra5 H locs hM => ?_)
  refine m_istore (pc := 218) C dL_money_218 hl (by decide) (lvK1 0 rfl (Nat.ne_of_beq_eq_false rfl) (Nat.ne_of_beq_eq_false rfl) (lvK1 1 rfl (Nat.ne_of_beq_eq_false rfl) (Nat.ne_of_beq_eq_false rfl) (lvK1 2 rfl (Nat.ne_of_beq_eq_false rfl) (Nat.ne_of_beq_eq_false rfl) (lvK1 3 rfl (Nat.ne_of_beq_eq_false rfl) (Nat.ne_of_beq_eq_false rfl) (lvK1 4 rfl (Nat.ne_of_beq_eq_false rfl) (Nat.ne_of_beq_eq_false rfl) lvK0))))) (fun ls hl => ?_)
  refine m_iload (pc := 220) C dL_money_220 (lv_at hl 2 rfl) ?_
  refine m_if_eq (tgt := 255) (pc := 222) C ry0 dL_money_222 (by decide) (fun c7 => ?_) (fun c7 => ?_)
  · have h := if_t h c7
    refine m_iload (pc := 255) C dL_money_255 (lv_at hl 0 rfl) ?_
    refine m_ldc (n := -100000003) (pc := 257) C bw_4_109 rfl dL_money_257 ?_
    refine m_icmp_ne (tgt := 288) (pc := 259) C ra5 rk_m100000003 dL_money_259 (by decide) (fun c8 => ?_) (fun c8 => ?_)
    · have h := if_t h c8
      refine m_iconst (pc := 288) C dL_money_288 ?_
      cases h
      exact m_zret (pc := 289) C rfl hM rk_0 dL_money_289
    · have h := if_f h c8
      refine m_aload_n (pc := 262) C dL_money_262 rfl (lv_at hl 3 rfl) ?_
      refine m_bipush (pc := 263) C dL_money_263 rfl ?_
      obtain ⟨q9, h⟩ := ck_some h
      obtain ⟨a10, μ11, ca10, h⟩ := bd_some h
      refine V_X7_count (pc := 265) C hM ca10 rk_11 q9 bw_3_4 ⟨Nat.le_of_ble_eq_true rfl, Nat.le_of_ble_eq_true rfl⟩ hl.1 rc0 ⟨Nat.le_refl _, Nat.le_refl _⟩ dL_money_265 (fun ra10 H locs hM => ?_)
      refine m_iconst (pc := 268) C dL_money_268 ?_
      refine m_icmp_ne (tgt := 288) (pc := 269) C ra10 rk_2 dL_money_269 (by decide) (fun c12 => ?_) (fun c12 => ?_)
      · have h := if_t h c12
        refine m_iconst (pc := 288) C dL_money_288 ?_
        cases h
        exact m_zret (pc := 289) C rfl hM rk_0 dL_money_289
      · have h := if_f h c12
        refine m_aload_n (pc := 272) C dL_money_272 rfl (lv_at hl 3 rfl) ?_
        refine m_iload_n (pc := 273) C dL_money_273 rfl (lv_at hl 4 rfl) ?_
        refine m_iconst (pc := 274) C dL_money_274 ?_
        obtain ⟨q13, h⟩ := ck_some h
        obtain ⟨a14, μ15, ca14, h⟩ := bd_some h
        refine V_X7_owner (pc := 275) C hM ca14 rx3 rk_1 q13 bw_3_30 ⟨Nat.le_of_ble_eq_true rfl, Nat.le_of_ble_eq_true rfl⟩ hl.1 rc0 ⟨Nat.le_refl _, Nat.le_refl _⟩ dL_money_275 (fun ra14 H locs hM => ?_)
        refine m_lload (pc := 278) C dL_money_278 (lv_at hl 1 rfl) ?_
        refine m_lcmp_ne (tgt := 288) (pc := 280) C ra14 ra2 dL_money_280 dL_money_281 (by decide) (fun c16 => ?_) (fun c16 => ?_)
        · have h := if_t h c16
          refine m_iconst (pc := 288) C dL_money_288 ?_
          cases h
          exact m_zret (pc := 289) C rfl hM rk_0 dL_money_289
        · have h := if_f h c16
          refine m_iconst (pc := 284) C dL_money_284 ?_
          refine m_goto (tgt := 289) (pc := 285) C dL_money_285 (by decide) ?_
          cases h
          exact m_zret (pc := 289) C rfl hM rk_1 dL_money_289
  · have h := if_f h c7
    refine m_iload (pc := 225) C dL_money_225 (lv_at hl 0 rfl) ?_
    refine m_i2l (pc := 227) C ra5 dL_money_227 ?_
    refine m_lload (pc := 228) C dL_money_228 (lv_at hl 1 rfl) ?_
    refine m_lcmp_ne (tgt := 251) (pc := 230) C (R32.to64 ra5) ra2 dL_money_230 dL_money_231 (by decide) (fun c17 => ?_) (fun c17 => ?_)
    · have h := if_t h c17
      refine m_iconst (pc := 251) C dL_money_251 ?_
      refine m_goto (tgt := 289) (pc := 252) C dL_money_252 (by decide) ?_
      cases h
      exact m_zret (pc := 289) C rfl hM rk_0 dL_money_289
    · have h := if_f h c17
      refine m_aload_n (pc := 234) C dL_money_234 rfl (lv_at hl 3 rfl) ?_
      refine m_iload_n (pc := 235) C dL_money_235 rfl (lv_at hl 4 rfl) ?_
      refine m_iconst (pc := 236) C dL_money_236 ?_
      obtain ⟨q18, h⟩ := ck_some h
      obtain ⟨a19, μ20, ca19, h⟩ := bd_some h
      refine V_X7_owner (pc := 237) C hM ca19 rx3 rk_1 q18 bw_3_30 ⟨Nat.le_of_ble_eq_true rfl, Nat.le_of_ble_eq_true rfl⟩ hl.1 rc0 ⟨Nat.le_refl _, Nat.le_refl _⟩ dL_money_237 (fun ra19 H locs hM => ?_)
      refine m_iload (pc := 240) C dL_money_240 (lv_at hl 5 rfl) ?_
      refine m_i2l (pc := 242) C rx4 dL_money_242 ?_
      refine m_lcmp_ne (tgt := 251) (pc := 243) C ra19 (R32.to64 rx4) dL_money_243 dL_money_244 (by decide) (fun c21 => ?_) (fun c21 => ?_)
      · have h := if_t h c21
        refine m_iconst (pc := 251) C dL_money_251 ?_
        refine m_goto (tgt := 289) (pc := 252) C dL_money_252 (by decide) ?_
        cases h
        exact m_zret (pc := 289) C rfl hM rk_0 dL_money_289
      · have h := if_f h c21
        refine m_iconst (pc := 247) C dL_money_247 ?_
        refine m_goto (tgt := 289) (pc := 248) C dL_money_248 (by decide) ?_
        cases h
        exact m_zret (pc := 289) C rfl hM rk_1 dL_money_289
set_option maxHeartbeats 4000000 in
set_option maxRecDepth 100000 in
theorem k_L_money_b106 (C : gCx p s m args meth c cL_money 11 (some .boolean) "money" RL) (N : Nat) {r : Int} {μ' : Mm} : ∀ (x0 x3 x4 x5 x7 y0 : Int) (μ : Mm), f_L_money_b106 N x0 x3 x4 x5 x7 y0 μ = some (r, μ') → R32 x3 → R32 x4 → R64 x5 → R64 x7 → R64 y0 → ∀ (H : Heap) (locs : List Loc) (ls : Array Slot), MS E μ s H locs → lv_has ls 11 [(0, vr E x0), (3, vi x3), (4, vi x4), (5, vl x5), (7, vl x7)] → W p l e ({ frames := 5, cells := 0, slots := 0, locals := 128 } : Room) s m args below meth c H locs 0 0 (MQ below (gQ E (some (vi r)) (R32 r) μ') args s 0 0 (gA E)) (F0 m 106 ls [vl y0]) := by
  intro x0 x3 x4 x5 x7 y0 μ h rx3 rx4 rx5 rx7 ry0 H locs ls hM hl
  unfold f_L_money_b106 at h
  refine m_lstore (pc := 106) C dL_money_106 hl (by decide) (lvK1 0 rfl (Nat.ne_of_beq_eq_false rfl) (Nat.ne_of_beq_eq_false rfl) (lvK1 1 rfl (Nat.ne_of_beq_eq_false rfl) (Nat.ne_of_beq_eq_false rfl) (lvK1 2 rfl (Nat.ne_of_beq_eq_false rfl) (Nat.ne_of_beq_eq_false rfl) (lvK1 3 rfl (Nat.ne_of_beq_eq_false rfl) (Nat.ne_of_beq_eq_false rfl) (lvK1 4 rfl (Nat.ne_of_beq_eq_false rfl) (Nat.ne_of_beq_eq_false rfl) lvK0))))) (lvN1 (Nat.ne_of_beq_eq_false rfl) (lvN1 (Nat.ne_of_beq_eq_false rfl) (lvN1 (Nat.ne_of_beq_eq_false rfl) (lvN1 (Nat.ne_of_beq_eq_false rfl) (lvN1 (Nat.ne_of_beq_eq_false rfl) lvN0))))) (fun ls hl => ?_)
  refine m_aload_n (pc := 108) C dL_money_108 rfl (lv_at hl 1 rfl) ?_
  refine m_iload_n (pc := 109) C dL_money_109 rfl (lv_at hl 2 rfl) ?_
  refine m_iload (pc := 110) C dL_money_110 (lv_at hl 3 rfl) ?_
  obtain ⟨q1, h⟩ := ck_some h
  obtain ⟨a2, μ3, ca2, h⟩ := bd_some h
  refine V_X7_deposit (pc := 112) C hM ca2 rx3 rx4 q1 bw_4_121 ⟨Nat.le_of_ble_eq_true rfl, Nat.le_of_ble_eq_true rfl⟩ hl.1 rc0 ⟨Nat.le_refl _, Nat.le_refl _⟩ dL_money_112 (fun ra2 H locs hM => ?_)
  refine m_i2l (pc := 115) C ra2 dL_money_115 ?_
  refine m_lload (pc := 116) C dL_money_116 (lv_at hl 4 rfl) ?_
  refine m_lload (pc := 118) C dL_money_118 (lv_at hl 0 rfl) ?_
  obtain ⟨a4, ea4, h⟩ := nm_some h
  have ra4 : R64 a4 := by rw [ea4]; exact w64_R _
  refine m_lsub (pc := 120) C dL_money_120 ea4 ?_
  refine m_lcmp_ne (tgt := 159) (pc := 121) C (R32.to64 ra2) ra4 dL_money_121 dL_money_122 (by decide) (fun c5 => ?_) (fun c5 => ?_)
  · have h := if_t h c5
    refine m_iconst (pc := 159) C dL_money_159 ?_
    cases h
    exact m_zret (pc := 160) C rfl hM rk_0 dL_money_160
  · have h := if_f h c5
    refine m_aload_n (pc := 125) C dL_money_125 rfl (lv_at hl 1 rfl) ?_
    refine m_iload_n (pc := 126) C dL_money_126 rfl (lv_at hl 2 rfl) ?_
    refine m_iconst (pc := 127) C dL_money_127 ?_
    obtain ⟨q6, h⟩ := ck_some h
    obtain ⟨a7, μ8, ca7, h⟩ := bd_some h
    refine V_X7_owner (pc := 128) C hM ca7 rx3 rk_0 q6 bw_3_30 ⟨Nat.le_of_ble_eq_true rfl, Nat.le_of_ble_eq_true rfl⟩ hl.1 rc0 ⟨Nat.le_refl _, Nat.le_refl _⟩ dL_money_128 (fun ra7 H locs hM => ?_)
    refine m_lload (pc := 131) C dL_money_131 (lv_at hl 5 rfl) ?_
    refine m_iload (pc := 133) C dL_money_133 (lv_at hl 3 rfl) ?_
    refine m_i2l (pc := 135) C rx4 dL_money_135 ?_
    obtain ⟨a9, ea9, h⟩ := nm_some h
    have ra9 : R64 a9 := by rw [ea9]; exact w64_R _
    refine m_ladd (pc := 136) C dL_money_136 ea9 ?_
    refine m_lload (pc := 137) C dL_money_137 (lv_at hl 0 rfl) ?_
    obtain ⟨a10, ea10, h⟩ := nm_some h
    have ra10 : R64 a10 := by rw [ea10]; exact w64_R _
    refine m_lsub (pc := 139) C dL_money_139 ea10 ?_
    refine m_lcmp_ne (tgt := 159) (pc := 140) C ra7 ra10 dL_money_140 dL_money_141 (by decide) (fun c11 => ?_) (fun c11 => ?_)
    · have h := if_t h c11
      refine m_iconst (pc := 159) C dL_money_159 ?_
      cases h
      exact m_zret (pc := 160) C rfl hM rk_0 dL_money_160
    · have h := if_f h c11
      refine m_aload_n (pc := 144) C dL_money_144 rfl (lv_at hl 1 rfl) ?_
      refine m_iload_n (pc := 145) C dL_money_145 rfl (lv_at hl 2 rfl) ?_
      refine m_iconst (pc := 146) C dL_money_146 ?_
      obtain ⟨q12, h⟩ := ck_some h
      obtain ⟨a13, μ14, ca13, h⟩ := bd_some h
      refine V_X7_deposit (pc := 147) C hM ca13 rx3 rk_0 q12 bw_4_121 ⟨Nat.le_of_ble_eq_true rfl, Nat.le_of_ble_eq_true rfl⟩ hl.1 rc0 ⟨Nat.le_refl _, Nat.le_refl _⟩ dL_money_147 (fun ra13 H locs hM => ?_)
      refine m_ldc (n := -100000002) (pc := 150) C bw_3_83 rfl dL_money_150 ?_
      refine m_icmp_ne (tgt := 159) (pc := 152) C ra13 rk_m100000002 dL_money_152 (by decide) (fun c15 => ?_) (fun c15 => ?_)
      · have h := if_t h c15
        refine m_iconst (pc := 159) C dL_money_159 ?_
        cases h
        exact m_zret (pc := 160) C rfl hM rk_0 dL_money_160
      · have h := if_f h c15
        refine m_iconst (pc := 155) C dL_money_155 ?_
        refine m_goto (tgt := 160) (pc := 156) C dL_money_156 (by decide) ?_
        cases h
        exact m_zret (pc := 160) C rfl hM rk_1 dL_money_160
set_option maxHeartbeats 4000000 in
set_option maxRecDepth 100000 in
theorem k_L_money_b45 (C : gCx p s m args meth c cL_money 11 (some .boolean) "money" RL) (N : Nat) {r : Int} {μ' : Mm} : ∀ (x0 x1 x2 : Int) (μ : Mm), f_L_money_b45 N x0 x1 x2 μ = some (r, μ') → R32 x1 → R32 x2 → ∀ (H : Heap) (locs : List Loc) (ls : Array Slot), MS E μ s H locs → lv_has ls 11 [(0, vr E x0), (1, vi x1), (2, vi x2)] → W p l e ({ frames := 5, cells := 0, slots := 0, locals := 128 } : Room) s m args below meth c H locs 0 0 (MQ below (gQ E (some (vi r)) (R32 r) μ') args s 0 0 (gA E)) (F0 m 45 ls []) := by
  intro x0 x1 x2 μ h rx1 rx2 H locs ls hM hl
  unfold f_L_money_b45 at h
  refine m_iload_n (pc := 45) C dL_money_45 rfl (lv_at hl 1 rfl) ?_
  refine m_aload_n (pc := 46) C dL_money_46 rfl (lv_at hl 0 rfl) ?_
  refine m_iconst (pc := 47) C dL_money_47 ?_
  obtain ⟨q1, h⟩ := ck_some h
  obtain ⟨a2, μ3, ca2, h⟩ := bd_some h
  refine V_X7_count (pc := 48) C hM ca2 rk_1 q1 bw_3_4 ⟨Nat.le_of_ble_eq_true rfl, Nat.le_of_ble_eq_true rfl⟩ hl.1 (rcI rc0) ⟨Nat.le_refl _, Nat.le_refl _⟩ dL_money_48 (fun ra2 H locs hM => ?_)
  obtain ⟨a4, μ5, ca4, h⟩ := bd_some h
  refine V_L_low (pc := 51) C hM ca4 rx1 ra2 bw_3_17 ⟨Nat.le_of_ble_eq_true rfl, Nat.le_of_ble_eq_true rfl⟩ hl.1 rc0 ⟨Nat.le_refl _, Nat.le_refl _⟩ dL_money_51 (fun ra4 H locs hM => ?_)
  refine m_istore_n (pc := 54) C dL_money_54 rfl hl (by decide) (lvK1 0 rfl (Nat.ne_of_beq_eq_false rfl) (Nat.ne_of_beq_eq_false rfl) (lvK2 2 rfl (Nat.ne_of_beq_eq_false rfl) rfl lvK0)) (fun ls hl => ?_)
  refine m_iload_n (pc := 55) C dL_money_55 rfl (lv_at hl 2 rfl) ?_
  refine m_iconst (pc := 56) C dL_money_56 ?_
  obtain ⟨a6, ea6, h⟩ := nm_some h
  have ra6 : R32 a6 := by rw [ea6]; exact R32_of _
  refine m_iand (pc := 57) C dL_money_57 ea6 ?_
  refine m_if_ne (tgt := 161) (pc := 58) C ra6 dL_money_58 (by decide) (fun c7 => ?_) (fun c7 => ?_)
  · have h := if_t h c7
    refine m_iload_n (pc := 161) C dL_money_161 rfl (lv_at hl 2 rfl) ?_
    refine m_iconst (pc := 162) C dL_money_162 ?_
    obtain ⟨a8, ea8, h⟩ := nm_some h
    have ra8 : R32 a8 := by rw [ea8]; exact R32_of _
    refine m_ishr (pc := 163) C dL_money_163 ea8 ?_
    refine m_ldc (n := 300000) (pc := 164) C bw_4_141 rfl dL_money_164 ?_
    obtain ⟨a9, μ10, ca9, h⟩ := bd_some h
    refine V_L_low (pc := 166) C hM ca9 ra8 rk_300000 bw_3_17 ⟨Nat.le_of_ble_eq_true rfl, Nat.le_of_ble_eq_true rfl⟩ hl.1 rc0 ⟨Nat.le_refl _, Nat.le_refl _⟩ dL_money_166 (fun ra9 H locs hM => ?_)
    refine m_istore (pc := 169) C dL_money_169 hl (by decide) (lvK2 0 rfl (Nat.ne_of_beq_eq_false rfl) rfl (lvK1 1 rfl (Nat.ne_of_beq_eq_false rfl) (Nat.ne_of_beq_eq_false rfl) lvK0)) (fun ls hl => ?_)
    refine m_aload_n (pc := 171) C dL_money_171 rfl (lv_at hl 2 rfl) ?_
    refine m_iload_n (pc := 172) C dL_money_172 rfl (lv_at hl 1 rfl) ?_
    refine m_iconst (pc := 173) C dL_money_173 ?_
    obtain ⟨q11, h⟩ := ck_some h
    obtain ⟨a12, μ13, ca12, h⟩ := bd_some h
    refine V_X7_owner (pc := 174) C hM ca12 ra4 rk_3 q11 bw_3_30 ⟨Nat.le_of_ble_eq_true rfl, Nat.le_of_ble_eq_true rfl⟩ hl.1 rc0 ⟨Nat.le_refl _, Nat.le_refl _⟩ dL_money_174 (fun ra12 H locs hM => ?_)
    refine m_aload_n (pc := 177) C dL_money_177 rfl (lv_at hl 2 rfl) ?_
    refine m_bipush (pc := 178) C dL_money_178 rfl ?_
    obtain ⟨q14, h⟩ := ck_some h
    obtain ⟨a15, μ16, ca15, h⟩ := bd_some h
    refine V_X7_count (pc := 180) C hM ca15 rk_8 q14 bw_3_4 ⟨Nat.le_of_ble_eq_true rfl, Nat.le_of_ble_eq_true rfl⟩ hl.1 (rcL rc0) ⟨Nat.le_refl _, Nat.le_refl _⟩ dL_money_180 (fun ra15 H locs hM => ?_)
    refine m_i2l (pc := 183) C ra15 dL_money_183 ?_
    obtain ⟨a17, ea17, h⟩ := nm_some h
    have ra17 : R64 a17 := by rw [ea17]; exact w64_R _
    refine m_lmul (pc := 184) C dL_money_184 ea17 ?_
    refine m_ldc2 (n := 100) (pc := 185) C bw_3_89 rfl dL_money_185 ?_
    obtain ⟨a18, ea18, h⟩ := nm_some h
    have ra18 : R64 a18 := by rw [ea18]; exact w64_R _
    refine m_ldiv (pc := 188) C ra17 rl_100 (by decide) dL_money_188 ea18 ?_
    refine m_iload (pc := 189) C dL_money_189 (lv_at hl 0 rfl) ?_
    refine m_i2l (pc := 191) C ra9 dL_money_191 ?_
    refine m_lcmp_gt (tgt := 200) (pc := 192) C ra18 (R32.to64 ra9) dL_money_192 dL_money_193 (by decide) (fun c20 => ?_) (fun c20 => ?_)
    · have h := if_t h c20
      refine m_iconst (pc := 200) C dL_money_200 ?_
      exact k_L_money_b201 C N _ _ _ _ _ h ra4 ra9 rk_0 _ _ _ hM (lv_sub hl [2, 1, 0] rfl)
    · have h := if_f h c20
      refine m_iconst (pc := 196) C dL_money_196 ?_
      refine m_goto (tgt := 201) (pc := 197) C dL_money_197 (by decide) ?_
      exact k_L_money_b201 C N _ _ _ _ _ h ra4 ra9 rk_1 _ _ _ hM (lv_sub hl [2, 1, 0] rfl)
  · have h := if_f h c7
    refine m_iconst (pc := 61) C dL_money_61 ?_
    refine m_iload_n (pc := 62) C dL_money_62 rfl (lv_at hl 2 rfl) ?_
    refine m_iconst (pc := 63) C dL_money_63 ?_
    obtain ⟨a21, ea21, h⟩ := nm_some h
    have ra21 : R32 a21 := by rw [ea21]; exact R32_of _
    refine m_ishr (pc := 64) C dL_money_64 ea21 ?_
    refine m_ldc (n := 400000) (pc := 65) C bw_4_140 rfl dL_money_65 ?_
    obtain ⟨a22, μ23, ca22, h⟩ := bd_some h
    refine V_L_low (pc := 67) C hM ca22 ra21 rk_400000 bw_3_17 ⟨Nat.le_of_ble_eq_true rfl, Nat.le_of_ble_eq_true rfl⟩ hl.1 (rcI rc0) ⟨Nat.le_refl _, Nat.le_refl _⟩ dL_money_67 (fun ra22 H locs hM => ?_)
    obtain ⟨a24, ea24, h⟩ := nm_some h
    have ra24 : R32 a24 := by rw [ea24]; exact w32_R _
    refine m_iadd (pc := 70) C dL_money_70 ea24 ?_
    refine m_istore (pc := 71) C dL_money_71 hl (by decide) (lvK2 0 rfl (Nat.ne_of_beq_eq_false rfl) rfl (lvK1 1 rfl (Nat.ne_of_beq_eq_false rfl) (Nat.ne_of_beq_eq_false rfl) lvK0)) (fun ls hl => ?_)
    refine m_aload_n (pc := 73) C dL_money_73 rfl (lv_at hl 2 rfl) ?_
    refine m_iload_n (pc := 74) C dL_money_74 rfl (lv_at hl 1 rfl) ?_
    refine m_iconst (pc := 75) C dL_money_75 ?_
    obtain ⟨q25, h⟩ := ck_some h
    obtain ⟨a26, μ27, ca26, h⟩ := bd_some h
    refine V_X7_owner (pc := 76) C hM ca26 ra4 rk_2 q25 bw_3_30 ⟨Nat.le_of_ble_eq_true rfl, Nat.le_of_ble_eq_true rfl⟩ hl.1 rc0 ⟨Nat.le_refl _, Nat.le_refl _⟩ dL_money_76 (fun ra26 H locs hM => ?_)
    refine m_lstore (pc := 79) C dL_money_79 hl (by decide) (lvK2 0 rfl (Nat.ne_of_beq_eq_false rfl) rfl (lvK1 1 rfl (Nat.ne_of_beq_eq_false rfl) (Nat.ne_of_beq_eq_false rfl) (lvK1 2 rfl (Nat.ne_of_beq_eq_false rfl) (Nat.ne_of_beq_eq_false rfl) lvK0))) (lvN1 (Nat.ne_of_beq_eq_false rfl) (lvN1 (Nat.ne_of_beq_eq_false rfl) (lvN1 (Nat.ne_of_beq_eq_false rfl) lvN0))) (fun ls hl => ?_)
    refine m_aload_n (pc := 81) C dL_money_81 rfl (lv_at hl 3 rfl) ?_
    refine m_iload_n (pc := 82) C dL_money_82 rfl (lv_at hl 2 rfl) ?_
    refine m_iconst (pc := 83) C dL_money_83 ?_
    obtain ⟨q28, h⟩ := ck_some h
    obtain ⟨a29, μ30, ca29, h⟩ := bd_some h
    refine V_X7_owner (pc := 84) C hM ca29 ra4 rk_0 q28 bw_3_30 ⟨Nat.le_of_ble_eq_true rfl, Nat.le_of_ble_eq_true rfl⟩ hl.1 rc0 ⟨Nat.le_refl _, Nat.le_refl _⟩ dL_money_84 (fun ra29 H locs hM => ?_)
    refine m_lstore (pc := 87) C dL_money_87 hl (by decide) (lvK1 0 rfl (Nat.ne_of_beq_eq_false rfl) (Nat.ne_of_beq_eq_false rfl) (lvK1 1 rfl (Nat.ne_of_beq_eq_false rfl) (Nat.ne_of_beq_eq_false rfl) (lvK1 2 rfl (Nat.ne_of_beq_eq_false rfl) (Nat.ne_of_beq_eq_false rfl) (lvK1 3 rfl (Nat.ne_of_beq_eq_false rfl) (Nat.ne_of_beq_eq_false rfl) lvK0)))) (lvN1 (Nat.ne_of_beq_eq_false rfl) (lvN1 (Nat.ne_of_beq_eq_false rfl) (lvN1 (Nat.ne_of_beq_eq_false rfl) (lvN1 (Nat.ne_of_beq_eq_false rfl) lvN0)))) (fun ls hl => ?_)
    refine m_lload (pc := 89) C dL_money_89 (lv_at hl 1 rfl) ?_
    refine m_iload (pc := 91) C dL_money_91 (lv_at hl 2 rfl) ?_
    refine m_i2l (pc := 93) C ra24 dL_money_93 ?_
    refine m_lcmp_ge (tgt := 103) (pc := 94) C ra26 (R32.to64 ra24) dL_money_94 dL_money_95 (by decide) (fun c31 => ?_) (fun c31 => ?_)
    · have h := if_t h c31
      refine m_iload (pc := 103) C dL_money_103 (lv_at hl 2 rfl) ?_
      refine m_i2l (pc := 105) C ra24 dL_money_105 ?_
      exact k_L_money_b106 C N _ _ _ _ _ _ _ h ra4 ra24 ra26 ra29 (R32.to64 ra24) _ _ _ hM (lv_sub hl [4, 3, 2, 1, 0] rfl)
    · have h := if_f h c31
      refine m_lload (pc := 98) C dL_money_98 (lv_at hl 1 rfl) ?_
      refine m_goto (tgt := 106) (pc := 100) C dL_money_100 (by decide) ?_
      exact k_L_money_b106 C N _ _ _ _ _ _ _ h ra4 ra24 ra26 ra29 ra26 _ _ _ hM (lv_sub hl [4, 3, 2, 1, 0] rfl)
set_option maxHeartbeats 4000000 in
set_option maxRecDepth 100000 in
theorem c_L_money (l : Launch) (E : gE) (N : Nat) (x0 x1 x2 : Int) (μ μ' : Mm) (r : Int) (h : f_L_money N x0 x1 x2 μ = some (r, μ')) (rx1 : R32 x1) (rx2 : R32 x2) : gMet l E yL_money cL_money 11 (some .boolean) 5 128 [vr E x0, vi x1, vi x2] (some (vi r)) (R32 r) μ μ' 0 0 := by
  refine g_ofW [1, 1, 1] (by first | (simp only [List.map_cons, List.map_nil, vr_cat]; done) | (simp only [List.map_cons, List.map_nil, vr_cat]; rfl)) (by decide) (by decide) (fun p e s m below meth c ls C hM hl => ?_)
  replace C : gCx p s m _ meth c cL_money 11 (some .boolean) "money" RL := C
  replace hl : lv_has ls 11 [(0, vr E x0), (1, vi x1), (2, vi x2)] := hl
  unfold f_L_money at h
  refine m_aload_n (pc := 0) C dL_money_0 rfl (lv_at hl 0 rfl) ?_
  refine m_iconst (pc := 1) C dL_money_1 ?_
  obtain ⟨q1, h⟩ := ck_some h
  obtain ⟨a2, μ3, ca2, h⟩ := bd_some h
  refine V_X7_count (pc := 2) C hM ca2 rk_1 q1 bw_3_4 ⟨Nat.le_of_ble_eq_true rfl, Nat.le_of_ble_eq_true rfl⟩ hl.1 rc0 ⟨Nat.le_refl _, Nat.le_refl _⟩ dL_money_2 (fun ra2 H locs hM => ?_)
  refine m_iconst (pc := 5) C dL_money_5 ?_
  refine m_icmp_lt (tgt := 25) (pc := 6) C ra2 rk_2 dL_money_6 (by decide) (fun c4 => ?_) (fun c4 => ?_)
  · have h := if_t h c4
    exact k_L_money_b25 C N _ _ h _ _ _ hM (lv_sub hl [0] rfl)
  · have h := if_f h c4
    refine m_iload_n (pc := 9) C dL_money_9 rfl (lv_at hl 1 rfl) ?_
    refine m_bipush (pc := 10) C dL_money_10 rfl ?_
    obtain ⟨a5, ea5, h⟩ := nm_some h
    have ra5 : R32 a5 := by rw [ea5]; exact R32_of _
    refine m_iand (pc := 12) C dL_money_12 ea5 ?_
    refine m_if_ne (tgt := 45) (pc := 13) C ra5 dL_money_13 (by decide) (fun c6 => ?_) (fun c6 => ?_)
    · have h := if_t h c6
      exact k_L_money_b45 C N _ _ _ _ h rx1 rx2 _ _ _ hM (lv_sub hl [0, 1, 2] rfl)
    · have h := if_f h c6
      refine m_aload_n (pc := 16) C dL_money_16 rfl (lv_at hl 0 rfl) ?_
      refine m_iconst (pc := 17) C dL_money_17 ?_
      obtain ⟨q7, h⟩ := ck_some h
      obtain ⟨a8, μ9, ca8, h⟩ := bd_some h
      refine V_X7_count (pc := 18) C hM ca8 rk_1 q7 bw_3_4 ⟨Nat.le_of_ble_eq_true rfl, Nat.le_of_ble_eq_true rfl⟩ hl.1 rc0 ⟨Nat.le_refl _, Nat.le_refl _⟩ dL_money_18 (fun ra8 H locs hM => ?_)
      refine m_iconst (pc := 21) C dL_money_21 ?_
      refine m_icmp_ge (tgt := 45) (pc := 22) C ra8 rk_5 dL_money_22 (by decide) (fun c10 => ?_) (fun c10 => ?_)
      · have h := if_t h c10
        exact k_L_money_b45 C N _ _ _ _ h rx1 rx2 _ _ _ hM (lv_sub hl [0, 1, 2] rfl)
      · have h := if_f h c10
        exact k_L_money_b25 C N _ _ h _ _ _ hM (lv_sub hl [0] rfl)
theorem hd_L_money : yL_money.cls ≠ "java/lang/invoke/MethodHandle" ∧ yL_money.cls ≠ "java/lang/invoke/VarHandle" ∧ (parseMethodDescriptor yL_money.desc).map (fun d => d.parameters.length) = some 3 := by decide +kernel

theorem V_L_money {p : Program} {l : Launch} {e : Env} {R : Room} {s : State} {m : MethodId} {args : Array Value} {below : List Frame} {meth : Method} {c : Code} {H : Heap} {locs : List Loc} {cells slots : Nat} {Q : State → Prop} {cc : ByteArray} {pc nL : Nat} {ls : Array Slot} {rest : List Value} {ret : Option FieldType} {nmm own : String} {E : gE} {μ μ1 : Mm} {index : Nat} (C : gCx p s m args meth c cc nL ret nmm own) (hM : MS E μ s H locs) {N : Nat} {x0 x1 x2 v : Int} (hc : f_L_money N x0 x1 x2 μ = some (v, μ1)) (rx1 : R32 x1) (rx2 : R32 x2) (h1 : Cond.methodLink own index yL_money ∈ bigL) (hR : 6 ≤ R.frames ∧ 158 ≤ R.locals) (hl : ls.size = nL) (hcat : RC rest 8) (hf : cells + 0 ≤ R.cells ∧ slots + 0 ≤ R.slots) (hdg : decode cc pc = .ok (.invokestatic index, 3)) (kk : (R32 v) → ∀ (H1 : Heap) (locs1 : List Loc), MS E μ1 s H1 locs1 → W p l e R s m args below meth c H1 locs1 (cells + 0) (slots + 0) Q (F0 m (pc + 3) ls (vi v :: rest))) : W p l e R s m args below meth c H locs cells slots Q (F0 m pc ls (vi x2 :: vi x1 :: vr E x0 :: rest)) := g_callS C hM (c_L_money l E N x0 x1 x2 μ μ1 v hc rx1 rx2) (gS h1 bw_4_133 bw_1_0 bw_4_134) hd_L_money hR rfl hl rfl hcat hf hdg kk
/-! L_digits -/
def f_L_digits_b23 (N : Nat) : Nat → Int → Int → Int → Int → Mm → Rs
  | 0, _, _, _, _, _ => none
  | n + 1, x0, x1, x3, x4, μ =>
    if x4 ≤ 0 then
      (some (x3, μ))
    else
    ck (x4 ≠ 0) <|
    nm (w32 (Int.tdiv x1 x4)) fun a2 =>
    nm (o_rem a2 10) fun a4 =>
    nm (w32 (48 + a4)) fun a6 =>
    nm (o_i2c a6) fun a7 =>
    ck (μ x0 (-2) = 9) <|
    bd (f_X7_type N x0 a7 μ) fun a9 μ10 =>
    nm (w32 (Int.tdiv x4 10)) fun a11 =>
    f_L_digits_b23 N n x0 x1 a9 a11 μ10
def f_L_digits_b4 (N : Nat) : Nat → Int → Int → Int → Int → Mm → Rs
  | 0, _, _, _, _, _ => none
  | n + 1, x0, x1, x2, x3, μ =>
    nm (w32 (Int.tdiv x1 10)) fun a1 =>
    if a1 < x2 then
      (f_L_digits_b23 N N x0 x1 x3 x2 μ)
    else
    nm (w32 (x2 * 10)) fun a4 =>
    f_L_digits_b4 N n x0 x1 a4 x3 μ
def f_L_digits (N : Nat) (x0 x1 : Int) (μ : Mm) : Rs :=
  f_L_digits_b4 N N x0 x1 1 0 μ
set_option maxHeartbeats 4000000 in
set_option maxRecDepth 100000 in
theorem k_L_digits_b23 (C : gCx p s m args meth c cL_digits 5 (some .int) "digits" RL) (N : Nat) {r : Int} {μ' : Mm} : ∀ (n : Nat), ∀ (x0 x1 x3 x4 : Int) (μ : Mm), f_L_digits_b23 N n x0 x1 x3 x4 μ = some (r, μ') → R32 x1 → R32 x3 → R32 x4 → ∀ (H : Heap) (locs : List Loc) (ls : Array Slot), MS E μ s H locs → lv_has ls 5 [(0, vr E x0), (1, vi x1), (3, vi x3), (4, vi x4)] → W p l e ({ frames := 2, cells := 0, slots := 0, locals := 42 } : Room) s m args below meth c H locs 0 0 (MQ below (gQ E (some (vi r)) (R32 r) μ') args s 0 0 (gA E)) (F0 m 23 ls []) := by
  intro n
  induction n with
  | zero => intro x0 x1 x3 x4 μ h; simp [f_L_digits_b23] at h
  | succ n ih =>
    intro x0 x1 x3 x4 μ h rx1 rx3 rx4 H locs ls hM hl
    rw [f_L_digits_b23] at h
    refine m_iload (pc := 23) C dL_digits_23 (lv_at hl 3 rfl) ?_
    refine m_if_le (tgt := 54) (pc := 25) C rx4 dL_digits_25 (by decide) (fun c1 => ?_) (fun c1 => ?_)
    · have h := if_t h c1
      refine m_iload_n (pc := 54) C dL_digits_54 rfl (lv_at hl 2 rfl) ?_
      cases h
      exact m_iret (pc := 55) C hM rx3 dL_digits_55
    · have h := if_f h c1
      refine m_aload_n (pc := 28) C dL_digits_28 rfl (lv_at hl 0 rfl) ?_
      refine m_bipush (pc := 29) C dL_digits_29 rfl ?_
      refine m_iload_n (pc := 31) C dL_digits_31 rfl (lv_at hl 1 rfl) ?_
      refine m_iload (pc := 32) C dL_digits_32 (lv_at hl 3 rfl) ?_
      obtain ⟨q3, h⟩ := ck_some h
      obtain ⟨a2, ea2, h⟩ := nm_some h
      have ra2 : R32 a2 := by rw [ea2]; exact w32_R _
      refine m_idiv (pc := 34) C rx1 rx4 q3 dL_digits_34 ea2 ?_
      refine m_bipush (pc := 35) C dL_digits_35 rfl ?_
      obtain ⟨a4, ea4, h⟩ := nm_some h
      have ra4 : R32 a4 := by rw [ea4]; exact R32_of _
      refine m_irem (pc := 37) C rk_10 (by decide) dL_digits_37 ea4 ?_
      obtain ⟨a6, ea6, h⟩ := nm_some h
      have ra6 : R32 a6 := by rw [ea6]; exact w32_R _
      refine m_iadd (pc := 38) C dL_digits_38 ea6 ?_
      obtain ⟨a7, ea7, h⟩ := nm_some h
      have ra7 : R32 a7 := by rw [ea7]; exact R32_of _
      refine m_i2c (pc := 39) C dL_digits_39 ea7 ?_
      obtain ⟨q8, h⟩ := ck_some h
      obtain ⟨a9, μ10, ca9, h⟩ := bd_some h
      refine V_X7_type (pc := 40) C hM ca9 ra7 q8 bw_5_19 ⟨Nat.le_of_ble_eq_true rfl, Nat.le_of_ble_eq_true rfl⟩ hl.1 rc0 ⟨Nat.le_refl _, Nat.le_refl _⟩ dL_digits_40 (fun ra9 H locs hM => ?_)
      refine m_istore_n (pc := 43) C dL_digits_43 rfl hl (by decide) (lvK1 0 rfl (Nat.ne_of_beq_eq_false rfl) (Nat.ne_of_beq_eq_false rfl) (lvK1 1 rfl (Nat.ne_of_beq_eq_false rfl) (Nat.ne_of_beq_eq_false rfl) (lvK1 3 rfl (Nat.ne_of_beq_eq_false rfl) (Nat.ne_of_beq_eq_false rfl) lvK0))) (fun ls hl => ?_)
      refine m_iload (pc := 44) C dL_digits_44 (lv_at hl 3 rfl) ?_
      refine m_bipush (pc := 46) C dL_digits_46 rfl ?_
      obtain ⟨a11, ea11, h⟩ := nm_some h
      have ra11 : R32 a11 := by rw [ea11]; exact w32_R _
      refine m_idiv (pc := 48) C rx4 rk_10 (by decide) dL_digits_48 ea11 ?_
      refine m_istore (pc := 49) C dL_digits_49 hl (by decide) (lvK2 0 rfl (Nat.ne_of_beq_eq_false rfl) rfl (lvK1 1 rfl (Nat.ne_of_beq_eq_false rfl) (Nat.ne_of_beq_eq_false rfl) (lvK1 2 rfl (Nat.ne_of_beq_eq_false rfl) (Nat.ne_of_beq_eq_false rfl) lvK0))) (fun ls hl => ?_)
      refine m_goto (tgt := 23) (pc := 51) C dL_digits_51 (by decide) ?_
      exact ih _ _ _ _ _ h rx1 ra9 ra11 _ _ _ hM (lv_sub hl [2, 3, 1, 0] rfl)
set_option maxHeartbeats 4000000 in
set_option maxRecDepth 100000 in
theorem k_L_digits_b4 (C : gCx p s m args meth c cL_digits 5 (some .int) "digits" RL) (N : Nat) {r : Int} {μ' : Mm} : ∀ (n : Nat), ∀ (x0 x1 x2 x3 : Int) (μ : Mm), f_L_digits_b4 N n x0 x1 x2 x3 μ = some (r, μ') → R32 x1 → R32 x2 → R32 x3 → ∀ (H : Heap) (locs : List Loc) (ls : Array Slot), MS E μ s H locs → lv_has ls 5 [(0, vr E x0), (1, vi x1), (2, vi x2), (3, vi x3)] → W p l e ({ frames := 2, cells := 0, slots := 0, locals := 42 } : Room) s m args below meth c H locs 0 0 (MQ below (gQ E (some (vi r)) (R32 r) μ') args s 0 0 (gA E)) (F0 m 4 ls []) := by
  intro n
  induction n with
  | zero => intro x0 x1 x2 x3 μ h; simp [f_L_digits_b4] at h
  | succ n ih =>
    intro x0 x1 x2 x3 μ h rx1 rx2 rx3 H locs ls hM hl
    rw [f_L_digits_b4] at h
    refine m_iload_n (pc := 4) C dL_digits_4 rfl (lv_at hl 2 rfl) ?_
    refine m_iload_n (pc := 5) C dL_digits_5 rfl (lv_at hl 1 rfl) ?_
    refine m_bipush (pc := 6) C dL_digits_6 rfl ?_
    obtain ⟨a1, ea1, h⟩ := nm_some h
    have ra1 : R32 a1 := by rw [ea1]; exact w32_R _
    refine m_idiv (pc := 8) C rx1 rk_10 (by decide) dL_digits_8 ea1 ?_
    refine m_icmp_gt (tgt := 20) (pc := 9) C rx2 ra1 dL_digits_9 (by decide) (fun c3 => ?_) (fun c3 => ?_)
    · have h := if_t h c3
      refine m_iload_n (pc := 20) C dL_digits_20 rfl (lv_at hl 2 rfl) ?_
      refine m_istore (pc := 21) C dL_digits_21 hl (by decide) (lvK1 0 rfl (Nat.ne_of_beq_eq_false rfl) (Nat.ne_of_beq_eq_false rfl) (lvK1 1 rfl (Nat.ne_of_beq_eq_false rfl) (Nat.ne_of_beq_eq_false rfl) (lvK2 3 rfl (Nat.ne_of_beq_eq_false rfl) rfl lvK0))) (fun ls hl => ?_)
      exact k_L_digits_b23 C N N _ _ _ _ _ h rx1 rx3 rx2 _ _ _ hM (lv_sub hl [1, 2, 3, 0] rfl)
    · have h := if_f h c3
      refine m_iload_n (pc := 12) C dL_digits_12 rfl (lv_at hl 2 rfl) ?_
      refine m_bipush (pc := 13) C dL_digits_13 rfl ?_
      obtain ⟨a4, ea4, h⟩ := nm_some h
      have ra4 : R32 a4 := by rw [ea4]; exact w32_R _
      refine m_imul (pc := 15) C dL_digits_15 ea4 ?_
      refine m_istore_n (pc := 16) C dL_digits_16 rfl hl (by decide) (lvK1 0 rfl (Nat.ne_of_beq_eq_false rfl) (Nat.ne_of_beq_eq_false rfl) (lvK2 1 rfl (Nat.ne_of_beq_eq_false rfl) rfl (lvK1 3 rfl (Nat.ne_of_beq_eq_false rfl) (Nat.ne_of_beq_eq_false rfl) lvK0))) (fun ls hl => ?_)
      refine m_goto (tgt := 4) (pc := 17) C dL_digits_17 (by decide) ?_
      exact ih _ _ _ _ _ h rx1 ra4 rx3 _ _ _ hM (lv_sub hl [1, 2, 0, 3] rfl)
set_option maxHeartbeats 4000000 in
set_option maxRecDepth 100000 in
theorem c_L_digits (l : Launch) (E : gE) (N : Nat) (x0 x1 : Int) (μ μ' : Mm) (r : Int) (h : f_L_digits N x0 x1 μ = some (r, μ')) (rx1 : R32 x1) : gMet l E yL_digits cL_digits 5 (some .int) 2 42 [vr E x0, vi x1] (some (vi r)) (R32 r) μ μ' 0 0 := by
  refine g_ofW [1, 1] (by first | (simp only [List.map_cons, List.map_nil, vr_cat]; done) | (simp only [List.map_cons, List.map_nil, vr_cat]; rfl)) (by decide) (by decide) (fun p e s m below meth c ls C hM hl => ?_)
  replace C : gCx p s m _ meth c cL_digits 5 (some .int) "digits" RL := C
  replace hl : lv_has ls 5 [(0, vr E x0), (1, vi x1)] := hl
  unfold f_L_digits at h
  refine m_iconst (pc := 0) C dL_digits_0 ?_
  refine m_istore_n (pc := 1) C dL_digits_1 rfl hl (by decide) (lvK1 0 rfl (Nat.ne_of_beq_eq_false rfl) (Nat.ne_of_beq_eq_false rfl) (lvK2 1 rfl (Nat.ne_of_beq_eq_false rfl) rfl lvK0)) (fun ls hl => ?_)
  refine m_iconst (pc := 2) C dL_digits_2 ?_
  refine m_istore_n (pc := 3) C dL_digits_3 rfl hl (by decide) (lvK2 0 rfl (Nat.ne_of_beq_eq_false rfl) rfl (lvK1 1 rfl (Nat.ne_of_beq_eq_false rfl) (Nat.ne_of_beq_eq_false rfl) (lvK1 2 rfl (Nat.ne_of_beq_eq_false rfl) (Nat.ne_of_beq_eq_false rfl) lvK0))) (fun ls hl => ?_)
  exact k_L_digits_b4 C N N _ _ _ _ _ h rx1 rk_1 rk_0 _ _ _ hM (lv_sub hl [2, 3, 1, 0] rfl)
theorem hd_L_digits : yL_digits.cls ≠ "java/lang/invoke/MethodHandle" ∧ yL_digits.cls ≠ "java/lang/invoke/VarHandle" ∧ (parseMethodDescriptor yL_digits.desc).map (fun d => d.parameters.length) = some 2 := by decide +kernel

theorem V_L_digits {p : Program} {l : Launch} {e : Env} {R : Room} {s : State} {m : MethodId} {args : Array Value} {below : List Frame} {meth : Method} {c : Code} {H : Heap} {locs : List Loc} {cells slots : Nat} {Q : State → Prop} {cc : ByteArray} {pc nL : Nat} {ls : Array Slot} {rest : List Value} {ret : Option FieldType} {nmm own : String} {E : gE} {μ μ1 : Mm} {index : Nat} (C : gCx p s m args meth c cc nL ret nmm own) (hM : MS E μ s H locs) {N : Nat} {x0 x1 v : Int} (hc : f_L_digits N x0 x1 μ = some (v, μ1)) (rx1 : R32 x1) (h1 : Cond.methodLink own index yL_digits ∈ bigL) (hR : 3 ≤ R.frames ∧ 66 ≤ R.locals) (hl : ls.size = nL) (hcat : RC rest 8) (hf : cells + 0 ≤ R.cells ∧ slots + 0 ≤ R.slots) (hdg : decode cc pc = .ok (.invokestatic index, 3)) (kk : (R32 v) → ∀ (H1 : Heap) (locs1 : List Loc), MS E μ1 s H1 locs1 → W p l e R s m args below meth c H1 locs1 (cells + 0) (slots + 0) Q (F0 m (pc + 3) ls (vi v :: rest))) : W p l e R s m args below meth c H locs cells slots Q (F0 m pc ls (vi x1 :: vr E x0 :: rest)) := g_callS C hM (c_L_digits l E N x0 x1 μ μ1 v hc rx1) (gS h1 bw_5_28 bw_1_0 bw_5_29) hd_L_digits hR rfl hl rfl hcat hf hdg kk
/-! L_orders -/
def f_L_orders_b344 (N : Nat) (x0 x5 x8 x11 x12 x14 y0 : Int) (μ : Mm) : Rs :=
  if 0 ≤ y0 then
    (ck (μ x0 (-2) = 9) <|
     bd (f_X7_pass N x0 x5 μ) fun a3 μ4 =>
     if ¬ x11 = 2 then
       (some (0, μ4))
     else
     bd (f_L_digest N x0 μ4) fun a6 μ7 =>
     if ¬ a6 = x12 then
       (some (0, μ7))
     else
     some (1, μ7))
  else
  if ¬ x11 = 0 then
    (some (0, μ))
  else
  if ¬ x12 = x8 then
    (some (0, μ))
  else
  if ¬ y0 = ((-100000003)) then
    (some (1, μ))
  else
  ck (μ x0 (-2) = 9) <|
  bd (f_X7_count N x0 11 μ) fun a13 μ14 =>
  if ¬ a13 = x14 then
    (some (0, μ14))
  else
  some (1, μ14)
def f_L_orders_b302 (N : Nat) (x0 x3 x4 x5 x6 x8 x11 x12 x14 y0 y1 : Int) (μ : Mm) : Rs :=
  if ¬ y0 = y1 then
    (some (0, μ))
  else
  ck (μ x0 (-2) = 9) <|
  bd (f_X7_undo N x0 μ) fun a3 μ4 =>
  if a3 < 0 then
    (some (0, μ4))
  else
  bd (f_L_digest N x0 μ4) fun a6 μ7 =>
  if a6 = x8 then
    (if x6 = 0 then
       (ck (μ7 x0 (-2) = 9) <|
        bd (f_X7_prove N x0 x3 μ7) fun a11 μ12 =>
        f_L_orders_b344 N x0 x5 x8 x11 x12 x14 a11 μ12)
     else
     ck (μ7 x0 (-2) = 9) <|
     bd (f_X7_give N x0 x3 x4 μ7) fun a14 μ15 =>
     f_L_orders_b344 N x0 x5 x8 x11 x12 x14 a14 μ15)
  else
  some (0, μ7)
def f_L_orders_b182 (N : Nat) (x0 x3 x4 x5 x6 : Int) (μ : Mm) : Rs :=
  ck (μ x0 (-2) = 9) <|
  bd (f_X7_type N x0 59 μ) fun a2 μ3 =>
  ck (μ3 x0 (-2) = 9) <|
  bd (f_X7_runOrders N x0 μ3) fun a5 μ6 =>
  nm (w32 (((-100)) - a2)) fun a7 =>
  if a5 = a7 then
    (ck (μ6 x0 (-2) = 9) <|
     bd (f_X7_type N x0 100 μ6) fun a10 μ11 =>
     ck (μ11 x0 (-2) = 9) <|
     bd (f_X7_type N x0 97 μ11) fun a13 μ14 =>
     ck (μ14 x0 (-2) = 9) <|
     bd (f_X7_type N x0 121 μ14) fun a16 μ17 =>
     ck (μ17 x0 (-2) = 9) <|
     bd (f_X7_type N x0 115 μ17) fun a19 μ20 =>
     ck (μ20 x0 (-2) = 9) <|
     bd (f_X7_type N x0 32 μ20) fun a22 μ23 =>
     bd (f_L_digits N x0 x5 μ23) fun a24 μ25 =>
     bd (f_L_digest N x0 μ25) fun a26 μ27 =>
     ck (μ27 x0 (-2) = 9) <|
     bd (f_X7_count N x0 12 μ27) fun a29 μ30 =>
     ck (μ30 x0 (-2) = 9) <|
     bd (f_X7_runOrders N x0 μ30) fun a32 μ33 =>
     bd (f_L_digest N x0 μ33) fun a34 μ35 =>
     ck (μ35 x0 (-2) = 9) <|
     bd (f_X7_count N x0 11 μ35) fun a37 μ38 =>
     ck (μ38 x0 (-2) = 9) <|
     bd (f_X7_count N x0 12 μ38) fun a40 μ41 =>
     if ¬ a29 = 6 then
       (nm (w32 (a29 + 1)) fun a43 =>
        f_L_orders_b302 N x0 x3 x4 x5 x6 a26 a32 a34 a37 a40 a43 μ41)
     else
     f_L_orders_b302 N x0 x3 x4 x5 x6 a26 a32 a34 a37 a40 6 μ41)
  else
  some (0, μ6)
def f_L_orders_b135 (N : Nat) (x0 x3 x4 x5 x6 : Int) (μ : Mm) : Rs :=
  ck (μ x0 (-2) = 9) <|
  bd (f_X7_type N x0 32 μ) fun a2 μ3 =>
  ck (μ3 x0 (-2) = 9) <|
  bd (f_X7_runOrders N x0 μ3) fun a5 μ6 =>
  nm (w32 (((-100)) - a2)) fun a7 =>
  if a5 = a7 then
    (bd (f_L_digits N x0 x3 μ6) fun a9 μ10 =>
     if x6 = 0 then
       (f_L_orders_b182 N x0 x3 x4 x5 x6 μ10)
     else
     ck (μ10 x0 (-2) = 9) <|
     bd (f_X7_type N x0 32 μ10) fun a13 μ14 =>
     bd (f_L_digits N x0 x4 μ14) fun a15 μ16 =>
     f_L_orders_b182 N x0 x3 x4 x5 x6 μ16)
  else
  some (0, μ6)
def f_L_orders_b119 (N : Nat) (x0 x3 x4 x5 x6 y0 y1 : Int) (μ : Mm) : Rs :=
  ck (μ y0 (-2) = 9) <|
  bd (f_X7_type N y0 y1 μ) fun a2 μ3 =>
  if ¬ x6 = 0 then
    (f_L_orders_b135 N x0 x3 x4 x5 x6 μ3)
  else
  ck (μ3 x0 (-2) = 9) <|
  bd (f_X7_type N x0 101 μ3) fun a6 μ7 =>
  f_L_orders_b135 N x0 x3 x4 x5 x6 μ7
def f_L_orders_b102 (N : Nat) (x0 x3 x4 x5 x6 y0 y1 : Int) (μ : Mm) : Rs :=
  ck (μ y0 (-2) = 9) <|
  bd (f_X7_type N y0 y1 μ) fun a2 μ3 =>
  if x6 = 0 then
    (f_L_orders_b119 N x0 x3 x4 x5 x6 x0 118 μ3)
  else
  f_L_orders_b119 N x0 x3 x4 x5 x6 x0 101 μ3
def f_L_orders_b85 (N : Nat) (x0 x3 x4 x5 x6 y0 y1 : Int) (μ : Mm) : Rs :=
  ck (μ y0 (-2) = 9) <|
  bd (f_X7_type N y0 y1 μ) fun a2 μ3 =>
  if x6 = 0 then
    (f_L_orders_b102 N x0 x3 x4 x5 x6 x0 111 μ3)
  else
  f_L_orders_b102 N x0 x3 x4 x5 x6 x0 118 μ3
def f_L_orders_b68 (N : Nat) (x0 x3 x4 x5 x6 y0 y1 : Int) (μ : Mm) : Rs :=
  ck (μ y0 (-2) = 9) <|
  bd (f_X7_type N y0 y1 μ) fun a2 μ3 =>
  if x6 = 0 then
    (f_L_orders_b85 N x0 x3 x4 x5 x6 x0 114 μ3)
  else
  f_L_orders_b85 N x0 x3 x4 x5 x6 x0 105 μ3
def f_L_orders_b37 (N : Nat) (x0 x3 x4 x5 y0 : Int) (μ : Mm) : Rs :=
  ck (μ x0 (-2) = 9) <|
  bd (f_X7_clearText N x0 μ) fun a2 μ3 =>
  ck (μ3 x0 (-2) = 9) <|
  bd (f_X7_runOrders N x0 μ3) fun a5 μ6 =>
  if a5 = ((-100)) then
    (if y0 = 0 then
       (f_L_orders_b68 N x0 x3 x4 x5 y0 x0 112 μ6)
     else
     f_L_orders_b68 N x0 x3 x4 x5 y0 x0 103 μ6)
  else
  some (0, μ6)
def f_L_orders (N : Nat) (x0 x1 x2 : Int) (μ : Mm) : Rs :=
  bd (f_L_low N x1 30 μ) fun a1 μ2 =>
  nm (o_shr x1 5) fun a3 =>
  bd (f_L_low N a3 5 μ2) fun a4 μ5 =>
  bd (f_L_low N x2 60 μ5) fun a6 μ7 =>
  nm (w32 (1 + a6)) fun a8 =>
  nm (o_and x2 1) fun a9 =>
  if ¬ a9 = 0 then
    (f_L_orders_b37 N x0 a1 a4 a8 0 μ7)
  else
  f_L_orders_b37 N x0 a1 a4 a8 1 μ7
set_option maxHeartbeats 4000000 in
set_option maxRecDepth 100000 in
theorem k_L_orders_b344 (C : gCx p s m args meth c cL_orders 16 (some .boolean) "orders" RL) (N : Nat) {r : Int} {μ' : Mm} : ∀ (x0 x5 x8 x11 x12 x14 y0 : Int) (μ : Mm), f_L_orders_b344 N x0 x5 x8 x11 x12 x14 y0 μ = some (r, μ') → R32 x5 → R64 x8 → R32 x11 → R64 x12 → R32 x14 → R32 y0 → ∀ (H : Heap) (locs : List Loc) (ls : Array Slot), MS E μ s H locs → lv_has ls 16 [(0, vr E x0), (5, vi x5), (8, vl x8), (11, vi x11), (12, vl x12), (14, vi x14)] → W p l e ({ frames := 9, cells := 0, slots := 0, locals := 197 } : Room) s m args below meth c H locs 0 0 (MQ below (gQ E (some (vi r)) (R32 r) μ') args s 0 0 (gA E)) (F0 m 344 ls [vi y0]) := by
  intro x0 x5 x8 x11 x12 x14 y0 μ h rx5 rx8 rx11 rx12 rx14 ry0 H locs ls hM hl
  unfold f_L_orders_b344 at h
  refine m_istore (pc := 344) C dL_orders_344 hl (by decide) (lvK1 0 rfl (Nat.ne_of_beq_eq_false rfl) (Nat.ne_of_beq_eq_false rfl) (lvK1 1 rfl (Nat.ne_of_beq_eq_false rfl) (Nat.ne_of_beq_eq_false rfl) (lvK1 2 rfl (Nat.ne_of_beq_eq_false rfl) (Nat.ne_of_beq_eq_false rfl) (lvK1 3 rfl (Nat.ne_of_beq_eq_false rfl) (Nat.ne_of_beq_eq_false rfl) (lvK1 4 rfl (Nat.ne_of_beq_eq_false rfl) (Nat.ne_of_beq_eq_false rfl) (lvK2 5 rfl (Nat.ne_of_beq_eq_false rfl) rfl lvK0)))))) (fun ls hl => ?_)
  refine m_iload (pc := 346) C dL_orders_346 (lv_at hl 0 rfl) ?_
  refine m_if_ge (tgt := 388) (pc := 348) C ry0 dL_orders_348 (by decide) (fun c1 => ?_) (fun c1 => ?_)
  · have h := if_t h c1
    refine m_aload_n (pc := 388) C dL_orders_388 rfl (lv_at hl 1 rfl) ?_
    refine m_iload (pc := 389) C dL_orders_389 (lv_at hl 2 rfl) ?_
    obtain ⟨q2, h⟩ := ck_some h
    obtain ⟨a3, μ4, ca3, h⟩ := bd_some h
    refine V_X7_pass (pc := 391) C hM ca3 rx5 q2 bw_2_162 ⟨Nat.le_of_ble_eq_true rfl, Nat.le_of_ble_eq_true rfl⟩ hl.1 rc0 ⟨Nat.le_refl _, Nat.le_refl _⟩ dL_orders_391 (fun ra3 H locs hM => ?_)
    refine m_pop (pc := 394) C rfl dL_orders_394 ?_
    refine m_iload (pc := 395) C dL_orders_395 (lv_at hl 4 rfl) ?_
    refine m_iconst (pc := 397) C dL_orders_397 ?_
    refine m_icmp_ne (tgt := 415) (pc := 398) C rx11 rk_2 dL_orders_398 (by decide) (fun c5 => ?_) (fun c5 => ?_)
    · have h := if_t h c5
      refine m_iconst (pc := 415) C dL_orders_415 ?_
      cases h
      exact m_zret (pc := 416) C rfl hM rk_0 dL_orders_416
    · have h := if_f h c5
      refine m_aload_n (pc := 401) C dL_orders_401 rfl (lv_at hl 1 rfl) ?_
      obtain ⟨a6, μ7, ca6, h⟩ := bd_some h
      refine V_L_digest (pc := 402) C hM ca6 bw_3_21 ⟨Nat.le_of_ble_eq_true rfl, Nat.le_of_ble_eq_true rfl⟩ hl.1 rc0 ⟨Nat.le_refl _, Nat.le_refl _⟩ dL_orders_402 (fun ra6 H locs hM => ?_)
      refine m_lload (pc := 405) C dL_orders_405 (lv_at hl 5 rfl) ?_
      refine m_lcmp_ne (tgt := 415) (pc := 407) C ra6 rx12 dL_orders_407 dL_orders_408 (by decide) (fun c8 => ?_) (fun c8 => ?_)
      · have h := if_t h c8
        refine m_iconst (pc := 415) C dL_orders_415 ?_
        cases h
        exact m_zret (pc := 416) C rfl hM rk_0 dL_orders_416
      · have h := if_f h c8
        refine m_iconst (pc := 411) C dL_orders_411 ?_
        refine m_goto (tgt := 416) (pc := 412) C dL_orders_412 (by decide) ?_
        cases h
        exact m_zret (pc := 416) C rfl hM rk_1 dL_orders_416
  · have h := if_f h c1
    refine m_iload (pc := 351) C dL_orders_351 (lv_at hl 4 rfl) ?_
    refine m_if_ne (tgt := 386) (pc := 353) C rx11 dL_orders_353 (by decide) (fun c9 => ?_) (fun c9 => ?_)
    · have h := if_t h c9
      refine m_iconst (pc := 386) C dL_orders_386 ?_
      cases h
      exact m_zret (pc := 387) C rfl hM rk_0 dL_orders_387
    · have h := if_f h c9
      refine m_lload (pc := 356) C dL_orders_356 (lv_at hl 5 rfl) ?_
      refine m_lload (pc := 358) C dL_orders_358 (lv_at hl 3 rfl) ?_
      refine m_lcmp_ne (tgt := 386) (pc := 360) C rx12 rx8 dL_orders_360 dL_orders_361 (by decide) (fun c10 => ?_) (fun c10 => ?_)
      · have h := if_t h c10
        refine m_iconst (pc := 386) C dL_orders_386 ?_
        cases h
        exact m_zret (pc := 387) C rfl hM rk_0 dL_orders_387
      · have h := if_f h c10
        refine m_iload (pc := 364) C dL_orders_364 (lv_at hl 0 rfl) ?_
        refine m_ldc (n := -100000003) (pc := 366) C bw_4_109 rfl dL_orders_366 ?_
        refine m_icmp_ne (tgt := 382) (pc := 368) C ry0 rk_m100000003 dL_orders_368 (by decide) (fun c11 => ?_) (fun c11 => ?_)
        · have h := if_t h c11
          refine m_iconst (pc := 382) C dL_orders_382 ?_
          refine m_goto (tgt := 387) (pc := 383) C dL_orders_383 (by decide) ?_
          cases h
          exact m_zret (pc := 387) C rfl hM rk_1 dL_orders_387
        · have h := if_f h c11
          refine m_aload_n (pc := 371) C dL_orders_371 rfl (lv_at hl 1 rfl) ?_
          refine m_bipush (pc := 372) C dL_orders_372 rfl ?_
          obtain ⟨q12, h⟩ := ck_some h
          obtain ⟨a13, μ14, ca13, h⟩ := bd_some h
          refine V_X7_count (pc := 374) C hM ca13 rk_11 q12 bw_3_4 ⟨Nat.le_of_ble_eq_true rfl, Nat.le_of_ble_eq_true rfl⟩ hl.1 rc0 ⟨Nat.le_refl _, Nat.le_refl _⟩ dL_orders_374 (fun ra13 H locs hM => ?_)
          refine m_iload (pc := 377) C dL_orders_377 (lv_at hl 6 rfl) ?_
          refine m_icmp_ne (tgt := 386) (pc := 379) C ra13 rx14 dL_orders_379 (by decide) (fun c15 => ?_) (fun c15 => ?_)
          · have h := if_t h c15
            refine m_iconst (pc := 386) C dL_orders_386 ?_
            cases h
            exact m_zret (pc := 387) C rfl hM rk_0 dL_orders_387
          · have h := if_f h c15
            refine m_iconst (pc := 382) C dL_orders_382 ?_
            refine m_goto (tgt := 387) (pc := 383) C dL_orders_383 (by decide) ?_
            cases h
            exact m_zret (pc := 387) C rfl hM rk_1 dL_orders_387
set_option maxHeartbeats 4000000 in
set_option maxRecDepth 100000 in
theorem k_L_orders_b302 (C : gCx p s m args meth c cL_orders 16 (some .boolean) "orders" RL) (N : Nat) {r : Int} {μ' : Mm} : ∀ (x0 x3 x4 x5 x6 x8 x11 x12 x14 y0 y1 : Int) (μ : Mm), f_L_orders_b302 N x0 x3 x4 x5 x6 x8 x11 x12 x14 y0 y1 μ = some (r, μ') → R32 x3 → R32 x4 → R32 x5 → R32 x6 → R64 x8 → R32 x11 → R64 x12 → R32 x14 → R32 y0 → R32 y1 → ∀ (H : Heap) (locs : List Loc) (ls : Array Slot), MS E μ s H locs → lv_has ls 16 [(0, vr E x0), (3, vi x3), (4, vi x4), (5, vi x5), (6, vi x6), (8, vl x8), (11, vi x11), (12, vl x12), (14, vi x14)] → W p l e ({ frames := 9, cells := 0, slots := 0, locals := 197 } : Room) s m args below meth c H locs 0 0 (MQ below (gQ E (some (vi r)) (R32 r) μ') args s 0 0 (gA E)) (F0 m 302 ls [vi y1, vi y0]) := by
  intro x0 x3 x4 x5 x6 x8 x11 x12 x14 y0 y1 μ h rx3 rx4 rx5 rx6 rx8 rx11 rx12 rx14 ry0 ry1 H locs ls hM hl
  unfold f_L_orders_b302 at h
  refine m_icmp_ne (tgt := 322) (pc := 302) C ry0 ry1 dL_orders_302 (by decide) (fun c1 => ?_) (fun c1 => ?_)
  · have h := if_t h c1
    refine m_iconst (pc := 322) C dL_orders_322 ?_
    cases h
    exact m_zret (pc := 323) C rfl hM rk_0 dL_orders_323
  · have h := if_f h c1
    refine m_aload_n (pc := 305) C dL_orders_305 rfl (lv_at hl 0 rfl) ?_
    obtain ⟨q2, h⟩ := ck_some h
    obtain ⟨a3, μ4, ca3, h⟩ := bd_some h
    refine V_X7_undo (pc := 306) C hM ca3 q2 bw_2_208 ⟨Nat.le_of_ble_eq_true rfl, Nat.le_of_ble_eq_true rfl⟩ hl.1 rc0 ⟨Nat.le_refl _, Nat.le_refl _⟩ dL_orders_306 (fun ra3 H locs hM => ?_)
    refine m_if_lt (tgt := 322) (pc := 309) C ra3 dL_orders_309 (by decide) (fun c5 => ?_) (fun c5 => ?_)
    · have h := if_t h c5
      refine m_iconst (pc := 322) C dL_orders_322 ?_
      cases h
      exact m_zret (pc := 323) C rfl hM rk_0 dL_orders_323
    · have h := if_f h c5
      refine m_aload_n (pc := 312) C dL_orders_312 rfl (lv_at hl 0 rfl) ?_
      obtain ⟨a6, μ7, ca6, h⟩ := bd_some h
      refine V_L_digest (pc := 313) C hM ca6 bw_3_21 ⟨Nat.le_of_ble_eq_true rfl, Nat.le_of_ble_eq_true rfl⟩ hl.1 rc0 ⟨Nat.le_refl _, Nat.le_refl _⟩ dL_orders_313 (fun ra6 H locs hM => ?_)
      refine m_lload (pc := 316) C dL_orders_316 (lv_at hl 5 rfl) ?_
      refine m_lcmp_eq (tgt := 324) (pc := 318) C ra6 rx8 dL_orders_318 dL_orders_319 (by decide) (fun c8 => ?_) (fun c8 => ?_)
      · have h := if_t h c8
        refine m_iload (pc := 324) C dL_orders_324 (lv_at hl 4 rfl) ?_
        refine m_if_eq (tgt := 339) (pc := 326) C rx6 dL_orders_326 (by decide) (fun c9 => ?_) (fun c9 => ?_)
        · have h := if_t h c9
          refine m_aload_n (pc := 339) C dL_orders_339 rfl (lv_at hl 0 rfl) ?_
          refine m_iload_n (pc := 340) C dL_orders_340 rfl (lv_at hl 1 rfl) ?_
          obtain ⟨q10, h⟩ := ck_some h
          obtain ⟨a11, μ12, ca11, h⟩ := bd_some h
          refine V_X7_prove (pc := 341) C hM ca11 rx3 q10 bw_2_137 ⟨Nat.le_of_ble_eq_true rfl, Nat.le_of_ble_eq_true rfl⟩ hl.1 rc0 ⟨Nat.le_refl _, Nat.le_refl _⟩ dL_orders_341 (fun ra11 H locs hM => ?_)
          exact k_L_orders_b344 C N _ _ _ _ _ _ _ _ h rx5 rx8 rx11 rx12 rx14 ra11 _ _ _ hM (lv_sub hl [0, 3, 5, 6, 7, 8] rfl)
        · have h := if_f h c9
          refine m_aload_n (pc := 329) C dL_orders_329 rfl (lv_at hl 0 rfl) ?_
          refine m_iload_n (pc := 330) C dL_orders_330 rfl (lv_at hl 1 rfl) ?_
          refine m_iload (pc := 331) C dL_orders_331 (lv_at hl 2 rfl) ?_
          obtain ⟨q13, h⟩ := ck_some h
          obtain ⟨a14, μ15, ca14, h⟩ := bd_some h
          refine V_X7_give (pc := 333) C hM ca14 rx3 rx4 q13 bw_4_101 ⟨Nat.le_of_ble_eq_true rfl, Nat.le_of_ble_eq_true rfl⟩ hl.1 rc0 ⟨Nat.le_refl _, Nat.le_refl _⟩ dL_orders_333 (fun ra14 H locs hM => ?_)
          refine m_goto (tgt := 344) (pc := 336) C dL_orders_336 (by decide) ?_
          exact k_L_orders_b344 C N _ _ _ _ _ _ _ _ h rx5 rx8 rx11 rx12 rx14 ra14 _ _ _ hM (lv_sub hl [0, 3, 5, 6, 7, 8] rfl)
      · have h := if_f h c8
        refine m_iconst (pc := 322) C dL_orders_322 ?_
        cases h
        exact m_zret (pc := 323) C rfl hM rk_0 dL_orders_323
set_option maxHeartbeats 4000000 in
set_option maxRecDepth 100000 in
theorem k_L_orders_b182 (C : gCx p s m args meth c cL_orders 16 (some .boolean) "orders" RL) (N : Nat) {r : Int} {μ' : Mm} : ∀ (x0 x3 x4 x5 x6 : Int) (μ : Mm), f_L_orders_b182 N x0 x3 x4 x5 x6 μ = some (r, μ') → R32 x3 → R32 x4 → R32 x5 → R32 x6 → ∀ (H : Heap) (locs : List Loc) (ls : Array Slot), MS E μ s H locs → lv_has ls 16 [(0, vr E x0), (3, vi x3), (4, vi x4), (5, vi x5), (6, vi x6)] → W p l e ({ frames := 9, cells := 0, slots := 0, locals := 197 } : Room) s m args below meth c H locs 0 0 (MQ below (gQ E (some (vi r)) (R32 r) μ') args s 0 0 (gA E)) (F0 m 182 ls []) := by
  intro x0 x3 x4 x5 x6 μ h rx3 rx4 rx5 rx6 H locs ls hM hl
  unfold f_L_orders_b182 at h
  refine m_aload_n (pc := 182) C dL_orders_182 rfl (lv_at hl 0 rfl) ?_
  refine m_bipush (pc := 183) C dL_orders_183 rfl ?_
  obtain ⟨q1, h⟩ := ck_some h
  obtain ⟨a2, μ3, ca2, h⟩ := bd_some h
  refine V_X7_type (pc := 185) C hM ca2 rk_59 q1 bw_5_19 ⟨Nat.le_of_ble_eq_true rfl, Nat.le_of_ble_eq_true rfl⟩ hl.1 rc0 ⟨Nat.le_refl _, Nat.le_refl _⟩ dL_orders_185 (fun ra2 H locs hM => ?_)
  refine m_istore (pc := 188) C dL_orders_188 hl (by decide) (lvK1 0 rfl (Nat.ne_of_beq_eq_false rfl) (Nat.ne_of_beq_eq_false rfl) (lvK1 1 rfl (Nat.ne_of_beq_eq_false rfl) (Nat.ne_of_beq_eq_false rfl) (lvK1 2 rfl (Nat.ne_of_beq_eq_false rfl) (Nat.ne_of_beq_eq_false rfl) (lvK1 3 rfl (Nat.ne_of_beq_eq_false rfl) (Nat.ne_of_beq_eq_false rfl) (lvK2 4 rfl (Nat.ne_of_beq_eq_false rfl) rfl lvK0))))) (fun ls hl => ?_)
  refine m_aload_n (pc := 190) C dL_orders_190 rfl (lv_at hl 1 rfl) ?_
  obtain ⟨q4, h⟩ := ck_some h
  obtain ⟨a5, μ6, ca5, h⟩ := bd_some h
  refine V_X7_runOrders (pc := 191) C hM ca5 q4 bw_4_154 ⟨Nat.le_of_ble_eq_true rfl, Nat.le_of_ble_eq_true rfl⟩ hl.1 rc0 ⟨Nat.le_refl _, Nat.le_refl _⟩ dL_orders_191 (fun ra5 H locs hM => ?_)
  refine m_bipush (pc := 194) C dL_orders_194 rfl ?_
  refine m_iload (pc := 196) C dL_orders_196 (lv_at hl 0 rfl) ?_
  obtain ⟨a7, ea7, h⟩ := nm_some h
  have ra7 : R32 a7 := by rw [ea7]; exact w32_R _
  refine m_isub (pc := 198) C dL_orders_198 ea7 ?_
  refine m_icmp_eq (tgt := 204) (pc := 199) C ra5 ra7 dL_orders_199 (by decide) (fun c8 => ?_) (fun c8 => ?_)
  · have h := if_t h c8
    refine m_aload_n (pc := 204) C dL_orders_204 rfl (lv_at hl 1 rfl) ?_
    refine m_bipush (pc := 205) C dL_orders_205 rfl ?_
    obtain ⟨q9, h⟩ := ck_some h
    obtain ⟨a10, μ11, ca10, h⟩ := bd_some h
    refine V_X7_type (pc := 207) C hM ca10 rk_100 q9 bw_5_19 ⟨Nat.le_of_ble_eq_true rfl, Nat.le_of_ble_eq_true rfl⟩ hl.1 rc0 ⟨Nat.le_refl _, Nat.le_refl _⟩ dL_orders_207 (fun ra10 H locs hM => ?_)
    refine m_pop (pc := 210) C rfl dL_orders_210 ?_
    refine m_aload_n (pc := 211) C dL_orders_211 rfl (lv_at hl 1 rfl) ?_
    refine m_bipush (pc := 212) C dL_orders_212 rfl ?_
    obtain ⟨q12, h⟩ := ck_some h
    obtain ⟨a13, μ14, ca13, h⟩ := bd_some h
    refine V_X7_type (pc := 214) C hM ca13 rk_97 q12 bw_5_19 ⟨Nat.le_of_ble_eq_true rfl, Nat.le_of_ble_eq_true rfl⟩ hl.1 rc0 ⟨Nat.le_refl _, Nat.le_refl _⟩ dL_orders_214 (fun ra13 H locs hM => ?_)
    refine m_pop (pc := 217) C rfl dL_orders_217 ?_
    refine m_aload_n (pc := 218) C dL_orders_218 rfl (lv_at hl 1 rfl) ?_
    refine m_bipush (pc := 219) C dL_orders_219 rfl ?_
    obtain ⟨q15, h⟩ := ck_some h
    obtain ⟨a16, μ17, ca16, h⟩ := bd_some h
    refine V_X7_type (pc := 221) C hM ca16 rk_121 q15 bw_5_19 ⟨Nat.le_of_ble_eq_true rfl, Nat.le_of_ble_eq_true rfl⟩ hl.1 rc0 ⟨Nat.le_refl _, Nat.le_refl _⟩ dL_orders_221 (fun ra16 H locs hM => ?_)
    refine m_pop (pc := 224) C rfl dL_orders_224 ?_
    refine m_aload_n (pc := 225) C dL_orders_225 rfl (lv_at hl 1 rfl) ?_
    refine m_bipush (pc := 226) C dL_orders_226 rfl ?_
    obtain ⟨q18, h⟩ := ck_some h
    obtain ⟨a19, μ20, ca19, h⟩ := bd_some h
    refine V_X7_type (pc := 228) C hM ca19 rk_115 q18 bw_5_19 ⟨Nat.le_of_ble_eq_true rfl, Nat.le_of_ble_eq_true rfl⟩ hl.1 rc0 ⟨Nat.le_refl _, Nat.le_refl _⟩ dL_orders_228 (fun ra19 H locs hM => ?_)
    refine m_pop (pc := 231) C rfl dL_orders_231 ?_
    refine m_aload_n (pc := 232) C dL_orders_232 rfl (lv_at hl 1 rfl) ?_
    refine m_bipush (pc := 233) C dL_orders_233 rfl ?_
    obtain ⟨q21, h⟩ := ck_some h
    obtain ⟨a22, μ23, ca22, h⟩ := bd_some h
    refine V_X7_type (pc := 235) C hM ca22 rk_32 q21 bw_5_19 ⟨Nat.le_of_ble_eq_true rfl, Nat.le_of_ble_eq_true rfl⟩ hl.1 rc0 ⟨Nat.le_refl _, Nat.le_refl _⟩ dL_orders_235 (fun ra22 H locs hM => ?_)
    refine m_pop (pc := 238) C rfl dL_orders_238 ?_
    refine m_aload_n (pc := 239) C dL_orders_239 rfl (lv_at hl 1 rfl) ?_
    refine m_iload (pc := 240) C dL_orders_240 (lv_at hl 4 rfl) ?_
    obtain ⟨a24, μ25, ca24, h⟩ := bd_some h
    refine V_L_digits (pc := 242) C hM ca24 rx5 bw_5_27 ⟨Nat.le_of_ble_eq_true rfl, Nat.le_of_ble_eq_true rfl⟩ hl.1 rc0 ⟨Nat.le_refl _, Nat.le_refl _⟩ dL_orders_242 (fun ra24 H locs hM => ?_)
    refine m_pop (pc := 245) C rfl dL_orders_245 ?_
    refine m_aload_n (pc := 246) C dL_orders_246 rfl (lv_at hl 1 rfl) ?_
    obtain ⟨a26, μ27, ca26, h⟩ := bd_some h
    refine V_L_digest (pc := 247) C hM ca26 bw_3_21 ⟨Nat.le_of_ble_eq_true rfl, Nat.le_of_ble_eq_true rfl⟩ hl.1 rc0 ⟨Nat.le_refl _, Nat.le_refl _⟩ dL_orders_247 (fun ra26 H locs hM => ?_)
    refine m_lstore (pc := 250) C dL_orders_250 hl (by decide) (lvK1 1 rfl (Nat.ne_of_beq_eq_false rfl) (Nat.ne_of_beq_eq_false rfl) (lvK1 2 rfl (Nat.ne_of_beq_eq_false rfl) (Nat.ne_of_beq_eq_false rfl) (lvK1 3 rfl (Nat.ne_of_beq_eq_false rfl) (Nat.ne_of_beq_eq_false rfl) (lvK1 4 rfl (Nat.ne_of_beq_eq_false rfl) (Nat.ne_of_beq_eq_false rfl) (lvK1 5 rfl (Nat.ne_of_beq_eq_false rfl) (Nat.ne_of_beq_eq_false rfl) lvK0))))) (lvN1 (Nat.ne_of_beq_eq_false rfl) (lvN1 (Nat.ne_of_beq_eq_false rfl) (lvN1 (Nat.ne_of_beq_eq_false rfl) (lvN1 (Nat.ne_of_beq_eq_false rfl) (lvN1 (Nat.ne_of_beq_eq_false rfl) lvN0))))) (fun ls hl => ?_)
    refine m_aload_n (pc := 252) C dL_orders_252 rfl (lv_at hl 1 rfl) ?_
    refine m_bipush (pc := 253) C dL_orders_253 rfl ?_
    obtain ⟨q28, h⟩ := ck_some h
    obtain ⟨a29, μ30, ca29, h⟩ := bd_some h
    refine V_X7_count (pc := 255) C hM ca29 rk_12 q28 bw_3_4 ⟨Nat.le_of_ble_eq_true rfl, Nat.le_of_ble_eq_true rfl⟩ hl.1 rc0 ⟨Nat.le_refl _, Nat.le_refl _⟩ dL_orders_255 (fun ra29 H locs hM => ?_)
    refine m_istore (pc := 258) C dL_orders_258 hl (by decide) (lvK1 0 rfl (Nat.ne_of_beq_eq_false rfl) (Nat.ne_of_beq_eq_false rfl) (lvK1 1 rfl (Nat.ne_of_beq_eq_false rfl) (Nat.ne_of_beq_eq_false rfl) (lvK1 2 rfl (Nat.ne_of_beq_eq_false rfl) (Nat.ne_of_beq_eq_false rfl) (lvK1 3 rfl (Nat.ne_of_beq_eq_false rfl) (Nat.ne_of_beq_eq_false rfl) (lvK1 4 rfl (Nat.ne_of_beq_eq_false rfl) (Nat.ne_of_beq_eq_false rfl) (lvK1 5 rfl (Nat.ne_of_beq_eq_false rfl) (Nat.ne_of_beq_eq_false rfl) lvK0)))))) (fun ls hl => ?_)
    refine m_aload_n (pc := 260) C dL_orders_260 rfl (lv_at hl 2 rfl) ?_
    obtain ⟨q31, h⟩ := ck_some h
    obtain ⟨a32, μ33, ca32, h⟩ := bd_some h
    refine V_X7_runOrders (pc := 261) C hM ca32 q31 bw_4_154 ⟨Nat.le_of_ble_eq_true rfl, Nat.le_of_ble_eq_true rfl⟩ hl.1 rc0 ⟨Nat.le_refl _, Nat.le_refl _⟩ dL_orders_261 (fun ra32 H locs hM => ?_)
    refine m_istore (pc := 264) C dL_orders_264 hl (by decide) (lvK2 0 rfl (Nat.ne_of_beq_eq_false rfl) rfl (lvK1 1 rfl (Nat.ne_of_beq_eq_false rfl) (Nat.ne_of_beq_eq_false rfl) (lvK1 2 rfl (Nat.ne_of_beq_eq_false rfl) (Nat.ne_of_beq_eq_false rfl) (lvK1 3 rfl (Nat.ne_of_beq_eq_false rfl) (Nat.ne_of_beq_eq_false rfl) (lvK1 4 rfl (Nat.ne_of_beq_eq_false rfl) (Nat.ne_of_beq_eq_false rfl) (lvK1 5 rfl (Nat.ne_of_beq_eq_false rfl) (Nat.ne_of_beq_eq_false rfl) (lvK1 6 rfl (Nat.ne_of_beq_eq_false rfl) (Nat.ne_of_beq_eq_false rfl) lvK0))))))) (fun ls hl => ?_)
    refine m_aload_n (pc := 266) C dL_orders_266 rfl (lv_at hl 3 rfl) ?_
    obtain ⟨a34, μ35, ca34, h⟩ := bd_some h
    refine V_L_digest (pc := 267) C hM ca34 bw_3_21 ⟨Nat.le_of_ble_eq_true rfl, Nat.le_of_ble_eq_true rfl⟩ hl.1 rc0 ⟨Nat.le_refl _, Nat.le_refl _⟩ dL_orders_267 (fun ra34 H locs hM => ?_)
    refine m_lstore (pc := 270) C dL_orders_270 hl (by decide) (lvK2 0 rfl (Nat.ne_of_beq_eq_false rfl) rfl (lvK1 1 rfl (Nat.ne_of_beq_eq_false rfl) (Nat.ne_of_beq_eq_false rfl) (lvK1 2 rfl (Nat.ne_of_beq_eq_false rfl) (Nat.ne_of_beq_eq_false rfl) (lvK1 3 rfl (Nat.ne_of_beq_eq_false rfl) (Nat.ne_of_beq_eq_false rfl) (lvK1 4 rfl (Nat.ne_of_beq_eq_false rfl) (Nat.ne_of_beq_eq_false rfl) (lvK1 5 rfl (Nat.ne_of_beq_eq_false rfl) (Nat.ne_of_beq_eq_false rfl) (lvK1 6 rfl (Nat.ne_of_beq_eq_false rfl) (Nat.ne_of_beq_eq_false rfl) (lvK1 7 rfl (Nat.ne_of_beq_eq_false rfl) (Nat.ne_of_beq_eq_false rfl) lvK0)))))))) (lvN1 (Nat.ne_of_beq_eq_false rfl) (lvN1 (Nat.ne_of_beq_eq_false rfl) (lvN1 (Nat.ne_of_beq_eq_false rfl) (lvN1 (Nat.ne_of_beq_eq_false rfl) (lvN1 (Nat.ne_of_beq_eq_false rfl) (lvN1 (Nat.ne_of_beq_eq_false rfl) (lvN1 (Nat.ne_of_beq_eq_false rfl) (lvN1 (Nat.ne_of_beq_eq_false rfl) lvN0)))))))) (fun ls hl => ?_)
    refine m_aload_n (pc := 272) C dL_orders_272 rfl (lv_at hl 4 rfl) ?_
    refine m_bipush (pc := 273) C dL_orders_273 rfl ?_
    obtain ⟨q36, h⟩ := ck_some h
    obtain ⟨a37, μ38, ca37, h⟩ := bd_some h
    refine V_X7_count (pc := 275) C hM ca37 rk_11 q36 bw_3_4 ⟨Nat.le_of_ble_eq_true rfl, Nat.le_of_ble_eq_true rfl⟩ hl.1 rc0 ⟨Nat.le_refl _, Nat.le_refl _⟩ dL_orders_275 (fun ra37 H locs hM => ?_)
    refine m_istore (pc := 278) C dL_orders_278 hl (by decide) (lvK1 0 rfl (Nat.ne_of_beq_eq_false rfl) (Nat.ne_of_beq_eq_false rfl) (lvK1 1 rfl (Nat.ne_of_beq_eq_false rfl) (Nat.ne_of_beq_eq_false rfl) (lvK1 2 rfl (Nat.ne_of_beq_eq_false rfl) (Nat.ne_of_beq_eq_false rfl) (lvK1 3 rfl (Nat.ne_of_beq_eq_false rfl) (Nat.ne_of_beq_eq_false rfl) (lvK1 4 rfl (Nat.ne_of_beq_eq_false rfl) (Nat.ne_of_beq_eq_false rfl) (lvK1 5 rfl (Nat.ne_of_beq_eq_false rfl) (Nat.ne_of_beq_eq_false rfl) (lvK1 6 rfl (Nat.ne_of_beq_eq_false rfl) (Nat.ne_of_beq_eq_false rfl) (lvK1 7 rfl (Nat.ne_of_beq_eq_false rfl) (Nat.ne_of_beq_eq_false rfl) (lvK1 8 rfl (Nat.ne_of_beq_eq_false rfl) (Nat.ne_of_beq_eq_false rfl) lvK0))))))))) (fun ls hl => ?_)
    refine m_aload_n (pc := 280) C dL_orders_280 rfl (lv_at hl 5 rfl) ?_
    refine m_bipush (pc := 281) C dL_orders_281 rfl ?_
    obtain ⟨q39, h⟩ := ck_some h
    obtain ⟨a40, μ41, ca40, h⟩ := bd_some h
    refine V_X7_count (pc := 283) C hM ca40 rk_12 q39 bw_3_4 ⟨Nat.le_of_ble_eq_true rfl, Nat.le_of_ble_eq_true rfl⟩ hl.1 rc0 ⟨Nat.le_refl _, Nat.le_refl _⟩ dL_orders_283 (fun ra40 H locs hM => ?_)
    refine m_iload (pc := 286) C dL_orders_286 (lv_at hl 3 rfl) ?_
    refine m_bipush (pc := 288) C dL_orders_288 rfl ?_
    refine m_icmp_ne (tgt := 298) (pc := 290) C ra29 rk_6 dL_orders_290 (by decide) (fun c42 => ?_) (fun c42 => ?_)
    · have h := if_t h c42
      refine m_iload (pc := 298) C dL_orders_298 (lv_at hl 3 rfl) ?_
      refine m_iconst (pc := 300) C dL_orders_300 ?_
      obtain ⟨a43, ea43, h⟩ := nm_some h
      have ra43 : R32 a43 := by rw [ea43]; exact w32_R _
      refine m_iadd (pc := 301) C dL_orders_301 ea43 ?_
      exact k_L_orders_b302 C N _ _ _ _ _ _ _ _ _ _ _ _ h rx3 rx4 rx5 rx6 ra26 ra32 ra34 ra37 ra40 ra43 _ _ _ hM (lv_sub hl [5, 6, 7, 8, 9, 4, 2, 1, 0] rfl)
    · have h := if_f h c42
      refine m_bipush (pc := 293) C dL_orders_293 rfl ?_
      refine m_goto (tgt := 302) (pc := 295) C dL_orders_295 (by decide) ?_
      exact k_L_orders_b302 C N _ _ _ _ _ _ _ _ _ _ _ _ h rx3 rx4 rx5 rx6 ra26 ra32 ra34 ra37 ra40 rk_6 _ _ _ hM (lv_sub hl [5, 6, 7, 8, 9, 4, 2, 1, 0] rfl)
  · have h := if_f h c8
    refine m_iconst (pc := 202) C dL_orders_202 ?_
    cases h
    exact m_zret (pc := 203) C rfl hM rk_0 dL_orders_203
set_option maxHeartbeats 4000000 in
set_option maxRecDepth 100000 in
theorem k_L_orders_b135 (C : gCx p s m args meth c cL_orders 16 (some .boolean) "orders" RL) (N : Nat) {r : Int} {μ' : Mm} : ∀ (x0 x3 x4 x5 x6 : Int) (μ : Mm), f_L_orders_b135 N x0 x3 x4 x5 x6 μ = some (r, μ') → R32 x3 → R32 x4 → R32 x5 → R32 x6 → ∀ (H : Heap) (locs : List Loc) (ls : Array Slot), MS E μ s H locs → lv_has ls 16 [(0, vr E x0), (3, vi x3), (4, vi x4), (5, vi x5), (6, vi x6)] → W p l e ({ frames := 9, cells := 0, slots := 0, locals := 197 } : Room) s m args below meth c H locs 0 0 (MQ below (gQ E (some (vi r)) (R32 r) μ') args s 0 0 (gA E)) (F0 m 135 ls []) := by
  intro x0 x3 x4 x5 x6 μ h rx3 rx4 rx5 rx6 H locs ls hM hl
  unfold f_L_orders_b135 at h
  refine m_aload_n (pc := 135) C dL_orders_135 rfl (lv_at hl 0 rfl) ?_
  refine m_bipush (pc := 136) C dL_orders_136 rfl ?_
  obtain ⟨q1, h⟩ := ck_some h
  obtain ⟨a2, μ3, ca2, h⟩ := bd_some h
  refine V_X7_type (pc := 138) C hM ca2 rk_32 q1 bw_5_19 ⟨Nat.le_of_ble_eq_true rfl, Nat.le_of_ble_eq_true rfl⟩ hl.1 rc0 ⟨Nat.le_refl _, Nat.le_refl _⟩ dL_orders_138 (fun ra2 H locs hM => ?_)
  refine m_istore (pc := 141) C dL_orders_141 hl (by decide) (lvK1 0 rfl (Nat.ne_of_beq_eq_false rfl) (Nat.ne_of_beq_eq_false rfl) (lvK1 1 rfl (Nat.ne_of_beq_eq_false rfl) (Nat.ne_of_beq_eq_false rfl) (lvK1 2 rfl (Nat.ne_of_beq_eq_false rfl) (Nat.ne_of_beq_eq_false rfl) (lvK1 3 rfl (Nat.ne_of_beq_eq_false rfl) (Nat.ne_of_beq_eq_false rfl) (lvK2 4 rfl (Nat.ne_of_beq_eq_false rfl) rfl lvK0))))) (fun ls hl => ?_)
  refine m_aload_n (pc := 143) C dL_orders_143 rfl (lv_at hl 1 rfl) ?_
  obtain ⟨q4, h⟩ := ck_some h
  obtain ⟨a5, μ6, ca5, h⟩ := bd_some h
  refine V_X7_runOrders (pc := 144) C hM ca5 q4 bw_4_154 ⟨Nat.le_of_ble_eq_true rfl, Nat.le_of_ble_eq_true rfl⟩ hl.1 rc0 ⟨Nat.le_refl _, Nat.le_refl _⟩ dL_orders_144 (fun ra5 H locs hM => ?_)
  refine m_bipush (pc := 147) C dL_orders_147 rfl ?_
  refine m_iload (pc := 149) C dL_orders_149 (lv_at hl 0 rfl) ?_
  obtain ⟨a7, ea7, h⟩ := nm_some h
  have ra7 : R32 a7 := by rw [ea7]; exact w32_R _
  refine m_isub (pc := 151) C dL_orders_151 ea7 ?_
  refine m_icmp_eq (tgt := 157) (pc := 152) C ra5 ra7 dL_orders_152 (by decide) (fun c8 => ?_) (fun c8 => ?_)
  · have h := if_t h c8
    refine m_aload_n (pc := 157) C dL_orders_157 rfl (lv_at hl 1 rfl) ?_
    refine m_iload_n (pc := 158) C dL_orders_158 rfl (lv_at hl 2 rfl) ?_
    obtain ⟨a9, μ10, ca9, h⟩ := bd_some h
    refine V_L_digits (pc := 159) C hM ca9 rx3 bw_5_27 ⟨Nat.le_of_ble_eq_true rfl, Nat.le_of_ble_eq_true rfl⟩ hl.1 rc0 ⟨Nat.le_refl _, Nat.le_refl _⟩ dL_orders_159 (fun ra9 H locs hM => ?_)
    refine m_pop (pc := 162) C rfl dL_orders_162 ?_
    refine m_iload (pc := 163) C dL_orders_163 (lv_at hl 5 rfl) ?_
    refine m_if_eq (tgt := 182) (pc := 165) C rx6 dL_orders_165 (by decide) (fun c11 => ?_) (fun c11 => ?_)
    · have h := if_t h c11
      exact k_L_orders_b182 C N _ _ _ _ _ _ h rx3 rx4 rx5 rx6 _ _ _ hM (lv_sub hl [1, 2, 3, 4, 5] rfl)
    · have h := if_f h c11
      refine m_aload_n (pc := 168) C dL_orders_168 rfl (lv_at hl 1 rfl) ?_
      refine m_bipush (pc := 169) C dL_orders_169 rfl ?_
      obtain ⟨q12, h⟩ := ck_some h
      obtain ⟨a13, μ14, ca13, h⟩ := bd_some h
      refine V_X7_type (pc := 171) C hM ca13 rk_32 q12 bw_5_19 ⟨Nat.le_of_ble_eq_true rfl, Nat.le_of_ble_eq_true rfl⟩ hl.1 rc0 ⟨Nat.le_refl _, Nat.le_refl _⟩ dL_orders_171 (fun ra13 H locs hM => ?_)
      refine m_pop (pc := 174) C rfl dL_orders_174 ?_
      refine m_aload_n (pc := 175) C dL_orders_175 rfl (lv_at hl 1 rfl) ?_
      refine m_iload (pc := 176) C dL_orders_176 (lv_at hl 3 rfl) ?_
      obtain ⟨a15, μ16, ca15, h⟩ := bd_some h
      refine V_L_digits (pc := 178) C hM ca15 rx4 bw_5_27 ⟨Nat.le_of_ble_eq_true rfl, Nat.le_of_ble_eq_true rfl⟩ hl.1 rc0 ⟨Nat.le_refl _, Nat.le_refl _⟩ dL_orders_178 (fun ra15 H locs hM => ?_)
      refine m_pop (pc := 181) C rfl dL_orders_181 ?_
      exact k_L_orders_b182 C N _ _ _ _ _ _ h rx3 rx4 rx5 rx6 _ _ _ hM (lv_sub hl [1, 2, 3, 4, 5] rfl)
  · have h := if_f h c8
    refine m_iconst (pc := 155) C dL_orders_155 ?_
    cases h
    exact m_zret (pc := 156) C rfl hM rk_0 dL_orders_156
set_option maxHeartbeats 4000000 in
set_option maxRecDepth 100000 in
theorem k_L_orders_b119 (C : gCx p s m args meth c cL_orders 16 (some .boolean) "orders" RL) (N : Nat) {r : Int} {μ' : Mm} : ∀ (x0 x3 x4 x5 x6 y0 y1 : Int) (μ : Mm), f_L_orders_b119 N x0 x3 x4 x5 x6 y0 y1 μ = some (r, μ') → R32 x3 → R32 x4 → R32 x5 → R32 x6 → R32 y1 → ∀ (H : Heap) (locs : List Loc) (ls : Array Slot), MS E μ s H locs → lv_has ls 16 [(0, vr E x0), (3, vi x3), (4, vi x4), (5, vi x5), (6, vi x6)] → W p l e ({ frames := 9, cells := 0, slots := 0, locals := 197 } : Room) s m args below meth c H locs 0 0 (MQ below (gQ E (some (vi r)) (R32 r) μ') args s 0 0 (gA E)) (F0 m 119 ls [vi y1, vr E y0]) := by
  intro x0 x3 x4 x5 x6 y0 y1 μ h rx3 rx4 rx5 rx6 ry1 H locs ls hM hl
  unfold f_L_orders_b119 at h
  obtain ⟨q1, h⟩ := ck_some h
  obtain ⟨a2, μ3, ca2, h⟩ := bd_some h
  refine V_X7_type (pc := 119) C hM ca2 ry1 q1 bw_5_19 ⟨Nat.le_of_ble_eq_true rfl, Nat.le_of_ble_eq_true rfl⟩ hl.1 rc0 ⟨Nat.le_refl _, Nat.le_refl _⟩ dL_orders_119 (fun ra2 H locs hM => ?_)
  refine m_pop (pc := 122) C rfl dL_orders_122 ?_
  refine m_iload (pc := 123) C dL_orders_123 (lv_at hl 4 rfl) ?_
  refine m_if_ne (tgt := 135) (pc := 125) C rx6 dL_orders_125 (by decide) (fun c4 => ?_) (fun c4 => ?_)
  · have h := if_t h c4
    exact k_L_orders_b135 C N _ _ _ _ _ _ h rx3 rx4 rx5 rx6 _ _ _ hM (lv_sub hl [0, 1, 2, 3, 4] rfl)
  · have h := if_f h c4
    refine m_aload_n (pc := 128) C dL_orders_128 rfl (lv_at hl 0 rfl) ?_
    refine m_bipush (pc := 129) C dL_orders_129 rfl ?_
    obtain ⟨q5, h⟩ := ck_some h
    obtain ⟨a6, μ7, ca6, h⟩ := bd_some h
    refine V_X7_type (pc := 131) C hM ca6 rk_101 q5 bw_5_19 ⟨Nat.le_of_ble_eq_true rfl, Nat.le_of_ble_eq_true rfl⟩ hl.1 rc0 ⟨Nat.le_refl _, Nat.le_refl _⟩ dL_orders_131 (fun ra6 H locs hM => ?_)
    refine m_pop (pc := 134) C rfl dL_orders_134 ?_
    exact k_L_orders_b135 C N _ _ _ _ _ _ h rx3 rx4 rx5 rx6 _ _ _ hM (lv_sub hl [0, 1, 2, 3, 4] rfl)
set_option maxHeartbeats 4000000 in
set_option maxRecDepth 100000 in
theorem k_L_orders_b102 (C : gCx p s m args meth c cL_orders 16 (some .boolean) "orders" RL) (N : Nat) {r : Int} {μ' : Mm} : ∀ (x0 x3 x4 x5 x6 y0 y1 : Int) (μ : Mm), f_L_orders_b102 N x0 x3 x4 x5 x6 y0 y1 μ = some (r, μ') → R32 x3 → R32 x4 → R32 x5 → R32 x6 → R32 y1 → ∀ (H : Heap) (locs : List Loc) (ls : Array Slot), MS E μ s H locs → lv_has ls 16 [(0, vr E x0), (3, vi x3), (4, vi x4), (5, vi x5), (6, vi x6)] → W p l e ({ frames := 9, cells := 0, slots := 0, locals := 197 } : Room) s m args below meth c H locs 0 0 (MQ below (gQ E (some (vi r)) (R32 r) μ') args s 0 0 (gA E)) (F0 m 102 ls [vi y1, vr E y0]) := by
  intro x0 x3 x4 x5 x6 y0 y1 μ h rx3 rx4 rx5 rx6 ry1 H locs ls hM hl
  unfold f_L_orders_b102 at h
  obtain ⟨q1, h⟩ := ck_some h
  obtain ⟨a2, μ3, ca2, h⟩ := bd_some h
  refine V_X7_type (pc := 102) C hM ca2 ry1 q1 bw_5_19 ⟨Nat.le_of_ble_eq_true rfl, Nat.le_of_ble_eq_true rfl⟩ hl.1 rc0 ⟨Nat.le_refl _, Nat.le_refl _⟩ dL_orders_102 (fun ra2 H locs hM => ?_)
  refine m_pop (pc := 105) C rfl dL_orders_105 ?_
  refine m_aload_n (pc := 106) C dL_orders_106 rfl (lv_at hl 0 rfl) ?_
  refine m_iload (pc := 107) C dL_orders_107 (lv_at hl 4 rfl) ?_
  refine m_if_eq (tgt := 117) (pc := 109) C rx6 dL_orders_109 (by decide) (fun c4 => ?_) (fun c4 => ?_)
  · have h := if_t h c4
    refine m_bipush (pc := 117) C dL_orders_117 rfl ?_
    exact k_L_orders_b119 C N _ _ _ _ _ _ _ _ h rx3 rx4 rx5 rx6 rk_118 _ _ _ hM (lv_sub hl [0, 1, 2, 3, 4] rfl)
  · have h := if_f h c4
    refine m_bipush (pc := 112) C dL_orders_112 rfl ?_
    refine m_goto (tgt := 119) (pc := 114) C dL_orders_114 (by decide) ?_
    exact k_L_orders_b119 C N _ _ _ _ _ _ _ _ h rx3 rx4 rx5 rx6 rk_101 _ _ _ hM (lv_sub hl [0, 1, 2, 3, 4] rfl)
set_option maxHeartbeats 4000000 in
set_option maxRecDepth 100000 in
theorem k_L_orders_b85 (C : gCx p s m args meth c cL_orders 16 (some .boolean) "orders" RL) (N : Nat) {r : Int} {μ' : Mm} : ∀ (x0 x3 x4 x5 x6 y0 y1 : Int) (μ : Mm), f_L_orders_b85 N x0 x3 x4 x5 x6 y0 y1 μ = some (r, μ') → R32 x3 → R32 x4 → R32 x5 → R32 x6 → R32 y1 → ∀ (H : Heap) (locs : List Loc) (ls : Array Slot), MS E μ s H locs → lv_has ls 16 [(0, vr E x0), (3, vi x3), (4, vi x4), (5, vi x5), (6, vi x6)] → W p l e ({ frames := 9, cells := 0, slots := 0, locals := 197 } : Room) s m args below meth c H locs 0 0 (MQ below (gQ E (some (vi r)) (R32 r) μ') args s 0 0 (gA E)) (F0 m 85 ls [vi y1, vr E y0]) := by
  intro x0 x3 x4 x5 x6 y0 y1 μ h rx3 rx4 rx5 rx6 ry1 H locs ls hM hl
  unfold f_L_orders_b85 at h
  obtain ⟨q1, h⟩ := ck_some h
  obtain ⟨a2, μ3, ca2, h⟩ := bd_some h
  refine V_X7_type (pc := 85) C hM ca2 ry1 q1 bw_5_19 ⟨Nat.le_of_ble_eq_true rfl, Nat.le_of_ble_eq_true rfl⟩ hl.1 rc0 ⟨Nat.le_refl _, Nat.le_refl _⟩ dL_orders_85 (fun ra2 H locs hM => ?_)
  refine m_pop (pc := 88) C rfl dL_orders_88 ?_
  refine m_aload_n (pc := 89) C dL_orders_89 rfl (lv_at hl 0 rfl) ?_
  refine m_iload (pc := 90) C dL_orders_90 (lv_at hl 4 rfl) ?_
  refine m_if_eq (tgt := 100) (pc := 92) C rx6 dL_orders_92 (by decide) (fun c4 => ?_) (fun c4 => ?_)
  · have h := if_t h c4
    refine m_bipush (pc := 100) C dL_orders_100 rfl ?_
    exact k_L_orders_b102 C N _ _ _ _ _ _ _ _ h rx3 rx4 rx5 rx6 rk_111 _ _ _ hM (lv_sub hl [0, 1, 2, 3, 4] rfl)
  · have h := if_f h c4
    refine m_bipush (pc := 95) C dL_orders_95 rfl ?_
    refine m_goto (tgt := 102) (pc := 97) C dL_orders_97 (by decide) ?_
    exact k_L_orders_b102 C N _ _ _ _ _ _ _ _ h rx3 rx4 rx5 rx6 rk_118 _ _ _ hM (lv_sub hl [0, 1, 2, 3, 4] rfl)
set_option maxHeartbeats 4000000 in
set_option maxRecDepth 100000 in
theorem k_L_orders_b68 (C : gCx p s m args meth c cL_orders 16 (some .boolean) "orders" RL) (N : Nat) {r : Int} {μ' : Mm} : ∀ (x0 x3 x4 x5 x6 y0 y1 : Int) (μ : Mm), f_L_orders_b68 N x0 x3 x4 x5 x6 y0 y1 μ = some (r, μ') → R32 x3 → R32 x4 → R32 x5 → R32 x6 → R32 y1 → ∀ (H : Heap) (locs : List Loc) (ls : Array Slot), MS E μ s H locs → lv_has ls 16 [(0, vr E x0), (3, vi x3), (4, vi x4), (5, vi x5), (6, vi x6)] → W p l e ({ frames := 9, cells := 0, slots := 0, locals := 197 } : Room) s m args below meth c H locs 0 0 (MQ below (gQ E (some (vi r)) (R32 r) μ') args s 0 0 (gA E)) (F0 m 68 ls [vi y1, vr E y0]) := by
  intro x0 x3 x4 x5 x6 y0 y1 μ h rx3 rx4 rx5 rx6 ry1 H locs ls hM hl
  unfold f_L_orders_b68 at h
  obtain ⟨q1, h⟩ := ck_some h
  obtain ⟨a2, μ3, ca2, h⟩ := bd_some h
  refine V_X7_type (pc := 68) C hM ca2 ry1 q1 bw_5_19 ⟨Nat.le_of_ble_eq_true rfl, Nat.le_of_ble_eq_true rfl⟩ hl.1 rc0 ⟨Nat.le_refl _, Nat.le_refl _⟩ dL_orders_68 (fun ra2 H locs hM => ?_)
  refine m_pop (pc := 71) C rfl dL_orders_71 ?_
  refine m_aload_n (pc := 72) C dL_orders_72 rfl (lv_at hl 0 rfl) ?_
  refine m_iload (pc := 73) C dL_orders_73 (lv_at hl 4 rfl) ?_
  refine m_if_eq (tgt := 83) (pc := 75) C rx6 dL_orders_75 (by decide) (fun c4 => ?_) (fun c4 => ?_)
  · have h := if_t h c4
    refine m_bipush (pc := 83) C dL_orders_83 rfl ?_
    exact k_L_orders_b85 C N _ _ _ _ _ _ _ _ h rx3 rx4 rx5 rx6 rk_114 _ _ _ hM (lv_sub hl [0, 1, 2, 3, 4] rfl)
  · have h := if_f h c4
    refine m_bipush (pc := 78) C dL_orders_78 rfl ?_
    refine m_goto (tgt := 85) (pc := 80) C dL_orders_80 (by decide) ?_
    exact k_L_orders_b85 C N _ _ _ _ _ _ _ _ h rx3 rx4 rx5 rx6 rk_105 _ _ _ hM (lv_sub hl [0, 1, 2, 3, 4] rfl)
set_option maxHeartbeats 4000000 in
set_option maxRecDepth 100000 in
theorem k_L_orders_b37 (C : gCx p s m args meth c cL_orders 16 (some .boolean) "orders" RL) (N : Nat) {r : Int} {μ' : Mm} : ∀ (x0 x3 x4 x5 y0 : Int) (μ : Mm), f_L_orders_b37 N x0 x3 x4 x5 y0 μ = some (r, μ') → R32 x3 → R32 x4 → R32 x5 → R32 y0 → ∀ (H : Heap) (locs : List Loc) (ls : Array Slot), MS E μ s H locs → lv_has ls 16 [(0, vr E x0), (3, vi x3), (4, vi x4), (5, vi x5)] → W p l e ({ frames := 9, cells := 0, slots := 0, locals := 197 } : Room) s m args below meth c H locs 0 0 (MQ below (gQ E (some (vi r)) (R32 r) μ') args s 0 0 (gA E)) (F0 m 37 ls [vi y0]) := by
  intro x0 x3 x4 x5 y0 μ h rx3 rx4 rx5 ry0 H locs ls hM hl
  unfold f_L_orders_b37 at h
  refine m_istore (pc := 37) C dL_orders_37 hl (by decide) (lvK1 0 rfl (Nat.ne_of_beq_eq_false rfl) (Nat.ne_of_beq_eq_false rfl) (lvK1 1 rfl (Nat.ne_of_beq_eq_false rfl) (Nat.ne_of_beq_eq_false rfl) (lvK1 2 rfl (Nat.ne_of_beq_eq_false rfl) (Nat.ne_of_beq_eq_false rfl) (lvK2 3 rfl (Nat.ne_of_beq_eq_false rfl) rfl lvK0)))) (fun ls hl => ?_)
  refine m_aload_n (pc := 39) C dL_orders_39 rfl (lv_at hl 1 rfl) ?_
  obtain ⟨q1, h⟩ := ck_some h
  obtain ⟨a2, μ3, ca2, h⟩ := bd_some h
  refine V_X7_clearText (pc := 40) C hM ca2 q1 bw_4_150 ⟨Nat.le_of_ble_eq_true rfl, Nat.le_of_ble_eq_true rfl⟩ hl.1 rc0 ⟨Nat.le_refl _, Nat.le_refl _⟩ dL_orders_40 (fun ra2 H locs hM => ?_)
  refine m_pop (pc := 43) C rfl dL_orders_43 ?_
  refine m_aload_n (pc := 44) C dL_orders_44 rfl (lv_at hl 1 rfl) ?_
  obtain ⟨q4, h⟩ := ck_some h
  obtain ⟨a5, μ6, ca5, h⟩ := bd_some h
  refine V_X7_runOrders (pc := 45) C hM ca5 q4 bw_4_154 ⟨Nat.le_of_ble_eq_true rfl, Nat.le_of_ble_eq_true rfl⟩ hl.1 rc0 ⟨Nat.le_refl _, Nat.le_refl _⟩ dL_orders_45 (fun ra5 H locs hM => ?_)
  refine m_bipush (pc := 48) C dL_orders_48 rfl ?_
  refine m_icmp_eq (tgt := 55) (pc := 50) C ra5 rk_m100 dL_orders_50 (by decide) (fun c7 => ?_) (fun c7 => ?_)
  · have h := if_t h c7
    refine m_aload_n (pc := 55) C dL_orders_55 rfl (lv_at hl 1 rfl) ?_
    refine m_iload (pc := 56) C dL_orders_56 (lv_at hl 0 rfl) ?_
    refine m_if_eq (tgt := 66) (pc := 58) C ry0 dL_orders_58 (by decide) (fun c8 => ?_) (fun c8 => ?_)
    · have h := if_t h c8
      refine m_bipush (pc := 66) C dL_orders_66 rfl ?_
      exact k_L_orders_b68 C N _ _ _ _ _ _ _ _ h rx3 rx4 rx5 ry0 rk_112 _ _ _ hM (lv_sub hl [1, 2, 3, 4, 0] rfl)
    · have h := if_f h c8
      refine m_bipush (pc := 61) C dL_orders_61 rfl ?_
      refine m_goto (tgt := 68) (pc := 63) C dL_orders_63 (by decide) ?_
      exact k_L_orders_b68 C N _ _ _ _ _ _ _ _ h rx3 rx4 rx5 ry0 rk_103 _ _ _ hM (lv_sub hl [1, 2, 3, 4, 0] rfl)
  · have h := if_f h c7
    refine m_iconst (pc := 53) C dL_orders_53 ?_
    cases h
    exact m_zret (pc := 54) C rfl hM rk_0 dL_orders_54
set_option maxHeartbeats 4000000 in
set_option maxRecDepth 100000 in
theorem c_L_orders (l : Launch) (E : gE) (N : Nat) (x0 x1 x2 : Int) (μ μ' : Mm) (r : Int) (h : f_L_orders N x0 x1 x2 μ = some (r, μ')) (rx1 : R32 x1) (rx2 : R32 x2) : gMet l E yL_orders cL_orders 16 (some .boolean) 9 197 [vr E x0, vi x1, vi x2] (some (vi r)) (R32 r) μ μ' 0 0 := by
  refine g_ofW [1, 1, 1] (by first | (simp only [List.map_cons, List.map_nil, vr_cat]; done) | (simp only [List.map_cons, List.map_nil, vr_cat]; rfl)) (by decide) (by decide) (fun p e s m below meth c ls C hM hl => ?_)
  replace C : gCx p s m _ meth c cL_orders 16 (some .boolean) "orders" RL := C
  replace hl : lv_has ls 16 [(0, vr E x0), (1, vi x1), (2, vi x2)] := hl
  unfold f_L_orders at h
  refine m_iload_n (pc := 0) C dL_orders_0 rfl (lv_at hl 1 rfl) ?_
  refine m_bipush (pc := 1) C dL_orders_1 rfl ?_
  obtain ⟨a1, μ2, ca1, h⟩ := bd_some h
  refine V_L_low (pc := 3) C hM ca1 rx1 rk_30 bw_3_17 ⟨Nat.le_of_ble_eq_true rfl, Nat.le_of_ble_eq_true rfl⟩ hl.1 rc0 ⟨Nat.le_refl _, Nat.le_refl _⟩ dL_orders_3 (fun ra1 H locs hM => ?_)
  refine m_istore_n (pc := 6) C dL_orders_6 rfl hl (by decide) (lvK1 0 rfl (Nat.ne_of_beq_eq_false rfl) (Nat.ne_of_beq_eq_false rfl) (lvK1 1 rfl (Nat.ne_of_beq_eq_false rfl) (Nat.ne_of_beq_eq_false rfl) (lvK2 2 rfl (Nat.ne_of_beq_eq_false rfl) rfl lvK0))) (fun ls hl => ?_)
  refine m_iload_n (pc := 7) C dL_orders_7 rfl (lv_at hl 2 rfl) ?_
  refine m_iconst (pc := 8) C dL_orders_8 ?_
  obtain ⟨a3, ea3, h⟩ := nm_some h
  have ra3 : R32 a3 := by rw [ea3]; exact R32_of _
  refine m_ishr (pc := 9) C dL_orders_9 ea3 ?_
  refine m_iconst (pc := 10) C dL_orders_10 ?_
  obtain ⟨a4, μ5, ca4, h⟩ := bd_some h
  refine V_L_low (pc := 11) C hM ca4 ra3 rk_5 bw_3_17 ⟨Nat.le_of_ble_eq_true rfl, Nat.le_of_ble_eq_true rfl⟩ hl.1 rc0 ⟨Nat.le_refl _, Nat.le_refl _⟩ dL_orders_11 (fun ra4 H locs hM => ?_)
  refine m_istore (pc := 14) C dL_orders_14 hl (by decide) (lvK2 0 rfl (Nat.ne_of_beq_eq_false rfl) rfl (lvK1 1 rfl (Nat.ne_of_beq_eq_false rfl) (Nat.ne_of_beq_eq_false rfl) (lvK1 3 rfl (Nat.ne_of_beq_eq_false rfl) (Nat.ne_of_beq_eq_false rfl) lvK0))) (fun ls hl => ?_)
  refine m_iconst (pc := 16) C dL_orders_16 ?_
  refine m_iload_n (pc := 17) C dL_orders_17 rfl (lv_at hl 3 rfl) ?_
  refine m_bipush (pc := 18) C dL_orders_18 rfl ?_
  obtain ⟨a6, μ7, ca6, h⟩ := bd_some h
  refine V_L_low (pc := 20) C hM ca6 rx2 rk_60 bw_3_17 ⟨Nat.le_of_ble_eq_true rfl, Nat.le_of_ble_eq_true rfl⟩ hl.1 (rcI rc0) ⟨Nat.le_refl _, Nat.le_refl _⟩ dL_orders_20 (fun ra6 H locs hM => ?_)
  obtain ⟨a8, ea8, h⟩ := nm_some h
  have ra8 : R32 a8 := by rw [ea8]; exact w32_R _
  refine m_iadd (pc := 23) C dL_orders_23 ea8 ?_
  refine m_istore (pc := 24) C dL_orders_24 hl (by decide) (lvK2 0 rfl (Nat.ne_of_beq_eq_false rfl) rfl (lvK1 1 rfl (Nat.ne_of_beq_eq_false rfl) (Nat.ne_of_beq_eq_false rfl) (lvK1 2 rfl (Nat.ne_of_beq_eq_false rfl) (Nat.ne_of_beq_eq_false rfl) (lvK1 3 rfl (Nat.ne_of_beq_eq_false rfl) (Nat.ne_of_beq_eq_false rfl) lvK0)))) (fun ls hl => ?_)
  refine m_iload_n (pc := 26) C dL_orders_26 rfl (lv_at hl 4 rfl) ?_
  refine m_iconst (pc := 27) C dL_orders_27 ?_
  obtain ⟨a9, ea9, h⟩ := nm_some h
  have ra9 : R32 a9 := by rw [ea9]; exact R32_of _
  refine m_iand (pc := 28) C dL_orders_28 ea9 ?_
  refine m_if_ne (tgt := 36) (pc := 29) C ra9 dL_orders_29 (by decide) (fun c10 => ?_) (fun c10 => ?_)
  · have h := if_t h c10
    refine m_iconst (pc := 36) C dL_orders_36 ?_
    exact k_L_orders_b37 C N _ _ _ _ _ _ h ra1 ra4 ra8 rk_0 _ _ _ hM (lv_sub hl [3, 2, 1, 0] rfl)
  · have h := if_f h c10
    refine m_iconst (pc := 32) C dL_orders_32 ?_
    refine m_goto (tgt := 37) (pc := 33) C dL_orders_33 (by decide) ?_
    exact k_L_orders_b37 C N _ _ _ _ _ _ h ra1 ra4 ra8 rk_1 _ _ _ hM (lv_sub hl [3, 2, 1, 0] rfl)
theorem hd_L_orders : yL_orders.cls ≠ "java/lang/invoke/MethodHandle" ∧ yL_orders.cls ≠ "java/lang/invoke/VarHandle" ∧ (parseMethodDescriptor yL_orders.desc).map (fun d => d.parameters.length) = some 3 := by decide +kernel

theorem V_L_orders {p : Program} {l : Launch} {e : Env} {R : Room} {s : State} {m : MethodId} {args : Array Value} {below : List Frame} {meth : Method} {c : Code} {H : Heap} {locs : List Loc} {cells slots : Nat} {Q : State → Prop} {cc : ByteArray} {pc nL : Nat} {ls : Array Slot} {rest : List Value} {ret : Option FieldType} {nmm own : String} {E : gE} {μ μ1 : Mm} {index : Nat} (C : gCx p s m args meth c cc nL ret nmm own) (hM : MS E μ s H locs) {N : Nat} {x0 x1 x2 v : Int} (hc : f_L_orders N x0 x1 x2 μ = some (v, μ1)) (rx1 : R32 x1) (rx2 : R32 x2) (h1 : Cond.methodLink own index yL_orders ∈ bigL) (hR : 10 ≤ R.frames ∧ 232 ≤ R.locals) (hl : ls.size = nL) (hcat : RC rest 8) (hf : cells + 0 ≤ R.cells ∧ slots + 0 ≤ R.slots) (hdg : decode cc pc = .ok (.invokestatic index, 3)) (kk : (R32 v) → ∀ (H1 : Heap) (locs1 : List Loc), MS E μ1 s H1 locs1 → W p l e R s m args below meth c H1 locs1 (cells + 0) (slots + 0) Q (F0 m (pc + 3) ls (vi v :: rest))) : W p l e R s m args below meth c H locs cells slots Q (F0 m pc ls (vi x2 :: vi x1 :: vr E x0 :: rest)) := g_callS C hM (c_L_orders l E N x0 x1 x2 μ μ1 v hc rx1 rx2) (gS h1 bw_4_148 bw_1_0 bw_4_149) hd_L_orders hR rfl hl rfl hcat hf hdg kk
end G13
