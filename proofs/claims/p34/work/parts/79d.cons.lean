/-! the constructors of both -/
def tJ (T : Int → Int → Int) (B : Int) : Int → Int → Int := fun r k => if B ≤ r then sT B 4 (B + 70) r k else T r k
/-- states in a row: array at h - 1, the first one at h -/
def tH (T : Int → Int → Int) (h i : Int) : Int → Int → Int := fun r k => if h ≤ r then sT (h + 71 * ((r - h) / 71)) 4 (h + 71 * ((r - h) / 71) + 70) r k else if r = h - 1 ∧ 0 ≤ k ∧ k < i then h + 71 * k else T r k
section CON
variable {N : Nat} {s : Int} {T : Int → Int → Int}
theorem m0_nn {r : Int} (h : 0 ≤ r) (k : Int) : m0 r k = 0 := by unfold m0; exact if_neg (by omega)
theorem st_self {B : Int} {μ : Mm} (h0 : μ 0 0 = B) (h1 : μ 0 1 = s) (hB : ∀ k, μ B k = tB B k) (hp : 1 ≤ B) : st B B s μ tB = μ := by
  funext r k
  unfold st
  by_cases r0 : r = 0
  · rw [if_pos r0, r0]
    by_cases k0 : k = 0
    · rw [if_pos k0, k0, h0]
    · rw [if_neg k0]
      by_cases k1 : k = 1
      · rw [if_pos k1, k1, h1]
      · rw [if_neg k1]
  · rw [if_neg r0]
    by_cases q : B ≤ r ∧ r ≤ B
    · rw [if_pos q, show r = B from by omega, hB]
    · rw [if_neg q]
theorem st_z {B top : Int} {μ : Mm} (k : Int) : st B top s μ T 0 k = if k = 0 then top else if k = 1 then s else μ 0 k := if_pos rfl
theorem st_i {B top r : Int} {μ : Mm} (h : r ≠ 0) (q : B ≤ r ∧ r ≤ top) (k : Int) : st B top s μ T r k = T r k := by unfold st; rw [if_neg h, if_pos q]
theorem st_o {B top r : Int} {μ : Mm} (h : r ≠ 0) (q : ¬ (B ≤ r ∧ r ≤ top)) (k : Int) : st B top s μ T r k = μ r k := by unfold st; rw [if_neg h, if_neg q]
theorem x6_go {B : Int} (m : Nat) (hB : 1 ≤ B) : f_X6_init (m + 1000) B (st 1 B s m0 (tN T B 8 0)) = some (0, st 1 (B + 70) (s + 577) m0 (tJ T B)) := by
  have e := st_self (B := B) (s := s) (μ := st 1 B s m0 (tN T B 8 0)) st_00 (Eq.trans rfl rfl) (fun k => by
    rw [st_r (by omega)]
    unfold tN tB
    rw [if_pos rfl]
    by_cases k2 : k = -2
    · rw [if_pos k2, if_pos k2]
    · rw [if_neg k2, if_neg k2]; split <;> rfl) hB
  have x := i_X6 (B := B) (s := s) (μ := st 1 B s m0 (tN T B 8 0)) m hB
  rw [e] at x
  rw [x]
  refine congrArg (fun z => some ((0 : Int), z)) ?_
  funext r k
  by_cases r0 : r = 0
  · subst r0
    rw [st_z]
    by_cases k0 : k = 0
    · rw [if_pos k0, st_z, if_pos k0]
    · rw [if_neg k0]
      by_cases k1 : k = 1
      · rw [if_pos k1, st_z, if_neg k0, if_pos k1]
      · rw [if_neg k1, st_z, if_neg k0, if_neg k1, st_z, if_neg k0, if_neg k1]
  · by_cases q : B ≤ r ∧ r ≤ B + 70
    · rw [st_i r0 q k, st_i r0 (by omega) k]
      exact (if_pos q.1).symm
    · rw [st_o r0 q k]
      by_cases z : 1 ≤ r ∧ r ≤ B
      · rw [st_i r0 z k, st_i r0 (by omega) k]
        unfold tJ
        rw [if_neg (by omega), tN_n (by omega)]
      · rw [st_o r0 z k, st_o r0 (by omega) k]
theorem tJ_o {B r : Int} (h : r < B) (k : Int) : tJ T B r k = T r k := if_neg (by omega)
theorem tJ_k (B : Int) : tJ T B B (-2) = 8 := by unfold tJ; rw [if_pos (Int.le_refl _), sT_B]; rfl
theorem tH_o {h i r : Int} (q : r < h - 1) (k : Int) : tH T h i r k = T r k := by unfold tH; rw [if_neg (by omega), if_neg (by omega)]
theorem tH_a {h i k : Int} : tH T h i (h - 1) k = if 0 ≤ k ∧ k < i then h + 71 * k else T (h - 1) k := by
  unfold tH
  rw [if_neg (by omega)]
  by_cases z : 0 ≤ k ∧ k < i
  · rw [if_pos ⟨rfl, z⟩, if_pos z]
  · rw [if_neg (fun g => z g.2), if_neg z]
theorem tH_s {h i : Int} (hi : 0 ≤ i) : ∀ r k, 1 ≤ r → r ≤ h + 71 * i + 70 → tS (tJ (tH T h i) (h + 71 * i)) (h - 1) i (h + 71 * i) r k = tH T h (i + 1) r k := by
  intro r k h1 h2
  by_cases r1 : r = h - 1
  · subst r1
    rw [tH_a]
    by_cases ki : k = i
    · rw [ki, tS_e, if_pos (by omega)]
    · rw [tS_n (by omega), tJ_o (by omega), tH_a]
      by_cases z : 0 ≤ k ∧ k < i
      · rw [if_pos z, if_pos (by omega)]
      · rw [if_neg z, if_neg (by omega)]
  rw [tS_n (by omega)]
  by_cases r2 : h + 71 * i ≤ r
  · unfold tJ tH
    rw [if_pos r2, if_pos (by omega), show (r - h) / 71 = i from by omega]
  · rw [tJ_o (by omega)]
    by_cases r3 : h ≤ r
    · unfold tH; rw [if_pos r3, if_pos r3]
    · rw [tH_o (by omega), tH_o (by omega)]
theorem i_hist (m : Nat) (hT : T 73 (-2) = 3 ∧ T 73 0 = 74 ∧ T 74 (-2) = 26 ∧ T 74 (-1) = 7) (n : Nat) : ∀ (k : Nat) (i bc bs s : Int), i + k = 7 → 0 ≤ i → 71 * (k : Int) ≤ bc → 588 * (k : Int) ≤ bs →
    f_X1_init_b15 (m + 1000) (n + k + 1) 73 i bc bs (st 1 (74 + 71 * i) s m0 (tH T 75 i)) = some (0, st 1 571 (s + 588 * k) m0 (tH T 75 7)) := by
  intro k
  induction k with
  | zero =>
    intro i bc bs s h1 h2 h3 h4
    have e : i = 7 := by omega
    subst e
    rw [show (74 : Int) + 71 * 7 = 571 from rfl, show s + 588 * ((0 : Nat) : Int) = s from by omega, f_X1_init_b15]
    simp only [to_bz, to_nz, to_cz, to_iz]
    simp (disch := omega) only [st_r, st_00, st_new, st_set, tS_e, tS_n, tN_k, tN_l, tN_0, tN_n, tB_k, bz_t, nz_t, cz_T, cz_t, iz_T, iz_F, iz_y, iz_n, not_true_eq_false, not_false_eq_true, true_and, and_true, w32_e, Int.add_zero]
  | succ k ih =>
    intro i bc bs s h1 h2 h3 h4
    have r := ih (i + 1) (bc - 1 - 70) (bs - 11 - 577) (s + 588) (by omega) (by omega) (by omega) (by omega)
    have g := st_c (B := 1) (top := 75 + 71 * i + 70) (s := s + 11 + 577) (μ := m0) (T := tS (tJ (tH T 75 i) (75 + 71 * i)) 74 i (75 + 71 * i)) (T' := tH T 75 (i + 1)) (fun r k h1 h2 => tH_s (T := T) (h := 75) (by omega) r k h1 h2)
    have x := x6_go (s := s + 11) (T := tH T 75 i) (B := 75 + 71 * i) m (by omega)
    have e1 : 74 + 71 * i + 1 = 75 + 71 * i := by omega
    have k1 : tH T 75 i 73 (-2) = 3 := by rw [tH_o (by omega)]; exact hT.1
    have k2 : tH T 75 i 73 0 = 74 := by rw [tH_o (by omega)]; exact hT.2.1
    have k3 : tH T 75 i 74 (-2) = 26 := (tH_a (T := T) (h := 75) (i := i) (k := -2)).trans ((if_neg (by omega)).trans hT.2.2.1)
    have k4 : tH T 75 i 74 (-1) = 7 := (tH_a (T := T) (h := 75) (i := i) (k := -1)).trans ((if_neg (by omega)).trans hT.2.2.2)
    rw [show n + (k + 1) + 1 = n + k + 1 + 1 from by omega, f_X1_init_b15]
    simp only [to_bz, to_nz, to_cz, to_iz]
    simp (disch := omega) only [e1, k1, k2, k3, k4, x, tJ_o, tJ_k, st_r, st_00, st_new, st_set, tS_e, tS_n, tN_k, tN_l, tN_0, tN_n, tB_k, bz_t, nz_t, cz_T, cz_t, iz_T, iz_F, iz_y, iz_n, not_true_eq_false, not_false_eq_true, true_and, and_true, w32_e, Int.add_zero]
    rw [g]
    rw [show s + 588 * ((k + 1 : Nat) : Int) = s + 588 + 588 * k from by omega, show s + 11 + 577 = s + 588 from by omega, show 75 + 71 * i + 70 = 74 + 71 * (i + 1) from by omega]
    exact r
theorem i_slot (m : Nat) (hT : T 1 (-2) = 9 ∧ T 1 2 = 572 ∧ T 572 (-2) = 26 ∧ T 572 (-1) = 2) (n : Nat) : ∀ (k : Nat) (i bc bs s : Int), i + k = 2 → 0 ≤ i → 71 * (k : Int) ≤ bc → 588 * (k : Int) ≤ bs →
    f_X7_init_b36 (m + 1000) (n + k) 1 i bc bs (st 1 (572 + 71 * i) s m0 (tH T 573 i)) = f_X7_init_b36 (m + 1000) n 1 2 (bc - 71 * k) (bs - 588 * k) (st 1 714 (s + 588 * k) m0 (tH T 573 2)) := by
  intro k
  induction k with
  | zero =>
    intro i bc bs s h1 h2 h3 h4
    have e : i = 2 := by omega
    subst e
    rw [show (572 : Int) + 71 * 2 = 714 from rfl, show s + 588 * ((0 : Nat) : Int) = s from by omega, show bc - 71 * ((0 : Nat) : Int) = bc from by omega, show bs - 588 * ((0 : Nat) : Int) = bs from by omega]
    rfl
  | succ k ih =>
    intro i bc bs s h1 h2 h3 h4
    have r := ih (i + 1) (bc - 1 - 70) (bs - 11 - 577) (s + 588) (by omega) (by omega) (by omega) (by omega)
    have g := st_c (B := 1) (top := 573 + 71 * i + 70) (s := s + 11 + 577) (μ := m0) (T := tS (tJ (tH T 573 i) (573 + 71 * i)) 572 i (573 + 71 * i)) (T' := tH T 573 (i + 1)) (fun r k h1 h2 => tH_s (T := T) (h := 573) (by omega) r k h1 h2)
    have x := x6_go (s := s + 11) (T := tH T 573 i) (B := 573 + 71 * i) m (by omega)
    have e1 : 572 + 71 * i + 1 = 573 + 71 * i := by omega
    have k1 : tH T 573 i 1 (-2) = 9 := by rw [tH_o (by omega)]; exact hT.1
    have k2 : tH T 573 i 1 2 = 572 := by rw [tH_o (by omega)]; exact hT.2.1
    have k3 : tH T 573 i 572 (-2) = 26 := (tH_a (T := T) (h := 573) (i := i) (k := -2)).trans ((if_neg (by omega)).trans hT.2.2.1)
    have k4 : tH T 573 i 572 (-1) = 2 := (tH_a (T := T) (h := 573) (i := i) (k := -1)).trans ((if_neg (by omega)).trans hT.2.2.2)
    rw [show n + (k + 1) = n + k + 1 from by omega, f_X7_init_b36]
    simp only [to_bz, to_nz, to_cz, to_iz]
    simp (disch := omega) only [e1, k1, k2, k3, k4, x, tJ_o, tJ_k, st_r, st_00, st_new, st_set, tS_e, tS_n, tN_k, tN_l, tN_0, tN_n, tB_k, bz_t, nz_t, cz_T, cz_t, iz_T, iz_F, iz_y, iz_n, not_true_eq_false, not_false_eq_true, true_and, and_true, w32_e, Int.add_zero]
    rw [g]
    rw [show s + 588 * ((k + 1 : Nat) : Int) = s + 588 + 588 * k from by omega, show bc - 71 * ((k + 1 : Nat) : Int) = bc - 1 - 70 - 71 * k from by omega, show bs - 588 * ((k + 1 : Nat) : Int) = bs - 11 - 577 - 588 * k from by omega, show s + 11 + 577 = s + 588 from by omega, show 573 + 71 * i + 70 = 572 + 71 * (i + 1) from by omega]
    exact r
end CON
