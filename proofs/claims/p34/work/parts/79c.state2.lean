section ST2
variable {B : Int} {s : Int} {μ : Mm}
theorem go_q {q j o kc n : Int} (hc : (o = B + 3 ∧ j = 1 ∧ q = 2 ∧ kc = 27 ∧ n = 5) ∨ (o = B + 9 ∧ j = 2 ∧ q = 3 ∧ kc = 28 ∧ n = 30) ∨ (o = B + 40 ∧ j = 3 ∧ q = 4 ∧ kc = 29 ∧ n = 30)) :
    ∀ r k, B ≤ r → r ≤ o → tS (tN (sT B (q - 1) (o - 1)) o kc n) B j o r k = sT B q o r k := by
  intro r k h1 h2
  by_cases rB : r = B
  · subst rB
    rw [sT_B]
    by_cases kj : k = j
    · subst kj
      rw [tS_e]
      rcases hc with ⟨a1, a2, a3, a4, a5⟩ | ⟨a1, a2, a3, a4, a5⟩ | ⟨a1, a2, a3, a4, a5⟩
      · rw [if_neg (by omega), if_neg (by omega), if_pos (by omega)]; exact a1
      · rw [if_neg (by omega), if_neg (by omega), if_neg (by omega), if_pos (by omega)]; exact a1
      · rw [if_neg (by omega), if_neg (by omega), if_neg (by omega), if_neg (by omega), if_pos (by omega)]; exact a1
    · rw [tS_n (by omega), tN_n (by omega), sT_B]
      by_cases k2 : k = -2
      · rw [if_pos k2, if_pos k2]
      rw [if_neg k2, if_neg k2]
      by_cases c0 : k = 0
      · rw [if_pos (show k = 0 ∧ 1 ≤ q - 1 by omega), if_pos (show k = 0 ∧ 1 ≤ q by omega)]
      rw [if_neg (show ¬ (k = 0 ∧ 1 ≤ q - 1) by omega), if_neg (show ¬ (k = 0 ∧ 1 ≤ q) by omega)]
      by_cases c1 : k = 1 ∧ 2 ≤ q
      · rw [if_pos (show k = 1 ∧ 2 ≤ q - 1 by omega), if_pos c1]
      rw [if_neg (show ¬ (k = 1 ∧ 2 ≤ q - 1) by omega), if_neg c1]
      by_cases c2 : k = 2 ∧ 3 ≤ q
      · rw [if_pos (show k = 2 ∧ 3 ≤ q - 1 by omega), if_pos c2]
      rw [if_neg (show ¬ (k = 2 ∧ 3 ≤ q - 1) by omega), if_neg c2, if_neg (show ¬ (k = 3 ∧ 4 ≤ q - 1) by omega), if_neg (show ¬ (k = 3 ∧ 4 ≤ q) by omega)]
  rw [tS_n (by omega)]
  by_cases ro : r = o
  · subst ro
    unfold tN
    rw [if_pos rfl]
    rcases hc with ⟨a1, a2, a3, a4, a5⟩ | ⟨a1, a2, a3, a4, a5⟩ | ⟨a1, a2, a3, a4, a5⟩
    · rw [a1, sT_3, if_neg (show ¬ (0 ≤ k ∧ k < 5 ∧ B + 4 + k ≤ B + 3) by omega), a4, a5]
    · rw [a1, sT_9, if_neg (show ¬ (0 ≤ k ∧ k < 30 ∧ B + 10 + k ≤ B + 9) by omega), a4, a5]
    · rw [a1, sT_40, if_neg (show ¬ (0 ≤ k ∧ k < 30 ∧ B + 41 + k ≤ B + 40) by omega), a4, a5]
  rw [tN_n ro]
  by_cases r3 : r = B + 3
  · rw [r3, sT_3, sT_3]
    by_cases z : 0 ≤ k ∧ k < 5
    · rw [if_pos (show 0 ≤ k ∧ k < 5 ∧ B + 4 + k ≤ o - 1 by omega), if_pos (show 0 ≤ k ∧ k < 5 ∧ B + 4 + k ≤ o by omega)]
    · rw [if_neg (show ¬ (0 ≤ k ∧ k < 5 ∧ B + 4 + k ≤ o - 1) by omega), if_neg (show ¬ (0 ≤ k ∧ k < 5 ∧ B + 4 + k ≤ o) by omega)]
  by_cases r9 : r = B + 9
  · rw [r9, sT_9, sT_9]
    by_cases z : 0 ≤ k ∧ k < 30
    · rw [if_pos (show 0 ≤ k ∧ k < 30 ∧ B + 10 + k ≤ o - 1 by omega), if_pos (show 0 ≤ k ∧ k < 30 ∧ B + 10 + k ≤ o by omega)]
    · rw [if_neg (show ¬ (0 ≤ k ∧ k < 30 ∧ B + 10 + k ≤ o - 1) by omega), if_neg (show ¬ (0 ≤ k ∧ k < 30 ∧ B + 10 + k ≤ o) by omega)]
  · exact sT_t rB r3 r9 (by omega) k
theorem go_0 : ∀ r k, B ≤ r → r ≤ B + 2 → tS (sT B 0 (B + 2)) B 0 (B + 1) r k = sT B 1 (B + 2) r k := by
  intro r k h1 h2
  by_cases rB : r = B
  · subst rB
    rw [sT_B]
    by_cases k0 : k = 0
    · subst k0
      rw [tS_e, if_neg (by omega), if_pos (by omega)]
    · rw [tS_n (by omega), sT_B]
      by_cases k2 : k = -2
      · rw [if_pos k2, if_pos k2]
      · rw [if_neg k2, if_neg k2, if_neg (by omega), if_neg (by omega), if_neg (by omega), if_neg (by omega), if_neg (by omega), if_neg (by omega), if_neg (by omega), if_neg (by omega)]
  · rw [tS_n (by omega)]
    exact sT_t rB (by omega) (by omega) (by omega) k
theorem i_X6 (m : Nat) (hB : 1 ≤ B) : f_X6_init (m + 1000) B (st B B s μ tB) = some (0, st B (B + 70) (s + 577) μ (sT B 4 (B + 70))) := by
  have x5 := i_X5 (B := B) (s := s + 6) (μ := μ) (m + 990) hB
  rw [show m + 990 + 10 = m + 1000 from rfl] at x5
  have c0 := st_c (B := B) (top := B + 2) (s := s + 6 + 6) (μ := μ) (T := tS (sT B 0 (B + 2)) B 0 (B + 1)) (T' := sT B 1 (B + 2)) go_0
  have c1 := st_c (B := B) (top := B + 3) (s := s + 6 + 6 + 5) (μ := μ) (T := tS (tN (sT B 1 (B + 2)) (B + 3) 27 5) B 1 (B + 3)) (T' := sT B 2 (B + 3)) (fun r k h1 h2 => by
    have z := go_q (B := B) (q := 2) (j := 1) (o := B + 3) (kc := 27) (n := 5) (Or.inl ⟨rfl, rfl, rfl, rfl, rfl⟩) r k h1 h2
    rw [show B + 3 - 1 = B + 2 from by omega] at z; exact z)
  have l1 := i_b25 (N := m + 1000) (B := B) (μ := μ) hB (m + 995) 5 0 (70 - 1 - 1 - 1) (577 - 6 - 6 - 5) (s + 6 + 6 + 5) (by omega) (by omega) (by omega) (by omega)
  rw [show m + 995 + 5 = m + 1000 from rfl, show B + 3 + 0 = B + 3 from by omega, show ((5 : Nat) : Int) = 5 from rfl] at l1
  have c2 := st_c (B := B) (top := B + 9) (s := s + 6 + 6 + 5 + 4 * 5 + 30) (μ := μ) (T := tS (tN (sT B 2 (B + 8)) (B + 9) 28 30) B 2 (B + 9)) (T' := sT B 3 (B + 9)) (fun r k h1 h2 => by
    have z := go_q (B := B) (q := 3) (j := 2) (o := B + 9) (kc := 28) (n := 30) (Or.inr (Or.inl ⟨rfl, rfl, rfl, rfl, rfl⟩)) r k h1 h2
    rw [show B + 9 - 1 = B + 8 from by omega] at z; exact z)
  have l2 := i_b60 (N := m + 1000) (B := B) (μ := μ) hB (m + 970) 30 0 (70 - 1 - 1 - 1 - 5 - 1) (577 - 6 - 6 - 5 - 4 * 5 - 30) (s + 6 + 6 + 5 + 4 * 5 + 30) (by omega) (by omega) (by omega) (by omega)
  rw [show m + 970 + 30 = m + 1000 from rfl, show B + 9 + 0 = B + 9 from by omega, show ((30 : Nat) : Int) = 30 from rfl] at l2
  have c3 := st_c (B := B) (top := B + 40) (s := s + 6 + 6 + 5 + 4 * 5 + 30 + 11 * 30 + 30) (μ := μ) (T := tS (tN (sT B 3 (B + 39)) (B + 40) 29 30) B 3 (B + 40)) (T' := sT B 4 (B + 40)) (fun r k h1 h2 => by
    have z := go_q (B := B) (q := 4) (j := 3) (o := B + 40) (kc := 29) (n := 30) (Or.inr (Or.inr ⟨rfl, rfl, rfl, rfl, rfl⟩)) r k h1 h2
    rw [show B + 40 - 1 = B + 39 from by omega] at z; exact z)
  have l3 := i_b96 (N := m + 1000) (B := B) (μ := μ) hB (m + 969) 30 0 (70 - 1 - 1 - 1 - 5 - 1 - 30 - 1) (577 - 6 - 6 - 5 - 4 * 5 - 30 - 11 * 30 - 30) (s + 6 + 6 + 5 + 4 * 5 + 30 + 11 * 30 + 30) (by omega) (by omega) (by omega) (by omega)
  rw [show m + 969 + 30 + 1 = m + 1000 from rfl, show B + 40 + 0 = B + 40 from by omega, show ((30 : Nat) : Int) = 30 from rfl, show s + 6 + 6 + 5 + 4 * 5 + 30 + 11 * 30 + 30 + 5 * 30 = s + 577 from by omega] at l3
  have kB : ∀ q top, sT B q top B (-2) = 8 := fun q top => by rw [sT_B]; rfl
  have e2 : B + 2 + 1 = B + 3 := by omega
  have e8 : B + 8 + 1 = B + 9 := by omega
  have e39 : B + 39 + 1 = B + 40 := by omega
  unfold f_X6_init
  simp only [to_bz, to_nz, to_cz, to_iz]
  simp (disch := omega) only [x5, c0, kB, e2, st_r, st_00, st_new, st_set, tS_e, tS_n, tN_k, tN_l, tN_0, tN_n, tB_k, bz_t, nz_t, cz_T, cz_t, iz_T, iz_F, iz_y, iz_n, not_true_eq_false, not_false_eq_true, true_and, and_true, w32_e, Int.add_zero]
  rw [c1, l1, show m + 995 = m + 994 + 1 from rfl, f_X6_init_b25]
  simp only [to_bz, to_nz, to_cz, to_iz]
  simp (disch := omega) only [kB, e8, st_r, st_00, st_new, st_set, tS_e, tS_n, tN_k, tN_l, tN_0, tN_n, tB_k, bz_t, nz_t, cz_T, cz_t, iz_T, iz_F, iz_y, iz_n, not_true_eq_false, not_false_eq_true, true_and, and_true, w32_e, Int.add_zero]
  rw [c2, l2, show m + 970 = m + 969 + 1 from rfl, f_X6_init_b60]
  simp only [to_bz, to_nz, to_cz, to_iz]
  simp (disch := omega) only [kB, e39, st_r, st_00, st_new, st_set, tS_e, tS_n, tN_k, tN_l, tN_0, tN_n, tB_k, bz_t, nz_t, cz_T, cz_t, iz_T, iz_F, iz_y, iz_n, not_true_eq_false, not_false_eq_true, true_and, and_true, w32_e, Int.add_zero]
  rw [c3]
  exact l3
/-- a new state's rows are the row w0 -/
theorem sT_cv {r : Int} (h : B ≤ r ∧ r ≤ B + 70) (k : Int) : sT B 4 (B + 70) r k = cv B w0 (r - B) k := by
  have wz : ∀ i, 20 ≤ i → w0 i = 0 := fun i hi => by unfold w0; rw [if_neg (by omega), if_neg (by omega), if_neg (by omega), if_neg (by omega), if_neg (by omega), if_neg (by omega)]
  unfold sT cv
  by_cases r0 : r = B
  · rw [if_pos r0, if_pos (show r - B = 0 by omega)]
    by_cases k2 : k = -2
    · rw [if_pos k2, if_pos k2]
    rw [if_neg k2, if_neg k2]
    by_cases c0 : k = 0
    · rw [if_pos (show k = 0 ∧ 1 ≤ (4 : Int) by omega), if_pos c0]
    rw [if_neg (show ¬ (k = 0 ∧ 1 ≤ (4 : Int)) by omega), if_neg c0]
    by_cases c1 : k = 1
    · rw [if_pos (show k = 1 ∧ 2 ≤ (4 : Int) by omega), if_pos c1]
    rw [if_neg (show ¬ (k = 1 ∧ 2 ≤ (4 : Int)) by omega), if_neg c1]
    by_cases c2 : k = 2
    · rw [if_pos (show k = 2 ∧ 3 ≤ (4 : Int) by omega), if_pos c2]
    rw [if_neg (show ¬ (k = 2 ∧ 3 ≤ (4 : Int)) by omega), if_neg c2]
    by_cases c3 : k = 3
    · rw [if_pos (show k = 3 ∧ 4 ≤ (4 : Int) by omega), if_pos c3]
    rw [if_neg (show ¬ (k = 3 ∧ 4 ≤ (4 : Int)) by omega), if_neg c3]
    (repeat' split) <;> rfl
  rw [if_neg r0, if_neg (show ¬ r - B = 0 by omega)]
  by_cases r1 : r = B + 1
  · rw [if_pos r1, if_pos (show r - B = 1 by omega)]
    by_cases k2 : k = -2
    · rw [if_pos k2, if_pos k2]
    rw [if_neg k2, if_neg k2]
    by_cases c0 : k = 0
    · rw [if_pos c0, if_pos c0]
    rw [if_neg c0, if_neg c0]
    by_cases c1 : k = 1
    · subst c1; rfl
    by_cases c2 : k = 2
    · subst c2; rfl
    by_cases c3 : k = 3
    · subst c3; rfl
    by_cases c4 : k = 4
    · subst c4; rfl
    by_cases c5 : k = 5
    · subst c5; rfl
    rw [if_neg c1, if_neg c2, if_neg c3, if_neg c4, if_neg c5, if_neg (by omega)]
  rw [if_neg r1, if_neg (show ¬ r - B = 1 by omega)]
  by_cases r2 : r = B + 2
  · rw [if_pos r2, if_pos (show r - B = 2 by omega)]
    by_cases c : 0 ≤ k ∧ k < 6
    · rw [if_pos c, if_pos c, show w0 (14 + k) = 100 from by unfold w0; rw [if_neg (by omega), if_neg (by omega), if_neg (by omega), if_neg (by omega), if_neg (by omega), if_pos (by omega)]]
    · rw [if_neg c, if_neg c]
  rw [if_neg r2, if_neg (show ¬ r - B = 2 by omega)]
  by_cases r3 : r = B + 3
  · rw [if_pos r3, if_pos (show r - B = 3 by omega)]
    by_cases c : 0 ≤ k ∧ k < 5
    · rw [if_pos c, if_pos (show 0 ≤ k ∧ k < 5 ∧ B + 4 + k ≤ B + 70 by omega)]
    · rw [if_neg c, if_neg (show ¬ (0 ≤ k ∧ k < 5 ∧ B + 4 + k ≤ B + 70) by omega)]
  rw [if_neg r3, if_neg (show ¬ r - B = 3 by omega)]
  by_cases r8 : r ≤ B + 8
  · rw [if_pos r8, if_pos (show r - B ≤ 8 by omega)]
    by_cases k2 : k = -2
    · rw [if_pos k2, if_pos k2]
    rw [if_neg k2, if_neg k2]
    split
    · exact (wz _ (by omega)).symm
    · rfl
  rw [if_neg r8, if_neg (show ¬ r - B ≤ 8 by omega)]
  by_cases r9 : r = B + 9
  · rw [if_pos r9, if_pos (show r - B = 9 by omega)]
    by_cases c : 0 ≤ k ∧ k < 30
    · rw [if_pos c, if_pos (show 0 ≤ k ∧ k < 30 ∧ B + 10 + k ≤ B + 70 by omega)]
    · rw [if_neg c, if_neg (show ¬ (0 ≤ k ∧ k < 30 ∧ B + 10 + k ≤ B + 70) by omega)]
  rw [if_neg r9, if_neg (show ¬ r - B = 9 by omega)]
  by_cases r39 : r ≤ B + 39
  · rw [if_pos r39, if_pos (show r - B ≤ 39 by omega)]
    by_cases k2 : k = -2
    · rw [if_pos k2, if_pos k2]
    rw [if_neg k2, if_neg k2, wz _ (by omega), wz _ (by omega)]
    split
    · rfl
    · split
      · exact (wz _ (by omega)).symm
      · rfl
  rw [if_neg r39, if_neg (show ¬ r - B ≤ 39 by omega)]
  by_cases r40 : r = B + 40
  · rw [if_pos r40, if_pos (show r - B = 40 by omega)]
    by_cases c : 0 ≤ k ∧ k < 30
    · rw [if_pos c, if_pos (show 0 ≤ k ∧ k < 30 ∧ B + 41 + k ≤ B + 70 by omega)]
    · rw [if_neg c, if_neg (show ¬ (0 ≤ k ∧ k < 30 ∧ B + 41 + k ≤ B + 70) by omega)]
  rw [if_neg r40, if_neg (show ¬ r - B = 40 by omega)]
  by_cases k2 : k = -2
  · rw [if_pos k2, if_pos k2]
  rw [if_neg k2, if_neg k2]
  split
  · exact (wz _ (by omega)).symm
  · rfl
end ST2
