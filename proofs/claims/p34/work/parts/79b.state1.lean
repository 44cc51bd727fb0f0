/-! a state's rows, made one by one -/
section ST1
variable {N : Nat} {B top top' q : Int} {s : Int} {μ : Mm}
theorem sT_B (k : Int) : sT B q top B k = if k = -2 then 8 else if k = 0 ∧ 1 ≤ q then B + 1 else if k = 1 ∧ 2 ≤ q then B + 3 else if k = 2 ∧ 3 ≤ q then B + 9 else if k = 3 ∧ 4 ≤ q then B + 40 else 0 := if_pos rfl
theorem sT_t {q' : Int} {r : Int} (h : r ≠ B) (h3 : r ≠ B + 3) (h9 : r ≠ B + 9) (h40 : r ≠ B + 40) (k : Int) : sT B q top r k = sT B q' top' r k := by
  unfold sT
  rw [if_neg h, if_neg h]
  by_cases r1 : r = B + 1
  · rw [if_pos r1, if_pos r1]
  rw [if_neg r1, if_neg r1]
  by_cases r2 : r = B + 2
  · rw [if_pos r2, if_pos r2]
  rw [if_neg r2, if_neg r2, if_neg h3, if_neg h3]
  by_cases r8 : r ≤ B + 8
  · rw [if_pos r8, if_pos r8]
  rw [if_neg r8, if_neg r8, if_neg h9, if_neg h9]
  by_cases r39 : r ≤ B + 39
  · rw [if_pos r39, if_pos r39]
  rw [if_neg r39, if_neg r39, if_neg h40, if_neg h40]
theorem sT_3 (k : Int) : sT B q top (B + 3) k = if k = -2 then 27 else if k = -1 then 5 else if 0 ≤ k ∧ k < 5 ∧ B + 4 + k ≤ top then B + 4 + k else 0 := by
  unfold sT; rw [if_neg (by omega), if_neg (by omega), if_neg (by omega), if_pos rfl]
theorem sT_9 (k : Int) : sT B q top (B + 9) k = if k = -2 then 28 else if k = -1 then 30 else if 0 ≤ k ∧ k < 30 ∧ B + 10 + k ≤ top then B + 10 + k else 0 := by
  unfold sT; rw [if_neg (by omega), if_neg (by omega), if_neg (by omega), if_neg (by omega), if_neg (by omega), if_pos rfl]
theorem sT_40 (k : Int) : sT B q top (B + 40) k = if k = -2 then 29 else if k = -1 then 30 else if 0 ≤ k ∧ k < 30 ∧ B + 41 + k ≤ top then B + 41 + k else 0 := by
  unfold sT; rw [if_neg (by omega), if_neg (by omega), if_neg (by omega), if_neg (by omega), if_neg (by omega), if_neg (by omega), if_neg (by omega), if_pos rfl]
theorem sT_O {r : Int} (h : B + 4 ≤ r ∧ r ≤ B + 8) (k : Int) : sT B q top r k = if k = -2 then 6 else 0 := by
  unfold sT; rw [if_neg (by omega), if_neg (by omega), if_neg (by omega), if_neg (by omega), if_pos (by omega)]
theorem sT_L {r : Int} (h : B + 10 ≤ r ∧ r ≤ B + 39) (k : Int) : sT B q top r k = if k = -2 then 4 else 0 := by
  unfold sT; rw [if_neg (by omega), if_neg (by omega), if_neg (by omega), if_neg (by omega), if_neg (by omega), if_neg (by omega), if_pos (by omega)]
theorem sT_X {r : Int} (h : B + 41 ≤ r) (k : Int) : sT B q top r k = if k = -2 then 2 else 0 := by
  unfold sT; rw [if_neg (by omega), if_neg (by omega), if_neg (by omega), if_neg (by omega), if_neg (by omega), if_neg (by omega), if_neg (by omega), if_neg (by omega)]
/-- an element made: array at p, first element f0 -/
theorem go_e {p f0 i kc cnt : Int} (hp : (p = B + 3 ∧ f0 = B + 4 ∧ kc = 6 ∧ cnt = 5 ∧ q = 2) ∨ (p = B + 9 ∧ f0 = B + 10 ∧ kc = 4 ∧ cnt = 30 ∧ q = 3) ∨ (p = B + 40 ∧ f0 = B + 41 ∧ kc = 2 ∧ cnt = 30 ∧ q = 4)) (hi : 0 ≤ i ∧ i < cnt) :
    ∀ r k, B ≤ r → r ≤ f0 + i → tS (tN (sT B q (f0 + i - 1)) (f0 + i) kc 0) p i (f0 + i) r k = sT B q (f0 + i) r k := by
  intro r k h1 h2
  by_cases rn : r = f0 + i
  · subst rn
    rw [tS_n (by omega)]
    have e : tN (sT B q (f0 + i - 1)) (f0 + i) kc 0 (f0 + i) k = if k = -2 then kc else 0 := by
      unfold tN
      rw [if_pos rfl]
      by_cases k2 : k = -2
      · rw [if_pos k2, if_pos k2]
      · rw [if_neg k2, if_neg k2]; split <;> rfl
    rw [e]
    rcases hp with ⟨a1, a2, a3, a4, a5⟩ | ⟨a1, a2, a3, a4, a5⟩ | ⟨a1, a2, a3, a4, a5⟩
    · rw [sT_O (by omega), a3]
    · rw [sT_L (by omega), a3]
    · rw [sT_X (by omega), a3]
  · by_cases rp : r = p
    · subst rp
      by_cases ki : k = i
      · subst ki
        rw [tS_e]
        rcases hp with ⟨a1, a2, a3, a4, a5⟩ | ⟨a1, a2, a3, a4, a5⟩ | ⟨a1, a2, a3, a4, a5⟩
        · rw [a1, sT_3, if_neg (by omega), if_neg (by omega), if_pos (by omega)]; omega
        · rw [a1, sT_9, if_neg (by omega), if_neg (by omega), if_pos (by omega)]; omega
        · rw [a1, sT_40, if_neg (by omega), if_neg (by omega), if_pos (by omega)]; omega
      · rw [tS_n (by omega), tN_n (by omega)]
        rcases hp with ⟨a1, a2, a3, a4, a5⟩ | ⟨a1, a2, a3, a4, a5⟩ | ⟨a1, a2, a3, a4, a5⟩
        · rw [a1, sT_3, sT_3]
          by_cases z : 0 ≤ k ∧ k < 5 ∧ B + 4 + k ≤ f0 + i - 1
          · rw [if_pos z, if_pos (show 0 ≤ k ∧ k < 5 ∧ B + 4 + k ≤ f0 + i by omega)]
          · rw [if_neg z, if_neg (show ¬ (0 ≤ k ∧ k < 5 ∧ B + 4 + k ≤ f0 + i) by omega)]
        · rw [a1, sT_9, sT_9]
          by_cases z : 0 ≤ k ∧ k < 30 ∧ B + 10 + k ≤ f0 + i - 1
          · rw [if_pos z, if_pos (show 0 ≤ k ∧ k < 30 ∧ B + 10 + k ≤ f0 + i by omega)]
          · rw [if_neg z, if_neg (show ¬ (0 ≤ k ∧ k < 30 ∧ B + 10 + k ≤ f0 + i) by omega)]
        · rw [a1, sT_40, sT_40]
          by_cases z : 0 ≤ k ∧ k < 30 ∧ B + 41 + k ≤ f0 + i - 1
          · rw [if_pos z, if_pos (show 0 ≤ k ∧ k < 30 ∧ B + 41 + k ≤ f0 + i by omega)]
          · rw [if_neg z, if_neg (show ¬ (0 ≤ k ∧ k < 30 ∧ B + 41 + k ≤ f0 + i) by omega)]
    · rw [tS_n (by omega), tN_n (by omega)]
      by_cases rB : r = B
      · rw [rB, sT_B, sT_B]
      by_cases r3 : r = B + 3
      · rw [r3, sT_3, sT_3]
        by_cases z : 0 ≤ k ∧ k < 5 ∧ B + 4 + k ≤ f0 + i - 1
        · rw [if_pos z, if_pos (show 0 ≤ k ∧ k < 5 ∧ B + 4 + k ≤ f0 + i by omega)]
        · rw [if_neg z, if_neg (show ¬ (0 ≤ k ∧ k < 5 ∧ B + 4 + k ≤ f0 + i) by omega)]
      by_cases r9 : r = B + 9
      · rw [r9, sT_9, sT_9]
        by_cases z : 0 ≤ k ∧ k < 30 ∧ B + 10 + k ≤ f0 + i - 1
        · rw [if_pos z, if_pos (show 0 ≤ k ∧ k < 30 ∧ B + 10 + k ≤ f0 + i by omega)]
        · rw [if_neg z, if_neg (show ¬ (0 ≤ k ∧ k < 30 ∧ B + 10 + k ≤ f0 + i) by omega)]
      · exact sT_t rB r3 r9 (by omega) k
theorem i_b25 (hB : 1 ≤ B) (n : Nat) : ∀ (k : Nat) (i bc bs s : Int), i + k = 5 → 0 ≤ i → (k : Int) ≤ bc → 4 * (k : Int) ≤ bs →
    f_X6_init_b25 N (n + k) B i bc bs (st B (B + 3 + i) s μ (sT B 2 (B + 3 + i))) = f_X6_init_b25 N n B 5 (bc - k) (bs - 4 * k) (st B (B + 8) (s + 4 * k) μ (sT B 2 (B + 8))) := by
  intro k
  induction k with
  | zero =>
    intro i bc bs s h1 h2 h3 h4
    rw [show i = 5 from by omega, show B + 3 + 5 = B + 8 from by omega, show bc - ((0 : Nat) : Int) = bc from by omega, show bs - 4 * ((0 : Nat) : Int) = bs from by omega, show s + 4 * ((0 : Nat) : Int) = s from by omega]
    rfl
  | succ k ih =>
    intro i bc bs s h1 h2 h3 h4
    have r := ih (i + 1) (bc - 1) (bs - 4) (s + 4) (by omega) (by omega) (by omega) (by omega)
    have g := st_c (B := B) (top := B + 3 + (i + 1)) (s := s + 4) (μ := μ) (T := tS (tN (sT B 2 (B + 3 + i)) (B + 3 + i + 1) 6 0) (B + 3) i (B + 3 + i + 1)) (T' := sT B 2 (B + 3 + (i + 1))) (fun r k h1 h2 => by
      have z := go_e (B := B) (q := 2) (p := B + 3) (f0 := B + 4) (i := i) (kc := 6) (cnt := 5) (Or.inl ⟨rfl, rfl, rfl, rfl, rfl⟩) (by omega) r k h1 (by omega)
      rw [show B + 4 + i - 1 = B + 3 + i from by omega, show B + 4 + i = B + 3 + i + 1 from by omega] at z
      rw [show B + 3 + (i + 1) = B + 3 + i + 1 from by omega]; exact z)
    rw [← g] at r
    have k8 : sT B 2 (B + 3 + i) B (-2) = 8 := by rw [sT_B]; rfl
    have k1 : sT B 2 (B + 3 + i) B 1 = B + 3 := by rw [sT_B, if_neg (by omega), if_neg (by omega), if_pos (by omega)]
    have k27 : sT B 2 (B + 3 + i) (B + 3) (-2) = 27 := by rw [sT_3]; rfl
    have k5 : sT B 2 (B + 3 + i) (B + 3) (-1) = 5 := by rw [sT_3]; rfl
    rw [show n + (k + 1) = n + k + 1 from by omega, f_X6_init_b25]
    unfold f_X4_init
    simp only [to_bz, to_nz, to_cz, to_iz]
    simp (disch := omega) only [k8, k1, k27, k5, st_r, st_00, st_new, st_set, tS_e, tS_n, tN_k, tN_l, tN_0, tN_n, tB_k, bz_t, nz_t, cz_T, cz_t, iz_T, iz_F, iz_y, iz_n, not_true_eq_false, not_false_eq_true, true_and, and_true, w32_e, Int.add_zero]
    rw [show bc - ((k + 1 : Nat) : Int) = bc - 1 - k from by omega, show bs - 4 * ((k + 1 : Nat) : Int) = bs - 4 - 4 * k from by omega, show s + 4 * ((k + 1 : Nat) : Int) = s + 4 + 4 * k from by omega]
    rw [show B + 3 + (i + 1) = B + 3 + i + 1 from by omega] at r
    exact r
theorem i_b60 (hB : 1 ≤ B) (n : Nat) : ∀ (k : Nat) (i bc bs s : Int), i + k = 30 → 0 ≤ i → (k : Int) ≤ bc → 11 * (k : Int) ≤ bs →
    f_X6_init_b60 N (n + k) B i bc bs (st B (B + 9 + i) s μ (sT B 3 (B + 9 + i))) = f_X6_init_b60 N n B 30 (bc - k) (bs - 11 * k) (st B (B + 39) (s + 11 * k) μ (sT B 3 (B + 39))) := by
  intro k
  induction k with
  | zero =>
    intro i bc bs s h1 h2 h3 h4
    rw [show i = 30 from by omega, show B + 9 + 30 = B + 39 from by omega, show bc - ((0 : Nat) : Int) = bc from by omega, show bs - 11 * ((0 : Nat) : Int) = bs from by omega, show s + 11 * ((0 : Nat) : Int) = s from by omega]
    rfl
  | succ k ih =>
    intro i bc bs s h1 h2 h3 h4
    have r := ih (i + 1) (bc - 1) (bs - 11) (s + 11) (by omega) (by omega) (by omega) (by omega)
    have g := st_c (B := B) (top := B + 9 + (i + 1)) (s := s + 11) (μ := μ) (T := tS (tN (sT B 3 (B + 9 + i)) (B + 9 + i + 1) 4 0) (B + 9) i (B + 9 + i + 1)) (T' := sT B 3 (B + 9 + (i + 1))) (fun r k h1 h2 => by
      have z := go_e (B := B) (q := 3) (p := B + 9) (f0 := B + 10) (i := i) (kc := 4) (cnt := 30) (Or.inr (Or.inl ⟨rfl, rfl, rfl, rfl, rfl⟩)) (by omega) r k h1 (by omega)
      rw [show B + 10 + i - 1 = B + 9 + i from by omega, show B + 10 + i = B + 9 + i + 1 from by omega] at z
      rw [show B + 9 + (i + 1) = B + 9 + i + 1 from by omega]; exact z)
    rw [← g] at r
    have k8 : sT B 3 (B + 9 + i) B (-2) = 8 := by rw [sT_B]; rfl
    have k1 : sT B 3 (B + 9 + i) B 2 = B + 9 := by rw [sT_B, if_neg (by omega), if_neg (by omega), if_neg (by omega), if_pos (by omega)]
    have k27 : sT B 3 (B + 9 + i) (B + 9) (-2) = 28 := by rw [sT_9]; rfl
    have k5 : sT B 3 (B + 9 + i) (B + 9) (-1) = 30 := by rw [sT_9]; rfl
    rw [show n + (k + 1) = n + k + 1 from by omega, f_X6_init_b60]
    unfold f_X2_init
    simp only [to_bz, to_nz, to_cz, to_iz]
    simp (disch := omega) only [k8, k1, k27, k5, st_r, st_00, st_new, st_set, tS_e, tS_n, tN_k, tN_l, tN_0, tN_n, tB_k, bz_t, nz_t, cz_T, cz_t, iz_T, iz_F, iz_y, iz_n, not_true_eq_false, not_false_eq_true, true_and, and_true, w32_e, Int.add_zero]
    rw [show bc - ((k + 1 : Nat) : Int) = bc - 1 - k from by omega, show bs - 11 * ((k + 1 : Nat) : Int) = bs - 11 - 11 * k from by omega, show s + 11 * ((k + 1 : Nat) : Int) = s + 11 + 11 * k from by omega]
    rw [show B + 9 + (i + 1) = B + 9 + i + 1 from by omega] at r
    exact r
theorem i_b96 (hB : 1 ≤ B) (n : Nat) : ∀ (k : Nat) (i bc bs s : Int), i + k = 30 → 0 ≤ i → (k : Int) ≤ bc → 5 * (k : Int) ≤ bs →
    f_X6_init_b96 N (n + k + 1) B i bc bs (st B (B + 40 + i) s μ (sT B 4 (B + 40 + i))) = some (0, st B (B + 70) (s + 5 * k) μ (sT B 4 (B + 70))) := by
  intro k
  induction k with
  | zero =>
    intro i bc bs s h1 h2 h3 h4
    rw [show i = 30 from by omega, show B + 40 + 30 = B + 70 from by omega, show s + 5 * ((0 : Nat) : Int) = s from by omega, f_X6_init_b96]
    simp only [to_bz, to_nz, to_cz, to_iz]
    simp (disch := omega) only [st_r, st_00, st_new, st_set, tS_e, tS_n, tN_k, tN_l, tN_0, tN_n, tB_k, bz_t, nz_t, cz_T, cz_t, iz_T, iz_F, iz_y, iz_n, not_true_eq_false, not_false_eq_true, true_and, and_true, w32_e, Int.add_zero]
  | succ k ih =>
    intro i bc bs s h1 h2 h3 h4
    have r := ih (i + 1) (bc - 1) (bs - 5) (s + 5) (by omega) (by omega) (by omega) (by omega)
    have g := st_c (B := B) (top := B + 40 + (i + 1)) (s := s + 5) (μ := μ) (T := tS (tN (sT B 4 (B + 40 + i)) (B + 40 + i + 1) 2 0) (B + 40) i (B + 40 + i + 1)) (T' := sT B 4 (B + 40 + (i + 1))) (fun r k h1 h2 => by
      have z := go_e (B := B) (q := 4) (p := B + 40) (f0 := B + 41) (i := i) (kc := 2) (cnt := 30) (Or.inr (Or.inr ⟨rfl, rfl, rfl, rfl, rfl⟩)) (by omega) r k h1 (by omega)
      rw [show B + 41 + i - 1 = B + 40 + i from by omega, show B + 41 + i = B + 40 + i + 1 from by omega] at z
      rw [show B + 40 + (i + 1) = B + 40 + i + 1 from by omega]; exact z)
    rw [← g] at r
    have k8 : sT B 4 (B + 40 + i) B (-2) = 8 := by rw [sT_B]; rfl
    have k1 : sT B 4 (B + 40 + i) B 3 = B + 40 := by rw [sT_B, if_neg (by omega), if_neg (by omega), if_neg (by omega), if_neg (by omega), if_pos (by omega)]
    have k27 : sT B 4 (B + 40 + i) (B + 40) (-2) = 29 := by rw [sT_40]; rfl
    have k5 : sT B 4 (B + 40 + i) (B + 40) (-1) = 30 := by rw [sT_40]; rfl
    rw [show n + (k + 1) + 1 = n + k + 1 + 1 from by omega, f_X6_init_b96]
    unfold f_X0_init
    simp only [to_bz, to_nz, to_cz, to_iz]
    simp (disch := omega) only [k8, k1, k27, k5, st_r, st_00, st_new, st_set, tS_e, tS_n, tN_k, tN_l, tN_0, tN_n, tB_k, bz_t, nz_t, cz_T, cz_t, iz_T, iz_F, iz_y, iz_n, not_true_eq_false, not_false_eq_true, true_and, and_true, w32_e, Int.add_zero]
    rw [show s + 5 * ((k + 1 : Nat) : Int) = s + 5 + 5 * k from by omega]
    rw [show B + 40 + (i + 1) = B + 40 + i + 1 from by omega] at r
    exact r
end ST1
