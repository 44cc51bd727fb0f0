/-! a whole state copied -/
section COPY2
variable (N : Nat) (v : Int → Int) (c : Int → Int → Int) (w : Int → Int) (a : Mm) {s t : Int}
theorem cp_R (hs : 0 ≤ s ∧ s ≤ 9) (ht : 0 ≤ t ∧ t ≤ 9) (hst : t ≠ s) (u : Int → Int) : mcpy (mkS v c w a s u) (bS t + 2) 0 (bS s + 2) 0 6 = mkS v c w a s (cpy 14 20 (rO v c t) u) := by
  funext r k
  unfold mcpy
  by_cases hr : bS s ≤ r ∧ r ≤ bS s + 70
  · have e : r = bS s + (r - bS s) := by omega
    rw [e, mkS_at v c w a hs (by omega), mkS_at v c w a hs (by omega)]
    by_cases q1 : r - bS s = 2
    · rw [q1, cv_2, cv_2]
      by_cases q2 : 0 ≤ k ∧ k < 6
      · rw [if_pos (show bS s + 2 = bS s + 2 ∧ 0 ≤ k ∧ k < 0 + 6 by omega), mkS_ot v c w a hs ht hst (by omega), cv_2_at _ _ (by omega)]
        simp only [if_neg (show ¬ k = -2 by omega), if_neg (show ¬ k = -1 by omega), if_pos q2]
        unfold cpy rO
        rw [if_pos (show 14 ≤ 14 + k ∧ 14 + k < 20 by omega), show 14 + (0 + (k - 0)) = 14 + k from by omega]
      · rw [if_neg (show ¬ (bS s + 2 = bS s + 2 ∧ 0 ≤ k ∧ k < 0 + 6) by omega)]
        simp only [if_neg q2]
    · rw [if_neg (by omega)]
      have n : ∀ i, ¬ (14 ≤ i ∧ i < 20) → cpy 14 20 (rO v c t) u i = u i := fun i z => if_neg z
      exact (cv_congr (fun _ => ⟨n _ (by omega), n _ (by omega), n _ (by omega), n _ (by omega), n _ (by omega), n _ (by omega), n _ (by omega)⟩)
        (fun _ k _ => n _ (by omega)) (fun _ k _ => absurd ‹_› q1) (fun _ k _ => n _ (by omega)) (fun _ k _ => n _ (by omega)) (fun _ k _ => n _ (by omega)) (by omega) k).symm
  · rw [if_neg (by omega), mkS_out v c w a hs hr u]
theorem cp_S (hs : 0 ≤ s ∧ s ≤ 9) (ht : 0 ≤ t ∧ t ≤ 9) (hst : t ≠ s) (u : Int → Int) :
    f_X5_copyFrom N (bS s + 1) (bS t + 1) (mkS v c w a s u) = some (0, mkS v c w a s (cpy 5 10 (rO v c t) (cpy 14 20 (rO v c t) u))) := by
  have b1 : 0 ≤ bS s := by unfold bS; split <;> (try split) <;> omega
  have b2 : 0 ≤ bS t := by unfold bS; split <;> (try split) <;> omega
  unfold f_X5_copyFrom
  simp (disch := first | omega | (simp (disch := omega) only [mkS_at0, mkS_ot0, mkS_at, mkS_ot, cv_O_k, cv_O_0, cv_O_1, cv_O_2, cv_O_3, cv_L_k, cv_L_0, cv_L_1, cv_L_2, cv_L_3, cv_L_4, cv_L_5, cv_L_6, cv_L_7, cv_L_8, cv_L_9, cv_L_10, cv_X_k, cv_X_0, cv_X_1, cv_X_2, cv_X_3, cv_X_4, cv_0_m2, cv_0_0, cv_0_1, cv_0_2, cv_0_3, cv_0_4, cv_0_5, cv_0_6, cv_0_7, cv_0_8, cv_0_9, cv_0_10, cv_1_m2, cv_1_0, cv_1_1, cv_1_2, cv_1_3, cv_1_4, cv_1_5, cv_2_m2, cv_2_m1, cv_3_m2, cv_3_m1, cv_9_m2, cv_9_m1, cv_40_m2, cv_40_m1, cv_2_at, cv_3_at, cv_9_at, cv_40_at, w32_e, true_and, and_true] <;> omega) | fail) only [↓ck_t, ↓nm_t, mkS_at, mkS_ot, cp_R v c w a hs ht hst, S_1_1, S_1_2, S_1_3, S_1_4, S_1_5, cv_O_k, cv_O_0, cv_O_1, cv_O_2, cv_O_3, cv_L_k, cv_L_0, cv_L_1, cv_L_2, cv_L_3, cv_L_4, cv_L_5, cv_L_6, cv_L_7, cv_L_8, cv_L_9, cv_L_10, cv_X_k, cv_X_0, cv_X_1, cv_X_2, cv_X_3, cv_X_4, cv_0_m2, cv_0_0, cv_0_1, cv_0_2, cv_0_3, cv_0_4, cv_0_5, cv_0_6, cv_0_7, cv_0_8, cv_0_9, cv_0_10, cv_1_m2, cv_1_0, cv_1_1, cv_1_2, cv_1_3, cv_1_4, cv_1_5, cv_2_m2, cv_2_m1, cv_3_m2, cv_3_m1, cv_9_m2, cv_9_m1, cv_40_m2, cv_40_m1, cv_2_at, cv_3_at, cv_9_at, cv_40_at]
  refine congrArg (fun z => some ((0 : Int), mkS v c w a s z)) ?_
  generalize hf : (if t = 0 then v else c t) = f
  unfold rO
  rw [hf]
  funext i
  by_cases h : 5 ≤ i ∧ i < 10
  · have e : i = 5 ∨ i = 6 ∨ i = 7 ∨ i = 8 ∨ i = 9 := by omega
    rw [show cpy 5 10 f (cpy 14 20 f u) i = f i from if_pos h]
    rcases e with e | e | e | e | e <;> subst e <;> simp (disch := omega) only [up_e, up_n]
  · rw [show cpy 5 10 f (cpy 14 20 f u) i = cpy 14 20 f u i from if_neg h]
    simp (disch := omega) only [up_n]
theorem cpy_cpy (lo m hi : Int) (f u : Int → Int) (h : lo ≤ m) (h2 : m ≤ hi) : cpy m hi f (cpy lo m f u) = cpy lo hi f u := by
  funext i
  unfold cpy
  repeat' split
  all_goals first | rfl | (exfalso; omega)
theorem cpy_nil (lo : Int) (f u : Int → Int) : cpy lo lo f u = u := by
  funext i; exact if_neg (by omega)
theorem l_cp70 (hs : 0 ≤ s ∧ s ≤ 9) (ht : 0 ≤ t ∧ t ≤ 9) (hst : t ≠ s) (u : Int → Int) (n : Nat) : ∀ k : Nat, k ≤ 30 → 30 < n + k →
    f_X6_copyFrom_b70 N n (bS s) (bS t) k (mkS v c w a s (cpy 370 (370 + 5 * k) (rO v c t) u)) =
      some (0, mkS v c w a s (up (up (up (up (up (up (up (cpy 370 520 (rO v c t) u) 1 (rO v c t 1)) 2 (rO v c t 2)) 3 (rO v c t 3)) 4 (rO v c t 4)) 0 (rO v c t 0)) 11 (rO v c t 11)) 12 (rO v c t 12))) := by
  induction n with
  | zero => intro k h1 h2; omega
  | succ n ih =>
    intro k h1 h2
    rw [f_X6_copyFrom_b70]
    by_cases e : k = 30
    · subst e
      simp (disch := first | omega | (simp (disch := omega) only [mkS_at0, mkS_ot0, mkS_at, mkS_ot, cv_O_k, cv_O_0, cv_O_1, cv_O_2, cv_O_3, cv_L_k, cv_L_0, cv_L_1, cv_L_2, cv_L_3, cv_L_4, cv_L_5, cv_L_6, cv_L_7, cv_L_8, cv_L_9, cv_L_10, cv_X_k, cv_X_0, cv_X_1, cv_X_2, cv_X_3, cv_X_4, cv_0_m2, cv_0_0, cv_0_1, cv_0_2, cv_0_3, cv_0_4, cv_0_5, cv_0_6, cv_0_7, cv_0_8, cv_0_9, cv_0_10, cv_1_m2, cv_1_0, cv_1_1, cv_1_2, cv_1_3, cv_1_4, cv_1_5, cv_2_m2, cv_2_m1, cv_3_m2, cv_3_m1, cv_9_m2, cv_9_m1, cv_40_m2, cv_40_m1, cv_2_at, cv_3_at, cv_9_at, cv_40_at, w32_e, true_and, and_true] <;> omega) | fail) only [↓ck_t, ↓nm_t, ↓if_y, mkS_at0, mkS_ot0, S_0_4, S_0_5, S_0_6, S_0_7, S_0_8, S_0_9, S_0_10, cv_O_k, cv_O_0, cv_O_1, cv_O_2, cv_O_3, cv_L_k, cv_L_0, cv_L_1, cv_L_2, cv_L_3, cv_L_4, cv_L_5, cv_L_6, cv_L_7, cv_L_8, cv_L_9, cv_L_10, cv_X_k, cv_X_0, cv_X_1, cv_X_2, cv_X_3, cv_X_4, cv_0_m2, cv_0_0, cv_0_1, cv_0_2, cv_0_3, cv_0_4, cv_0_5, cv_0_6, cv_0_7, cv_0_8, cv_0_9, cv_0_10, cv_1_m2, cv_1_0, cv_1_1, cv_1_2, cv_1_3, cv_1_4, cv_1_5, cv_2_m2, cv_2_m1, cv_3_m2, cv_3_m1, cv_9_m2, cv_9_m1, cv_40_m2, cv_40_m1, cv_2_at, cv_3_at, cv_9_at, cv_40_at]
      rfl
    · have r := ih (k + 1) (by omega) (by omega)
      rw [nc1, ← cpy_cpy 370 (370 + 5 * (k : Int)) (370 + 5 * ((k : Int) + 1)) _ _ (by omega) (by omega), show 370 + 5 * ((k : Int) + 1) = 375 + 5 * (k : Int) from by omega] at r
      have cc := cp_X N v c w a hs ht hst (e := k) (by omega) (cpy 370 (370 + 5 * (k : Int)) (rO v c t) u)
      simp (disch := first | omega | (simp (disch := omega) only [mkS_at0, mkS_ot0, mkS_at, mkS_ot, cv_O_k, cv_O_0, cv_O_1, cv_O_2, cv_O_3, cv_L_k, cv_L_0, cv_L_1, cv_L_2, cv_L_3, cv_L_4, cv_L_5, cv_L_6, cv_L_7, cv_L_8, cv_L_9, cv_L_10, cv_X_k, cv_X_0, cv_X_1, cv_X_2, cv_X_3, cv_X_4, cv_0_m2, cv_0_0, cv_0_1, cv_0_2, cv_0_3, cv_0_4, cv_0_5, cv_0_6, cv_0_7, cv_0_8, cv_0_9, cv_0_10, cv_1_m2, cv_1_0, cv_1_1, cv_1_2, cv_1_3, cv_1_4, cv_1_5, cv_2_m2, cv_2_m1, cv_3_m2, cv_3_m1, cv_9_m2, cv_9_m1, cv_40_m2, cv_40_m1, cv_2_at, cv_3_at, cv_9_at, cv_40_at, w32_e, true_and, and_true] <;> omega) | fail) only [↓ck_t, ↓nm_t, ↓bd_t, ↓if_n, mkS_at, mkS_ot, mkS_at0, mkS_ot0, cc, w32_e, cv_O_k, cv_O_0, cv_O_1, cv_O_2, cv_O_3, cv_L_k, cv_L_0, cv_L_1, cv_L_2, cv_L_3, cv_L_4, cv_L_5, cv_L_6, cv_L_7, cv_L_8, cv_L_9, cv_L_10, cv_X_k, cv_X_0, cv_X_1, cv_X_2, cv_X_3, cv_X_4, cv_0_m2, cv_0_0, cv_0_1, cv_0_2, cv_0_3, cv_0_4, cv_0_5, cv_0_6, cv_0_7, cv_0_8, cv_0_9, cv_0_10, cv_1_m2, cv_1_0, cv_1_1, cv_1_2, cv_1_3, cv_1_4, cv_1_5, cv_2_m2, cv_2_m1, cv_3_m2, cv_3_m1, cv_9_m2, cv_9_m1, cv_40_m2, cv_40_m1, cv_2_at, cv_3_at, cv_9_at, cv_40_at]
      exact r
theorem l_cp41 (hN : 5000 ≤ N) (hs : 0 ≤ s ∧ s ≤ 9) (ht : 0 ≤ t ∧ t ≤ 9) (hst : t ≠ s) (u : Int → Int) (n : Nat) : ∀ k : Nat, k ≤ 30 → 30 < n + k →
    f_X6_copyFrom_b41 N n (bS s) (bS t) k (mkS v c w a s (cpy 40 (40 + 11 * k) (rO v c t) u)) = f_X6_copyFrom_b70 N N (bS s) (bS t) 0 (mkS v c w a s (cpy 40 370 (rO v c t) u)) := by
  induction n with
  | zero => intro k h1 h2; omega
  | succ n ih =>
    intro k h1 h2
    rw [f_X6_copyFrom_b41]
    by_cases e : k = 30
    · subst e
      rw [if_pos (by omega)]
      rfl
    · have r := ih (k + 1) (by omega) (by omega)
      rw [nc1, ← cpy_cpy 40 (40 + 11 * (k : Int)) (40 + 11 * ((k : Int) + 1)) _ _ (by omega) (by omega), show 40 + 11 * ((k : Int) + 1) = 51 + 11 * (k : Int) from by omega] at r
      have cc := cp_L N v c w a hs ht hst (l := k) (by omega) (cpy 40 (40 + 11 * (k : Int)) (rO v c t) u)
      simp (disch := first | omega | (simp (disch := omega) only [mkS_at0, mkS_ot0, mkS_at, mkS_ot, cv_O_k, cv_O_0, cv_O_1, cv_O_2, cv_O_3, cv_L_k, cv_L_0, cv_L_1, cv_L_2, cv_L_3, cv_L_4, cv_L_5, cv_L_6, cv_L_7, cv_L_8, cv_L_9, cv_L_10, cv_X_k, cv_X_0, cv_X_1, cv_X_2, cv_X_3, cv_X_4, cv_0_m2, cv_0_0, cv_0_1, cv_0_2, cv_0_3, cv_0_4, cv_0_5, cv_0_6, cv_0_7, cv_0_8, cv_0_9, cv_0_10, cv_1_m2, cv_1_0, cv_1_1, cv_1_2, cv_1_3, cv_1_4, cv_1_5, cv_2_m2, cv_2_m1, cv_3_m2, cv_3_m1, cv_9_m2, cv_9_m1, cv_40_m2, cv_40_m1, cv_2_at, cv_3_at, cv_9_at, cv_40_at, w32_e, true_and, and_true] <;> omega) | fail) only [↓ck_t, ↓nm_t, ↓bd_t, ↓if_n, mkS_at, mkS_ot, mkS_at0, mkS_ot0, cc, w32_e, cv_O_k, cv_O_0, cv_O_1, cv_O_2, cv_O_3, cv_L_k, cv_L_0, cv_L_1, cv_L_2, cv_L_3, cv_L_4, cv_L_5, cv_L_6, cv_L_7, cv_L_8, cv_L_9, cv_L_10, cv_X_k, cv_X_0, cv_X_1, cv_X_2, cv_X_3, cv_X_4, cv_0_m2, cv_0_0, cv_0_1, cv_0_2, cv_0_3, cv_0_4, cv_0_5, cv_0_6, cv_0_7, cv_0_8, cv_0_9, cv_0_10, cv_1_m2, cv_1_0, cv_1_1, cv_1_2, cv_1_3, cv_1_4, cv_1_5, cv_2_m2, cv_2_m1, cv_3_m2, cv_3_m1, cv_9_m2, cv_9_m1, cv_40_m2, cv_40_m1, cv_2_at, cv_3_at, cv_9_at, cv_40_at]
      exact r
theorem l_cp13 (hN : 5000 ≤ N) (hs : 0 ≤ s ∧ s ≤ 9) (ht : 0 ≤ t ∧ t ≤ 9) (hst : t ≠ s) (u : Int → Int) (n : Nat) : ∀ k : Nat, k ≤ 5 → 5 < n + k →
    f_X6_copyFrom_b13 N n (bS s) (bS t) k (mkS v c w a s (cpy 20 (20 + 4 * k) (rO v c t) u)) = f_X6_copyFrom_b41 N N (bS s) (bS t) 0 (mkS v c w a s (cpy 20 40 (rO v c t) u)) := by
  induction n with
  | zero => intro k h1 h2; omega
  | succ n ih =>
    intro k h1 h2
    rw [f_X6_copyFrom_b13]
    by_cases e : k = 5
    · subst e
      rw [if_pos (by omega)]
      rfl
    · have r := ih (k + 1) (by omega) (by omega)
      rw [nc1, ← cpy_cpy 20 (20 + 4 * (k : Int)) (20 + 4 * ((k : Int) + 1)) _ _ (by omega) (by omega), show 20 + 4 * ((k : Int) + 1) = 24 + 4 * (k : Int) from by omega] at r
      have cc := cp_O N v c w a hs ht hst (o := k) (by omega) (cpy 20 (20 + 4 * (k : Int)) (rO v c t) u)
      simp (disch := first | omega | (simp (disch := omega) only [mkS_at0, mkS_ot0, mkS_at, mkS_ot, cv_O_k, cv_O_0, cv_O_1, cv_O_2, cv_O_3, cv_L_k, cv_L_0, cv_L_1, cv_L_2, cv_L_3, cv_L_4, cv_L_5, cv_L_6, cv_L_7, cv_L_8, cv_L_9, cv_L_10, cv_X_k, cv_X_0, cv_X_1, cv_X_2, cv_X_3, cv_X_4, cv_0_m2, cv_0_0, cv_0_1, cv_0_2, cv_0_3, cv_0_4, cv_0_5, cv_0_6, cv_0_7, cv_0_8, cv_0_9, cv_0_10, cv_1_m2, cv_1_0, cv_1_1, cv_1_2, cv_1_3, cv_1_4, cv_1_5, cv_2_m2, cv_2_m1, cv_3_m2, cv_3_m1, cv_9_m2, cv_9_m1, cv_40_m2, cv_40_m1, cv_2_at, cv_3_at, cv_9_at, cv_40_at, w32_e, true_and, and_true] <;> omega) | fail) only [↓ck_t, ↓nm_t, ↓bd_t, ↓if_n, mkS_at, mkS_ot, mkS_at0, mkS_ot0, cc, w32_e, cv_O_k, cv_O_0, cv_O_1, cv_O_2, cv_O_3, cv_L_k, cv_L_0, cv_L_1, cv_L_2, cv_L_3, cv_L_4, cv_L_5, cv_L_6, cv_L_7, cv_L_8, cv_L_9, cv_L_10, cv_X_k, cv_X_0, cv_X_1, cv_X_2, cv_X_3, cv_X_4, cv_0_m2, cv_0_0, cv_0_1, cv_0_2, cv_0_3, cv_0_4, cv_0_5, cv_0_6, cv_0_7, cv_0_8, cv_0_9, cv_0_10, cv_1_m2, cv_1_0, cv_1_1, cv_1_2, cv_1_3, cv_1_4, cv_1_5, cv_2_m2, cv_2_m1, cv_3_m2, cv_3_m1, cv_9_m2, cv_9_m1, cv_40_m2, cv_40_m1, cv_2_at, cv_3_at, cv_9_at, cv_40_at]
      exact r
theorem cp_all (hN : 5000 ≤ N) (hs : 0 ≤ s ∧ s ≤ 9) (ht : 0 ≤ t ∧ t ≤ 9) (hst : t ≠ s) (u : Int → Int) :
    f_X6_copyFrom N (bS s) (bS t) (mkS v c w a s u) = some (0, mkS v c w a s (rO v c t)) := by
  have c1 := cp_S N v c w a hs ht hst u
  have l1 := l_cp13 N v c w a hN hs ht hst (cpy 5 10 (rO v c t) (cpy 14 20 (rO v c t) u)) N 0 (by omega) (by omega)
  have l2 := l_cp41 N v c w a hN hs ht hst (cpy 20 40 (rO v c t) (cpy 5 10 (rO v c t) (cpy 14 20 (rO v c t) u))) N 0 (by omega) (by omega)
  have l3 := l_cp70 N v c w a hs ht hst (cpy 40 370 (rO v c t) (cpy 20 40 (rO v c t) (cpy 5 10 (rO v c t) (cpy 14 20 (rO v c t) u)))) N 0 (by omega) (by omega)
  rw [show cpy 20 (20 + 4 * ((0 : Nat) : Int)) (rO v c t) (cpy 5 10 (rO v c t) (cpy 14 20 (rO v c t) u)) = _ from cpy_nil 20 _ _] at l1
  rw [show cpy 40 (40 + 11 * ((0 : Nat) : Int)) (rO v c t) (cpy 20 40 (rO v c t) (cpy 5 10 (rO v c t) (cpy 14 20 (rO v c t) u))) = _ from cpy_nil 40 _ _] at l2
  rw [show cpy 370 (370 + 5 * ((0 : Nat) : Int)) (rO v c t) (cpy 40 370 (rO v c t) (cpy 20 40 (rO v c t) (cpy 5 10 (rO v c t) (cpy 14 20 (rO v c t) u)))) = _ from cpy_nil 370 _ _] at l3
  have l4 := (l1.trans l2).trans l3
  unfold f_X6_copyFrom
  simp (disch := first | omega | (simp (disch := omega) only [mkS_at0, mkS_ot0, mkS_at, mkS_ot, cv_O_k, cv_O_0, cv_O_1, cv_O_2, cv_O_3, cv_L_k, cv_L_0, cv_L_1, cv_L_2, cv_L_3, cv_L_4, cv_L_5, cv_L_6, cv_L_7, cv_L_8, cv_L_9, cv_L_10, cv_X_k, cv_X_0, cv_X_1, cv_X_2, cv_X_3, cv_X_4, cv_0_m2, cv_0_0, cv_0_1, cv_0_2, cv_0_3, cv_0_4, cv_0_5, cv_0_6, cv_0_7, cv_0_8, cv_0_9, cv_0_10, cv_1_m2, cv_1_0, cv_1_1, cv_1_2, cv_1_3, cv_1_4, cv_1_5, cv_2_m2, cv_2_m1, cv_3_m2, cv_3_m1, cv_9_m2, cv_9_m1, cv_40_m2, cv_40_m1, cv_2_at, cv_3_at, cv_9_at, cv_40_at, w32_e, true_and, and_true] <;> omega) | fail) only [↓ck_t, ↓nm_t, ↓bd_t, mkS_at, mkS_ot, mkS_at0, mkS_ot0, c1, cv_O_k, cv_O_0, cv_O_1, cv_O_2, cv_O_3, cv_L_k, cv_L_0, cv_L_1, cv_L_2, cv_L_3, cv_L_4, cv_L_5, cv_L_6, cv_L_7, cv_L_8, cv_L_9, cv_L_10, cv_X_k, cv_X_0, cv_X_1, cv_X_2, cv_X_3, cv_X_4, cv_0_m2, cv_0_0, cv_0_1, cv_0_2, cv_0_3, cv_0_4, cv_0_5, cv_0_6, cv_0_7, cv_0_8, cv_0_9, cv_0_10, cv_1_m2, cv_1_0, cv_1_1, cv_1_2, cv_1_3, cv_1_4, cv_1_5, cv_2_m2, cv_2_m1, cv_3_m2, cv_3_m1, cv_9_m2, cv_9_m1, cv_40_m2, cv_40_m1, cv_2_at, cv_3_at, cv_9_at, cv_40_at]
  refine Eq.trans l4 ?_
  refine congrArg (fun z => some ((0 : Int), z)) (mkS_congr v c w a hs (fun i hi h10 h13 => ?_))
  generalize rO v c t = f
  unfold up cpy
  repeat' split
  all_goals first | rfl | (exfalso; omega) | (subst_vars; rfl)
end COPY2
