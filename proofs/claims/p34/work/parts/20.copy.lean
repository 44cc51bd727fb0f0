/-! a whole row copied -/
def cpy (lo hi : Int) (f u : Int → Int) : Int → Int := fun i => if lo ≤ i ∧ i < hi then f i else u i
def rO (v : Int → Int) (c : Int → Int → Int) (t : Int) : Int → Int := if t = 0 then v else c t
section COPY
variable (N : Nat) (v : Int → Int) (c : Int → Int → Int) (w : Int → Int) (a : Mm) {s t : Int}
theorem mkS_at0 (hs : 0 ≤ s ∧ s ≤ 9) (u : Int → Int) (k : Int) : mkS v c w a s u (bS s) k = cv (bS s) u 0 k := by
  have e := mkS_at v c w a hs (d := 0) (by omega) u k
  rwa [Int.add_zero] at e
theorem mkS_ot0 (hs : 0 ≤ s ∧ s ≤ 9) (ht : 0 ≤ t ∧ t ≤ 9) (h : t ≠ s) (u : Int → Int) (k : Int) : mkS v c w a s u (bS t) k = cv (bS t) (if t = 0 then v else c t) 0 k := by
  have e := mkS_ot v c w a hs ht h (d := 0) (by omega) u k
  rwa [Int.add_zero] at e
theorem mkS_congr (hs : 0 ≤ s ∧ s ≤ 9) {u u' : Int → Int} (h : ∀ i, 0 ≤ i ∧ i < 520 → i ≠ 10 → i ≠ 13 → u i = u' i) : mkS v c w a s u = mkS v c w a s u' := by
  funext r k
  by_cases hr : bS s ≤ r ∧ r ≤ bS s + 70
  · have e : r = bS s + (r - bS s) := by omega
    rw [e, mkS_at v c w a hs (by omega), mkS_at v c w a hs (by omega)]
    exact cv_congr (fun _ => ⟨h _ (by omega) (by omega) (by omega), h _ (by omega) (by omega) (by omega), h _ (by omega) (by omega) (by omega), h _ (by omega) (by omega) (by omega), h _ (by omega) (by omega) (by omega), h _ (by omega) (by omega) (by omega), h _ (by omega) (by omega) (by omega)⟩)
      (fun _ k _ => h _ (by omega) (by omega) (by omega)) (fun _ k _ => h _ (by omega) (by omega) (by omega)) (fun _ k _ => h _ (by omega) (by omega) (by omega)) (fun _ k _ => h _ (by omega) (by omega) (by omega)) (fun _ k _ => h _ (by omega) (by omega) (by omega)) (by omega) k
  · exact mkS_out v c w a hs hr u u' k
theorem cp_O (hs : 0 ≤ s ∧ s ≤ 9) (ht : 0 ≤ t ∧ t ≤ 9) (hst : t ≠ s) {o : Int} (ho : 0 ≤ o ∧ o < 5) (u : Int → Int) :
    f_X4_copyFrom N (bS s + (4 + o)) (bS t + (4 + o)) (mkS v c w a s u) = some (0, mkS v c w a s (cpy (20 + 4 * o) (24 + 4 * o) (rO v c t) u)) := by
  unfold f_X4_copyFrom
  simp (disch := first | omega | (simp (disch := omega) only [mkS_at0, mkS_ot0, mkS_at, mkS_ot, cv_O_k, cv_O_0, cv_O_1, cv_O_2, cv_O_3, cv_L_k, cv_L_0, cv_L_1, cv_L_2, cv_L_3, cv_L_4, cv_L_5, cv_L_6, cv_L_7, cv_L_8, cv_L_9, cv_L_10, cv_X_k, cv_X_0, cv_X_1, cv_X_2, cv_X_3, cv_X_4, cv_0_m2, cv_0_0, cv_0_1, cv_0_2, cv_0_3, cv_0_4, cv_0_5, cv_0_6, cv_0_7, cv_0_8, cv_0_9, cv_0_10, cv_1_m2, cv_1_0, cv_1_1, cv_1_2, cv_1_3, cv_1_4, cv_1_5, cv_2_m2, cv_2_m1, cv_3_m2, cv_3_m1, cv_9_m2, cv_9_m1, cv_40_m2, cv_40_m1, cv_2_at, cv_3_at, cv_9_at, cv_40_at, w32_e, true_and, and_true] <;> omega) | fail) only [↓ck_t, ↓nm_t, mkS_at, mkS_ot, S_O, cv_O_k, cv_O_0, cv_O_1, cv_O_2, cv_O_3, cv_L_k, cv_L_0, cv_L_1, cv_L_2, cv_L_3, cv_L_4, cv_L_5, cv_L_6, cv_L_7, cv_L_8, cv_L_9, cv_L_10, cv_X_k, cv_X_0, cv_X_1, cv_X_2, cv_X_3, cv_X_4, cv_0_m2, cv_0_0, cv_0_1, cv_0_2, cv_0_3, cv_0_4, cv_0_5, cv_0_6, cv_0_7, cv_0_8, cv_0_9, cv_0_10, cv_1_m2, cv_1_0, cv_1_1, cv_1_2, cv_1_3, cv_1_4, cv_1_5, cv_2_m2, cv_2_m1, cv_3_m2, cv_3_m1, cv_9_m2, cv_9_m1, cv_40_m2, cv_40_m1, cv_2_at, cv_3_at, cv_9_at, cv_40_at]
  refine congrArg (fun z => some ((0 : Int), mkS v c w a s z)) ?_
  funext i
  unfold up cpy rO
  repeat' split
  all_goals first | rfl | (exfalso; omega) | (subst_vars; first | rfl | omega | (congr 1; omega))
theorem cp_X (hs : 0 ≤ s ∧ s ≤ 9) (ht : 0 ≤ t ∧ t ≤ 9) (hst : t ≠ s) {e : Int} (ho : 0 ≤ e ∧ e < 30) (u : Int → Int) :
    f_X0_copyFrom N (bS s + (41 + e)) (bS t + (41 + e)) (mkS v c w a s u) = some (0, mkS v c w a s (cpy (370 + 5 * e) (375 + 5 * e) (rO v c t) u)) := by
  unfold f_X0_copyFrom
  simp (disch := first | omega | (simp (disch := omega) only [mkS_at0, mkS_ot0, mkS_at, mkS_ot, cv_O_k, cv_O_0, cv_O_1, cv_O_2, cv_O_3, cv_L_k, cv_L_0, cv_L_1, cv_L_2, cv_L_3, cv_L_4, cv_L_5, cv_L_6, cv_L_7, cv_L_8, cv_L_9, cv_L_10, cv_X_k, cv_X_0, cv_X_1, cv_X_2, cv_X_3, cv_X_4, cv_0_m2, cv_0_0, cv_0_1, cv_0_2, cv_0_3, cv_0_4, cv_0_5, cv_0_6, cv_0_7, cv_0_8, cv_0_9, cv_0_10, cv_1_m2, cv_1_0, cv_1_1, cv_1_2, cv_1_3, cv_1_4, cv_1_5, cv_2_m2, cv_2_m1, cv_3_m2, cv_3_m1, cv_9_m2, cv_9_m1, cv_40_m2, cv_40_m1, cv_2_at, cv_3_at, cv_9_at, cv_40_at, w32_e, true_and, and_true] <;> omega) | fail) only [↓ck_t, ↓nm_t, mkS_at, mkS_ot, S_X, cv_O_k, cv_O_0, cv_O_1, cv_O_2, cv_O_3, cv_L_k, cv_L_0, cv_L_1, cv_L_2, cv_L_3, cv_L_4, cv_L_5, cv_L_6, cv_L_7, cv_L_8, cv_L_9, cv_L_10, cv_X_k, cv_X_0, cv_X_1, cv_X_2, cv_X_3, cv_X_4, cv_0_m2, cv_0_0, cv_0_1, cv_0_2, cv_0_3, cv_0_4, cv_0_5, cv_0_6, cv_0_7, cv_0_8, cv_0_9, cv_0_10, cv_1_m2, cv_1_0, cv_1_1, cv_1_2, cv_1_3, cv_1_4, cv_1_5, cv_2_m2, cv_2_m1, cv_3_m2, cv_3_m1, cv_9_m2, cv_9_m1, cv_40_m2, cv_40_m1, cv_2_at, cv_3_at, cv_9_at, cv_40_at]
  refine congrArg (fun z => some ((0 : Int), mkS v c w a s z)) ?_
  funext i
  unfold up cpy rO
  repeat' split
  all_goals first | rfl | (exfalso; omega) | (subst_vars; first | rfl | omega | (congr 1; omega))
theorem cp_L (hs : 0 ≤ s ∧ s ≤ 9) (ht : 0 ≤ t ∧ t ≤ 9) (hst : t ≠ s) {l : Int} (ho : 0 ≤ l ∧ l < 30) (u : Int → Int) :
    f_X2_copyFrom N (bS s + (10 + l)) (bS t + (10 + l)) (mkS v c w a s u) = some (0, mkS v c w a s (cpy (40 + 11 * l) (51 + 11 * l) (rO v c t) u)) := by
  unfold f_X2_copyFrom
  simp (disch := first | omega | (simp (disch := omega) only [mkS_at0, mkS_ot0, mkS_at, mkS_ot, cv_O_k, cv_O_0, cv_O_1, cv_O_2, cv_O_3, cv_L_k, cv_L_0, cv_L_1, cv_L_2, cv_L_3, cv_L_4, cv_L_5, cv_L_6, cv_L_7, cv_L_8, cv_L_9, cv_L_10, cv_X_k, cv_X_0, cv_X_1, cv_X_2, cv_X_3, cv_X_4, cv_0_m2, cv_0_0, cv_0_1, cv_0_2, cv_0_3, cv_0_4, cv_0_5, cv_0_6, cv_0_7, cv_0_8, cv_0_9, cv_0_10, cv_1_m2, cv_1_0, cv_1_1, cv_1_2, cv_1_3, cv_1_4, cv_1_5, cv_2_m2, cv_2_m1, cv_3_m2, cv_3_m1, cv_9_m2, cv_9_m1, cv_40_m2, cv_40_m1, cv_2_at, cv_3_at, cv_9_at, cv_40_at, w32_e, true_and, and_true] <;> omega) | fail) only [↓ck_t, ↓nm_t, mkS_at, mkS_ot, S_L, S_L2, S_L7, up_e, up_n, cv_O_k, cv_O_0, cv_O_1, cv_O_2, cv_O_3, cv_L_k, cv_L_0, cv_L_1, cv_L_2, cv_L_3, cv_L_4, cv_L_5, cv_L_6, cv_L_7, cv_L_8, cv_L_9, cv_L_10, cv_X_k, cv_X_0, cv_X_1, cv_X_2, cv_X_3, cv_X_4, cv_0_m2, cv_0_0, cv_0_1, cv_0_2, cv_0_3, cv_0_4, cv_0_5, cv_0_6, cv_0_7, cv_0_8, cv_0_9, cv_0_10, cv_1_m2, cv_1_0, cv_1_1, cv_1_2, cv_1_3, cv_1_4, cv_1_5, cv_2_m2, cv_2_m1, cv_3_m2, cv_3_m1, cv_9_m2, cv_9_m1, cv_40_m2, cv_40_m1, cv_2_at, cv_3_at, cv_9_at, cv_40_at]
  refine congrArg (fun z => some ((0 : Int), mkS v c w a s z)) ?_
  generalize hf : (if t = 0 then v else c t) = f
  unfold rO
  rw [hf]
  funext i
  by_cases h : 40 + 11 * l ≤ i ∧ i < 51 + 11 * l
  · have e : i = 40 + 11 * l + 0 ∨ i = 40 + 11 * l + 1 ∨ i = 40 + 11 * l + 2 ∨ i = 40 + 11 * l + 3 ∨ i = 40 + 11 * l + 4 ∨ i = 40 + 11 * l + 5 ∨ i = 40 + 11 * l + 6 ∨ i = 40 + 11 * l + 7 ∨ i = 40 + 11 * l + 8 ∨ i = 40 + 11 * l + 9 ∨ i = 40 + 11 * l + 10 := by omega
    rw [show cpy (40 + 11 * l) (51 + 11 * l) f u i = f i from if_pos h]
    rcases e with e | e | e | e | e | e | e | e | e | e | e <;> subst e <;> simp (disch := omega) only [up_e, up_n, Int.add_zero] <;> omega
  · rw [show cpy (40 + 11 * l) (51 + 11 * l) f u i = u i from if_neg h]
    simp (disch := omega) only [up_n]
end COPY
