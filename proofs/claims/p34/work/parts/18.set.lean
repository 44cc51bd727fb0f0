/-! writing into the shape -/
def bS (s : Int) : Int := if s = 0 then 2 else if s ≤ 7 then 4 + 71 * s else 5 + 71 * s
def mkS (v : Int → Int) (c : Int → Int → Int) (w : Int → Int) (a : Mm) (s : Int) (u : Int → Int) : Mm := mk (if s = 0 then u else v) (fun t => if t = s then u else c t) w a
section SET
variable (v : Int → Int) (c : Int → Int → Int) (w : Int → Int) (a : Mm)
theorem bS_z : bS 0 = 2 := rfl
theorem mk_row {s d : Int} (hs : 1 ≤ s ∧ s ≤ 9) (hd : 0 ≤ d ∧ d ≤ 70) (k : Int) : mk v c w a (bS s + d) k = cv (bS s) (c s) d k := by
  by_cases h : s ≤ 7
  · have e : bS s = 4 + 71 * s := by unfold bS; rw [if_neg (by omega), if_pos h]
    rw [e]; unfold mk
    rw [if_neg (by omega), if_neg (by omega), if_neg (by omega), if_neg (by omega), if_neg (by omega), if_neg (by omega), if_pos (by omega), show (4 + 71 * s + d - 75) / 71 = s - 1 from by omega, show (4 + 71 * s + d - 75) % 71 = d from by omega, show 1 + (s - 1) = s from by omega, show 75 + 71 * (s - 1) = 4 + 71 * s from by omega]
  · have e : bS s = 5 + 71 * s := by unfold bS; rw [if_neg (by omega), if_neg h]
    rw [e]; unfold mk
    rw [if_neg (by omega), if_neg (by omega), if_neg (by omega), if_neg (by omega), if_neg (by omega), if_neg (by omega), if_neg (by omega), if_neg (by omega), if_pos (by omega), show (5 + 71 * s + d - 573) / 71 = s - 8 from by omega, show (5 + 71 * s + d - 573) % 71 = d from by omega, show 8 + (s - 8) = s from by omega, show 573 + 71 * (s - 8) = 5 + 71 * s from by omega]
theorem mkS_at {s d : Int} (hs : 0 ≤ s ∧ s ≤ 9) (hd : 0 ≤ d ∧ d ≤ 70) (u : Int → Int) (k : Int) : mkS v c w a s u (bS s + d) k = cv (bS s) u d k := by
  unfold mkS
  by_cases h : s = 0
  · subst h; rw [if_pos rfl, bS_z]; exact mk_now _ _ _ _ hd k
  · rw [mk_row _ _ _ _ (by omega) hd, if_pos rfl]
theorem mkS_ot {s t d : Int} (hs : 0 ≤ s ∧ s ≤ 9) (ht : 0 ≤ t ∧ t ≤ 9) (hst : t ≠ s) (hd : 0 ≤ d ∧ d ≤ 70) (u : Int → Int) (k : Int) : mkS v c w a s u (bS t + d) k = cv (bS t) (if t = 0 then v else c t) d k := by
  unfold mkS
  by_cases h : t = 0
  · subst h; rw [if_neg (show ¬ s = 0 from fun e => hst e.symm), if_pos rfl, bS_z]; exact mk_now _ _ _ _ hd k
  · rw [mk_row _ _ _ _ (by omega) hd, if_neg hst, if_neg h]
theorem mkS_out {s r : Int} (hs : 0 ≤ s ∧ s ≤ 9) (hr : ¬ (bS s ≤ r ∧ r ≤ bS s + 70)) (u u' : Int → Int) (k : Int) : mkS v c w a s u r k = mkS v c w a s u' r k := by
  unfold mkS mk
  by_cases h1 : r < 0
  · simp only [if_pos h1]
  by_cases h2 : r = 0
  · simp only [if_neg h1, if_pos h2]
  by_cases h3 : r = 1
  · simp only [if_neg h1, if_neg h2, if_pos h3]
  by_cases h4 : r ≤ 72
  · simp only [if_neg h1, if_neg h2, if_neg h3, if_pos h4]
    have : s ≠ 0 := by intro e; subst e; rw [bS_z] at hr; omega
    rw [if_neg this, if_neg this]
  by_cases h5 : r = 73
  · simp only [if_neg h1, if_neg h2, if_neg h3, if_neg h4, if_pos h5]
  by_cases h6 : r = 74
  · simp only [if_neg h1, if_neg h2, if_neg h3, if_neg h4, if_neg h5, if_pos h6]
  by_cases h7 : r ≤ 571
  · simp only [if_neg h1, if_neg h2, if_neg h3, if_neg h4, if_neg h5, if_neg h6, if_pos h7]
    have : ¬ (1 + (r - 75) / 71 = s) := by
      intro e
      have e2 : bS s = 4 + 71 * s := by unfold bS; rw [if_neg (by omega), if_pos (by omega)]
      omega
    rw [if_neg this, if_neg this]
  by_cases h8 : r = 572
  · simp only [if_neg h1, if_neg h2, if_neg h3, if_neg h4, if_neg h5, if_neg h6, if_neg h7, if_pos h8]
  by_cases h9 : r ≤ 714
  · simp only [if_neg h1, if_neg h2, if_neg h3, if_neg h4, if_neg h5, if_neg h6, if_neg h7, if_neg h8, if_pos h9]
    have : ¬ (8 + (r - 573) / 71 = s) := by
      intro e
      have e2 : bS s = 5 + 71 * s := by unfold bS; rw [if_neg (by omega), if_neg (by omega)]
      omega
    rw [if_neg this, if_neg this]
  simp only [if_neg h1, if_neg h2, if_neg h3, if_neg h4, if_neg h5, if_neg h6, if_neg h7, if_neg h8, if_neg h9]
theorem set_S {s d0 j x : Int} {u u' : Int → Int} (hs : 0 ≤ s ∧ s ≤ 9) (hd : 0 ≤ d0 ∧ d0 ≤ 70) (h1 : cv (bS s) u' d0 j = x) (h2 : ∀ k, k ≠ j → cv (bS s) u' d0 k = cv (bS s) u d0 k)
    (h3 : ∀ d k, 0 ≤ d ∧ d ≤ 70 → d ≠ d0 → cv (bS s) u' d k = cv (bS s) u d k) : mset (mkS v c w a s u) (bS s + d0) j x = mkS v c w a s u' := by
  funext r k
  unfold mset
  by_cases hr : bS s ≤ r ∧ r ≤ bS s + 70
  · have e : r = bS s + (r - bS s) := by omega
    rw [e, mkS_at v c w a hs (by omega), mkS_at v c w a hs (by omega)]
    by_cases q1 : r - bS s = d0
    · by_cases q2 : k = j
      · rw [if_pos (by omega), q1, q2, h1]
      · rw [if_neg (fun z => q2 z.2), q1, h2 k q2]
    · rw [if_neg (by omega), h3 _ k (by omega) q1]
  · rw [if_neg (by omega), mkS_out v c w a hs hr u u']
theorem mkS_0 (u : Int → Int) : mkS v c w a 0 u = mk u c w a := by
  funext r k
  unfold mkS mk
  rw [if_pos rfl]
  by_cases h7 : 75 ≤ r ∧ r ≤ 571
  · by_cases h9 : 573 ≤ r ∧ r ≤ 714
    · omega
    · simp only [if_neg (show ¬ (1 + (r - 75) / 71 = 0) by omega), if_neg (show ¬ r < 0 by omega), if_neg (show ¬ r = 0 by omega), if_neg (show ¬ r = 1 by omega), if_neg (show ¬ r ≤ 72 by omega), if_neg (show ¬ r = 73 by omega), if_neg (show ¬ r = 74 by omega), if_pos (show r ≤ 571 by omega)]
  · by_cases h9 : 573 ≤ r ∧ r ≤ 714
    · simp only [if_neg (show ¬ (8 + (r - 573) / 71 = 0) by omega), if_neg (show ¬ r < 0 by omega), if_neg (show ¬ r = 0 by omega), if_neg (show ¬ r = 1 by omega), if_neg (show ¬ r ≤ 72 by omega), if_neg (show ¬ r = 73 by omega), if_neg (show ¬ r = 74 by omega), if_neg (show ¬ r ≤ 571 by omega), if_neg (show ¬ r = 572 by omega), if_pos (show r ≤ 714 by omega)]
    · by_cases g1 : r ≤ 74
      · by_cases f1 : r < 0
        · simp only [if_pos f1]
        by_cases f2 : r = 0
        · simp only [if_neg f1, if_pos f2]
        by_cases f3 : r = 1
        · simp only [if_neg f1, if_neg f2, if_pos f3]
        by_cases f4 : r ≤ 72
        · simp only [if_neg f1, if_neg f2, if_neg f3, if_pos f4]
        by_cases f5 : r = 73
        · simp only [if_neg f1, if_neg f2, if_neg f3, if_neg f4, if_pos f5]
        · simp only [if_neg f1, if_neg f2, if_neg f3, if_neg f4, if_neg f5, if_pos (show r = 74 by omega)]
      · simp only [if_neg (show ¬ r < 0 by omega), if_neg (show ¬ r = 0 by omega), if_neg (show ¬ r = 1 by omega), if_neg (show ¬ r ≤ 72 by omega), if_neg (show ¬ r = 73 by omega), if_neg (show ¬ r = 74 by omega), if_neg (show ¬ r ≤ 571 by omega)]
        by_cases f6 : r = 572
        · simp only [if_pos f6]
        · simp only [if_neg f6, if_neg (show ¬ r ≤ 714 by omega)]
theorem cv_congr {B : Int} {u u' : Int → Int} {d : Int} (h0 : d = 0 → u 0 = u' 0 ∧ u 1 = u' 1 ∧ u 2 = u' 2 ∧ u 3 = u' 3 ∧ u 4 = u' 4 ∧ u 11 = u' 11 ∧ u 12 = u' 12)
    (h1 : d = 1 → ∀ k, 1 ≤ k ∧ k ≤ 5 → u (4 + k) = u' (4 + k)) (h2 : d = 2 → ∀ k, 0 ≤ k ∧ k < 6 → u (14 + k) = u' (14 + k)) (h4 : 4 ≤ d ∧ d ≤ 8 → ∀ k, 0 ≤ k ∧ k < 4 → u (20 + 4 * (d - 4) + k) = u' (20 + 4 * (d - 4) + k))
    (h10 : 10 ≤ d ∧ d ≤ 39 → ∀ k, 0 ≤ k ∧ k < 11 → u (40 + 11 * (d - 10) + k) = u' (40 + 11 * (d - 10) + k)) (h41 : 41 ≤ d → ∀ k, 0 ≤ k ∧ k < 5 → u (370 + 5 * (d - 41) + k) = u' (370 + 5 * (d - 41) + k)) (hd : 0 ≤ d) (k : Int) :
    cv B u d k = cv B u' d k := by
  unfold cv
  by_cases q0 : d = 0
  · obtain ⟨e0, e1, e2, e3, e4, e5, e6⟩ := h0 q0
    simp only [if_pos q0, e0, e1, e2, e3, e4, e5, e6]
  by_cases q1 : d = 1
  · simp only [if_neg q0, if_pos q1]
    by_cases z : 1 ≤ k ∧ k ≤ 5
    · simp only [h1 q1 k z]
    · simp only [if_neg z]
  by_cases q2 : d = 2
  · simp only [if_neg q0, if_neg q1, if_pos q2]
    by_cases z : 0 ≤ k ∧ k < 6
    · simp only [h2 q2 k z]
    · simp only [if_neg z]
  by_cases q3 : d = 3
  · simp only [if_neg q0, if_neg q1, if_neg q2, if_pos q3]
  by_cases q4 : d ≤ 8
  · simp only [if_neg q0, if_neg q1, if_neg q2, if_neg q3, if_pos q4]
    by_cases z : 0 ≤ k ∧ k < 4
    · simp only [h4 (by omega) k z]
    · simp only [if_neg z]
  by_cases q5 : d = 9
  · simp only [if_neg q0, if_neg q1, if_neg q2, if_neg q3, if_neg q4, if_pos q5]
  by_cases q6 : d ≤ 39
  · simp only [if_neg q0, if_neg q1, if_neg q2, if_neg q3, if_neg q4, if_neg q5, if_pos q6, h10 (by omega) 2 (by omega), h10 (by omega) 7 (by omega)]
    by_cases z : 0 ≤ k ∧ k < 11
    · simp only [h10 (by omega) k z]
    · simp only [if_neg z]
  by_cases q7 : d = 40
  · simp only [if_neg q0, if_neg q1, if_neg q2, if_neg q3, if_neg q4, if_neg q5, if_neg q6, if_pos q7]
  · simp only [if_neg q0, if_neg q1, if_neg q2, if_neg q3, if_neg q4, if_neg q5, if_neg q6, if_neg q7]
    by_cases z : 0 ≤ k ∧ k < 5
    · simp only [h41 (by omega) k z]
    · simp only [if_neg z]
end SET
