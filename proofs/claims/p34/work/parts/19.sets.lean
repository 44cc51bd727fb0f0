/-! fields of the shape: read by their places, written by their places -/
section CV
variable (B : Int) (u : Int → Int)
theorem cv_O {o : Int} (h : 0 ≤ o ∧ o < 5) (k : Int) : cv B u (4 + o) k = if k = -2 then 6 else if 0 ≤ k ∧ k < 4 then u (20 + 4 * o + k) else 0 := by
  unfold cv; rw [if_neg (by omega), if_neg (by omega), if_neg (by omega), if_neg (by omega), if_pos (by omega), show 4 + o - 4 = o from by omega]
theorem cv_L {l : Int} (h : 0 ≤ l ∧ l < 30) (k : Int) : cv B u (10 + l) k = if k = -2 then 4 else if k = 7 then u (40 + 11 * l + 2) - u (40 + 11 * l + 7) else if 0 ≤ k ∧ k < 11 then u (40 + 11 * l + k) else 0 := by
  unfold cv; rw [if_neg (by omega), if_neg (by omega), if_neg (by omega), if_neg (by omega), if_neg (by omega), if_neg (by omega), if_pos (by omega), show 10 + l - 10 = l from by omega]
theorem cv_X {e : Int} (h : 0 ≤ e ∧ e < 30) (k : Int) : cv B u (41 + e) k = if k = -2 then 2 else if 0 ≤ k ∧ k < 5 then u (370 + 5 * e + k) else 0 := by
  unfold cv; rw [if_neg (by omega), if_neg (by omega), if_neg (by omega), if_neg (by omega), if_neg (by omega), if_neg (by omega), if_neg (by omega), if_neg (by omega), show 41 + e - 41 = e from by omega]
theorem cv_O_k {o : Int} (h : 0 ≤ o ∧ o < 5) : cv B u (4 + o) (-2) = 6 := (cv_O B u h (-2)).trans rfl
theorem cv_O_0 {o : Int} (h : 0 ≤ o ∧ o < 5) : cv B u (4 + o) 0 = u (20 + 4 * o) := by have e := cv_O B u h 0; simpa using e
theorem cv_O_1 {o : Int} (h : 0 ≤ o ∧ o < 5) : cv B u (4 + o) 1 = u (20 + 4 * o + 1) := (cv_O B u h 1).trans rfl
theorem cv_O_2 {o : Int} (h : 0 ≤ o ∧ o < 5) : cv B u (4 + o) 2 = u (20 + 4 * o + 2) := (cv_O B u h 2).trans rfl
theorem cv_O_3 {o : Int} (h : 0 ≤ o ∧ o < 5) : cv B u (4 + o) 3 = u (20 + 4 * o + 3) := (cv_O B u h 3).trans rfl
theorem cv_L_k {l : Int} (h : 0 ≤ l ∧ l < 30) : cv B u (10 + l) (-2) = 4 := (cv_L B u h (-2)).trans rfl
theorem cv_L_0 {l : Int} (h : 0 ≤ l ∧ l < 30) : cv B u (10 + l) 0 = u (40 + 11 * l) := by have e := cv_L B u h 0; simpa using e
theorem cv_L_1 {l : Int} (h : 0 ≤ l ∧ l < 30) : cv B u (10 + l) 1 = u (40 + 11 * l + 1) := (cv_L B u h 1).trans rfl
theorem cv_L_2 {l : Int} (h : 0 ≤ l ∧ l < 30) : cv B u (10 + l) 2 = u (40 + 11 * l + 2) := (cv_L B u h 2).trans rfl
theorem cv_L_3 {l : Int} (h : 0 ≤ l ∧ l < 30) : cv B u (10 + l) 3 = u (40 + 11 * l + 3) := (cv_L B u h 3).trans rfl
theorem cv_L_4 {l : Int} (h : 0 ≤ l ∧ l < 30) : cv B u (10 + l) 4 = u (40 + 11 * l + 4) := (cv_L B u h 4).trans rfl
theorem cv_L_5 {l : Int} (h : 0 ≤ l ∧ l < 30) : cv B u (10 + l) 5 = u (40 + 11 * l + 5) := (cv_L B u h 5).trans rfl
theorem cv_L_6 {l : Int} (h : 0 ≤ l ∧ l < 30) : cv B u (10 + l) 6 = u (40 + 11 * l + 6) := (cv_L B u h 6).trans rfl
theorem cv_L_7 {l : Int} (h : 0 ≤ l ∧ l < 30) : cv B u (10 + l) 7 = u (40 + 11 * l + 2) - u (40 + 11 * l + 7) := (cv_L B u h 7).trans rfl
theorem cv_L_8 {l : Int} (h : 0 ≤ l ∧ l < 30) : cv B u (10 + l) 8 = u (40 + 11 * l + 8) := (cv_L B u h 8).trans rfl
theorem cv_L_9 {l : Int} (h : 0 ≤ l ∧ l < 30) : cv B u (10 + l) 9 = u (40 + 11 * l + 9) := (cv_L B u h 9).trans rfl
theorem cv_L_10 {l : Int} (h : 0 ≤ l ∧ l < 30) : cv B u (10 + l) 10 = u (40 + 11 * l + 10) := (cv_L B u h 10).trans rfl
theorem cv_X_k {e : Int} (h : 0 ≤ e ∧ e < 30) : cv B u (41 + e) (-2) = 2 := (cv_X B u h (-2)).trans rfl
theorem cv_X_0 {e : Int} (h : 0 ≤ e ∧ e < 30) : cv B u (41 + e) 0 = u (370 + 5 * e) := by have e := cv_X B u h 0; simpa using e
theorem cv_X_1 {e : Int} (h : 0 ≤ e ∧ e < 30) : cv B u (41 + e) 1 = u (370 + 5 * e + 1) := (cv_X B u h 1).trans rfl
theorem cv_X_2 {e : Int} (h : 0 ≤ e ∧ e < 30) : cv B u (41 + e) 2 = u (370 + 5 * e + 2) := (cv_X B u h 2).trans rfl
theorem cv_X_3 {e : Int} (h : 0 ≤ e ∧ e < 30) : cv B u (41 + e) 3 = u (370 + 5 * e + 3) := (cv_X B u h 3).trans rfl
theorem cv_X_4 {e : Int} (h : 0 ≤ e ∧ e < 30) : cv B u (41 + e) 4 = u (370 + 5 * e + 4) := (cv_X B u h 4).trans rfl
theorem cv_0_m2 : cv B u 0 (-2) = 8 := Eq.trans rfl rfl
theorem cv_0_0 : cv B u 0 0 = B + 1 := Eq.trans rfl rfl
theorem cv_0_1 : cv B u 0 1 = B + 3 := Eq.trans rfl rfl
theorem cv_0_2 : cv B u 0 2 = B + 9 := Eq.trans rfl rfl
theorem cv_0_3 : cv B u 0 3 = B + 40 := Eq.trans rfl rfl
theorem cv_0_4 : cv B u 0 4 = u 1 := Eq.trans rfl rfl
theorem cv_0_5 : cv B u 0 5 = u 2 := Eq.trans rfl rfl
theorem cv_0_6 : cv B u 0 6 = u 3 := Eq.trans rfl rfl
theorem cv_0_7 : cv B u 0 7 = u 4 := Eq.trans rfl rfl
theorem cv_0_8 : cv B u 0 8 = u 0 := Eq.trans rfl rfl
theorem cv_0_9 : cv B u 0 9 = u 11 := Eq.trans rfl rfl
theorem cv_0_10 : cv B u 0 10 = u 12 := Eq.trans rfl rfl
theorem cv_1_m2 : cv B u 1 (-2) = 7 := Eq.trans rfl rfl
theorem cv_1_0 : cv B u 1 0 = B + 2 := Eq.trans rfl rfl
theorem cv_1_1 : cv B u 1 1 = u 5 := Eq.trans rfl rfl
theorem cv_1_2 : cv B u 1 2 = u 6 := Eq.trans rfl rfl
theorem cv_1_3 : cv B u 1 3 = u 7 := Eq.trans rfl rfl
theorem cv_1_4 : cv B u 1 4 = u 8 := Eq.trans rfl rfl
theorem cv_1_5 : cv B u 1 5 = u 9 := Eq.trans rfl rfl
theorem cv_2_m2 : cv B u 2 (-2) = 23 := Eq.trans rfl rfl
theorem cv_2_m1 : cv B u 2 (-1) = 6 := Eq.trans rfl rfl
theorem cv_3_m2 : cv B u 3 (-2) = 27 := Eq.trans rfl rfl
theorem cv_3_m1 : cv B u 3 (-1) = 5 := Eq.trans rfl rfl
theorem cv_9_m2 : cv B u 9 (-2) = 28 := Eq.trans rfl rfl
theorem cv_9_m1 : cv B u 9 (-1) = 30 := Eq.trans rfl rfl
theorem cv_40_m2 : cv B u 40 (-2) = 29 := Eq.trans rfl rfl
theorem cv_40_m1 : cv B u 40 (-1) = 30 := Eq.trans rfl rfl
theorem cv_2 (k : Int) : cv B u 2 k = if k = -2 then 23 else if k = -1 then 6 else if 0 ≤ k ∧ k < 6 then u (14 + k) else 0 := Eq.trans rfl rfl
theorem cv_2_at {k : Int} (h : 0 ≤ k ∧ k < 6) : cv B u 2 k = u (14 + k) := by
  unfold cv; rw [if_neg (by omega), if_neg (by omega), if_pos rfl, if_neg (by omega), if_neg (by omega), if_pos h]
theorem cv_3_at {k : Int} (h : 0 ≤ k ∧ k < 5) : cv B u 3 k = B + (4 + k) := by
  unfold cv; rw [if_neg (by omega), if_neg (by omega), if_neg (by omega), if_pos rfl, if_neg (by omega), if_neg (by omega), if_pos h]; omega
theorem cv_9_at {k : Int} (h : 0 ≤ k ∧ k < 30) : cv B u 9 k = B + (10 + k) := by
  unfold cv; rw [if_neg (by omega), if_neg (by omega), if_neg (by omega), if_neg (by omega), if_neg (by omega), if_pos rfl, if_neg (by omega), if_neg (by omega), if_pos h]; omega
theorem cv_40_at {k : Int} (h : 0 ≤ k ∧ k < 30) : cv B u 40 k = B + (41 + k) := by
  unfold cv; rw [if_neg (by omega), if_neg (by omega), if_neg (by omega), if_neg (by omega), if_neg (by omega), if_neg (by omega), if_neg (by omega), if_pos rfl, if_neg (by omega), if_neg (by omega), if_pos h]; omega
end CV
section SETS
variable (v : Int → Int) (c : Int → Int → Int) (w : Int → Int) (a : Mm)
theorem S_O {s o j : Int} (hs : 0 ≤ s ∧ s ≤ 9) (ho : 0 ≤ o ∧ o < 5) (hj : 0 ≤ j ∧ j < 4) (u : Int → Int) (x : Int) : mset (mkS v c w a s u) (bS s + (4 + o)) j x = mkS v c w a s (up u (20 + 4 * o + j) x) := by
  refine set_S v c w a hs (by omega) ?_ (fun k hk => ?_) (fun d k hd hn => ?_)
  · rw [cv_O _ _ ho, if_neg (by omega), if_pos hj, up_e]
  · rw [cv_O _ _ ho, cv_O _ _ ho]
    by_cases z : 0 ≤ k ∧ k < 4
    · simp only [if_neg (show ¬ k = -2 by omega), if_pos z, up_n (show 20 + 4 * o + k ≠ 20 + 4 * o + j by omega)]
    · simp only [if_neg z]
  · exact cv_congr (fun _ => ⟨up_n (by omega), up_n (by omega), up_n (by omega), up_n (by omega), up_n (by omega), up_n (by omega), up_n (by omega)⟩) (fun _ k _ => up_n (by omega)) (fun _ k _ => up_n (by omega)) (fun _ k _ => up_n (by omega)) (fun _ k _ => up_n (by omega)) (fun _ k _ => up_n (by omega)) (by omega) k
theorem S_X {s e j : Int} (hs : 0 ≤ s ∧ s ≤ 9) (ho : 0 ≤ e ∧ e < 30) (hj : 0 ≤ j ∧ j < 5) (u : Int → Int) (x : Int) : mset (mkS v c w a s u) (bS s + (41 + e)) j x = mkS v c w a s (up u (370 + 5 * e + j) x) := by
  refine set_S v c w a hs (by omega) ?_ (fun k hk => ?_) (fun d k hd hn => ?_)
  · rw [cv_X _ _ ho, if_neg (by omega), if_pos hj, up_e]
  · rw [cv_X _ _ ho, cv_X _ _ ho]
    by_cases z : 0 ≤ k ∧ k < 5
    · simp only [if_neg (show ¬ k = -2 by omega), if_pos z, up_n (show 370 + 5 * e + k ≠ 370 + 5 * e + j by omega)]
    · simp only [if_neg z]
  · exact cv_congr (fun _ => ⟨up_n (by omega), up_n (by omega), up_n (by omega), up_n (by omega), up_n (by omega), up_n (by omega), up_n (by omega)⟩) (fun _ k _ => up_n (by omega)) (fun _ k _ => up_n (by omega)) (fun _ k _ => up_n (by omega)) (fun _ k _ => up_n (by omega)) (fun _ k _ => up_n (by omega)) (by omega) k
theorem S_L {s l j : Int} (hs : 0 ≤ s ∧ s ≤ 9) (ho : 0 ≤ l ∧ l < 30) (hj : 0 ≤ j ∧ j < 11) (j2 : j ≠ 2) (j7 : j ≠ 7) (u : Int → Int) (x : Int) : mset (mkS v c w a s u) (bS s + (10 + l)) j x = mkS v c w a s (up u (40 + 11 * l + j) x) := by
  refine set_S v c w a hs (by omega) ?_ (fun k hk => ?_) (fun d k hd hn => ?_)
  · rw [cv_L _ _ ho, if_neg (by omega), if_neg j7, if_pos hj, up_e]
  · rw [cv_L _ _ ho, cv_L _ _ ho, up_n (by omega), up_n (by omega)]
    by_cases z : 0 ≤ k ∧ k < 11
    · simp only [if_neg (show ¬ k = -2 by omega), if_pos z, up_n (show 40 + 11 * l + k ≠ 40 + 11 * l + j by omega)]
    · simp only [if_neg z]
  · exact cv_congr (fun _ => ⟨up_n (by omega), up_n (by omega), up_n (by omega), up_n (by omega), up_n (by omega), up_n (by omega), up_n (by omega)⟩) (fun _ k _ => up_n (by omega)) (fun _ k _ => up_n (by omega)) (fun _ k _ => up_n (by omega)) (fun _ k _ => up_n (by omega)) (fun _ k _ => up_n (by omega)) (by omega) k
theorem S_L7 {s l : Int} (hs : 0 ≤ s ∧ s ≤ 9) (ho : 0 ≤ l ∧ l < 30) (u : Int → Int) (x : Int) : mset (mkS v c w a s u) (bS s + (10 + l)) 7 x = mkS v c w a s (up u (40 + 11 * l + 7) (u (40 + 11 * l + 2) - x)) := by
  refine set_S v c w a hs (by omega) ?_ (fun k hk => ?_) (fun d k hd hn => ?_)
  · rw [cv_L_7 _ _ ho, up_e, up_n (by omega)]; omega
  · rw [cv_L _ _ ho, cv_L _ _ ho]
    by_cases z : 0 ≤ k ∧ k < 11
    · simp only [if_neg (show ¬ k = -2 by omega), if_neg hk, if_pos z, up_n (show 40 + 11 * l + k ≠ 40 + 11 * l + 7 by omega)]
    · simp only [if_neg hk, if_neg z]
  · exact cv_congr (fun _ => ⟨up_n (by omega), up_n (by omega), up_n (by omega), up_n (by omega), up_n (by omega), up_n (by omega), up_n (by omega)⟩) (fun _ k _ => up_n (by omega)) (fun _ k _ => up_n (by omega)) (fun _ k _ => up_n (by omega)) (fun _ k _ => up_n (by omega)) (fun _ k _ => up_n (by omega)) (by omega) k
theorem S_L2 {s l : Int} (hs : 0 ≤ s ∧ s ≤ 9) (ho : 0 ≤ l ∧ l < 30) (u : Int → Int) (x : Int) : mset (mkS v c w a s u) (bS s + (10 + l)) 2 x = mkS v c w a s (up (up u (40 + 11 * l + 2) x) (40 + 11 * l + 7) (x - (u (40 + 11 * l + 2) - u (40 + 11 * l + 7)))) := by
  refine set_S v c w a hs (by omega) ?_ (fun k hk => ?_) (fun d k hd hn => ?_)
  · rw [cv_L_2 _ _ ho, up_n (by omega), up_e]
  · rw [cv_L _ _ ho, cv_L _ _ ho]
    by_cases z : 0 ≤ k ∧ k < 11
    · by_cases y : k = 7
      · simp only [if_neg (show ¬ k = -2 by omega), if_pos y, up_e, up_n (show 40 + 11 * l + 2 ≠ 40 + 11 * l + 7 by omega)]; omega
      · simp only [if_neg (show ¬ k = -2 by omega), if_neg y, if_pos z, up_n (show 40 + 11 * l + k ≠ 40 + 11 * l + 2 by omega), up_n (show 40 + 11 * l + k ≠ 40 + 11 * l + 7 by omega)]
    · simp only [if_neg (show ¬ k = 7 by omega), if_neg z]
  · refine (cv_congr (fun _ => ⟨up_n (by omega), up_n (by omega), up_n (by omega), up_n (by omega), up_n (by omega), up_n (by omega), up_n (by omega)⟩) (fun _ k _ => up_n (by omega)) (fun _ k _ => up_n (by omega)) (fun _ k _ => up_n (by omega)) (fun _ k _ => up_n (by omega)) (fun _ k _ => up_n (by omega)) (by omega) k).trans ?_
    exact cv_congr (fun _ => ⟨up_n (by omega), up_n (by omega), up_n (by omega), up_n (by omega), up_n (by omega), up_n (by omega), up_n (by omega)⟩) (fun _ k _ => up_n (by omega)) (fun _ k _ => up_n (by omega)) (fun _ k _ => up_n (by omega)) (fun _ k _ => up_n (by omega)) (fun _ k _ => up_n (by omega)) (by omega) k
theorem S_0_4 {s : Int} (hs : 0 ≤ s ∧ s ≤ 9) (u : Int → Int) (x : Int) : mset (mkS v c w a s u) (bS s) 4 x = mkS v c w a s (up u 1 x) := by
  suffices q : mset (mkS v c w a s u) (bS s + 0) 4 x = mkS v c w a s (up u 1 x) by rwa [Int.add_zero] at q
  refine set_S v c w a hs (by omega) (up_e u 1 x) (fun k hk => ?_) (fun d k hd hn => ?_)
  · unfold cv
    rw [if_pos rfl, if_pos rfl]
    by_cases y : k = 4
    · exact absurd y hk
    · simp only [if_neg y, up_n (show (0 : Int) ≠ 1 by decide), up_n (show (2 : Int) ≠ 1 by decide), up_n (show (3 : Int) ≠ 1 by decide), up_n (show (4 : Int) ≠ 1 by decide), up_n (show (11 : Int) ≠ 1 by decide), up_n (show (12 : Int) ≠ 1 by decide)]
  · exact cv_congr (fun _ => ⟨up_n (by omega), up_n (by omega), up_n (by omega), up_n (by omega), up_n (by omega), up_n (by omega), up_n (by omega)⟩) (fun _ k _ => up_n (by omega)) (fun _ k _ => up_n (by omega)) (fun _ k _ => up_n (by omega)) (fun _ k _ => up_n (by omega)) (fun _ k _ => up_n (by omega)) (by omega) k
theorem S_0_5 {s : Int} (hs : 0 ≤ s ∧ s ≤ 9) (u : Int → Int) (x : Int) : mset (mkS v c w a s u) (bS s) 5 x = mkS v c w a s (up u 2 x) := by
  suffices q : mset (mkS v c w a s u) (bS s + 0) 5 x = mkS v c w a s (up u 2 x) by rwa [Int.add_zero] at q
  refine set_S v c w a hs (by omega) (up_e u 2 x) (fun k hk => ?_) (fun d k hd hn => ?_)
  · unfold cv
    rw [if_pos rfl, if_pos rfl]
    by_cases y : k = 5
    · exact absurd y hk
    · simp only [if_neg y, up_n (show (0 : Int) ≠ 2 by decide), up_n (show (1 : Int) ≠ 2 by decide), up_n (show (3 : Int) ≠ 2 by decide), up_n (show (4 : Int) ≠ 2 by decide), up_n (show (11 : Int) ≠ 2 by decide), up_n (show (12 : Int) ≠ 2 by decide)]
  · exact cv_congr (fun _ => ⟨up_n (by omega), up_n (by omega), up_n (by omega), up_n (by omega), up_n (by omega), up_n (by omega), up_n (by omega)⟩) (fun _ k _ => up_n (by omega)) (fun _ k _ => up_n (by omega)) (fun _ k _ => up_n (by omega)) (fun _ k _ => up_n (by omega)) (fun _ k _ => up_n (by omega)) (by omega) k
theorem S_0_6 {s : Int} (hs : 0 ≤ s ∧ s ≤ 9) (u : Int → Int) (x : Int) : mset (mkS v c w a s u) (bS s) 6 x = mkS v c w a s (up u 3 x) := by
  suffices q : mset (mkS v c w a s u) (bS s + 0) 6 x = mkS v c w a s (up u 3 x) by rwa [Int.add_zero] at q
  refine set_S v c w a hs (by omega) (up_e u 3 x) (fun k hk => ?_) (fun d k hd hn => ?_)
  · unfold cv
    rw [if_pos rfl, if_pos rfl]
    by_cases y : k = 6
    · exact absurd y hk
    · simp only [if_neg y, up_n (show (0 : Int) ≠ 3 by decide), up_n (show (1 : Int) ≠ 3 by decide), up_n (show (2 : Int) ≠ 3 by decide), up_n (show (4 : Int) ≠ 3 by decide), up_n (show (11 : Int) ≠ 3 by decide), up_n (show (12 : Int) ≠ 3 by decide)]
  · exact cv_congr (fun _ => ⟨up_n (by omega), up_n (by omega), up_n (by omega), up_n (by omega), up_n (by omega), up_n (by omega), up_n (by omega)⟩) (fun _ k _ => up_n (by omega)) (fun _ k _ => up_n (by omega)) (fun _ k _ => up_n (by omega)) (fun _ k _ => up_n (by omega)) (fun _ k _ => up_n (by omega)) (by omega) k
theorem S_0_7 {s : Int} (hs : 0 ≤ s ∧ s ≤ 9) (u : Int → Int) (x : Int) : mset (mkS v c w a s u) (bS s) 7 x = mkS v c w a s (up u 4 x) := by
  suffices q : mset (mkS v c w a s u) (bS s + 0) 7 x = mkS v c w a s (up u 4 x) by rwa [Int.add_zero] at q
  refine set_S v c w a hs (by omega) (up_e u 4 x) (fun k hk => ?_) (fun d k hd hn => ?_)
  · unfold cv
    rw [if_pos rfl, if_pos rfl]
    by_cases y : k = 7
    · exact absurd y hk
    · simp only [if_neg y, up_n (show (0 : Int) ≠ 4 by decide), up_n (show (1 : Int) ≠ 4 by decide), up_n (show (2 : Int) ≠ 4 by decide), up_n (show (3 : Int) ≠ 4 by decide), up_n (show (11 : Int) ≠ 4 by decide), up_n (show (12 : Int) ≠ 4 by decide)]
  · exact cv_congr (fun _ => ⟨up_n (by omega), up_n (by omega), up_n (by omega), up_n (by omega), up_n (by omega), up_n (by omega), up_n (by omega)⟩) (fun _ k _ => up_n (by omega)) (fun _ k _ => up_n (by omega)) (fun _ k _ => up_n (by omega)) (fun _ k _ => up_n (by omega)) (fun _ k _ => up_n (by omega)) (by omega) k
theorem S_0_8 {s : Int} (hs : 0 ≤ s ∧ s ≤ 9) (u : Int → Int) (x : Int) : mset (mkS v c w a s u) (bS s) 8 x = mkS v c w a s (up u 0 x) := by
  suffices q : mset (mkS v c w a s u) (bS s + 0) 8 x = mkS v c w a s (up u 0 x) by rwa [Int.add_zero] at q
  refine set_S v c w a hs (by omega) (up_e u 0 x) (fun k hk => ?_) (fun d k hd hn => ?_)
  · unfold cv
    rw [if_pos rfl, if_pos rfl]
    by_cases y : k = 8
    · exact absurd y hk
    · simp only [if_neg y, up_n (show (1 : Int) ≠ 0 by decide), up_n (show (2 : Int) ≠ 0 by decide), up_n (show (3 : Int) ≠ 0 by decide), up_n (show (4 : Int) ≠ 0 by decide), up_n (show (11 : Int) ≠ 0 by decide), up_n (show (12 : Int) ≠ 0 by decide)]
  · exact cv_congr (fun _ => ⟨up_n (by omega), up_n (by omega), up_n (by omega), up_n (by omega), up_n (by omega), up_n (by omega), up_n (by omega)⟩) (fun _ k _ => up_n (by omega)) (fun _ k _ => up_n (by omega)) (fun _ k _ => up_n (by omega)) (fun _ k _ => up_n (by omega)) (fun _ k _ => up_n (by omega)) (by omega) k
theorem S_0_9 {s : Int} (hs : 0 ≤ s ∧ s ≤ 9) (u : Int → Int) (x : Int) : mset (mkS v c w a s u) (bS s) 9 x = mkS v c w a s (up u 11 x) := by
  suffices q : mset (mkS v c w a s u) (bS s + 0) 9 x = mkS v c w a s (up u 11 x) by rwa [Int.add_zero] at q
  refine set_S v c w a hs (by omega) (up_e u 11 x) (fun k hk => ?_) (fun d k hd hn => ?_)
  · unfold cv
    rw [if_pos rfl, if_pos rfl]
    by_cases y : k = 9
    · exact absurd y hk
    · simp only [if_neg y, up_n (show (0 : Int) ≠ 11 by decide), up_n (show (1 : Int) ≠ 11 by decide), up_n (show (2 : Int) ≠ 11 by decide), up_n (show (3 : Int) ≠ 11 by decide), up_n (show (4 : Int) ≠ 11 by decide), up_n (show (12 : Int) ≠ 11 by decide)]
  · exact cv_congr (fun _ => ⟨up_n (by omega), up_n (by omega), up_n (by omega), up_n (by omega), up_n (by omega), up_n (by omega), up_n (by omega)⟩) (fun _ k _ => up_n (by omega)) (fun _ k _ => up_n (by omega)) (fun _ k _ => up_n (by omega)) (fun _ k _ => up_n (by omega)) (fun _ k _ => up_n (by omega)) (by omega) k
theorem S_0_10 {s : Int} (hs : 0 ≤ s ∧ s ≤ 9) (u : Int → Int) (x : Int) : mset (mkS v c w a s u) (bS s) 10 x = mkS v c w a s (up u 12 x) := by
  suffices q : mset (mkS v c w a s u) (bS s + 0) 10 x = mkS v c w a s (up u 12 x) by rwa [Int.add_zero] at q
  refine set_S v c w a hs (by omega) (up_e u 12 x) (fun k hk => ?_) (fun d k hd hn => ?_)
  · unfold cv
    rw [if_pos rfl, if_pos rfl]
    by_cases y : k = 10
    · exact absurd y hk
    · simp only [if_neg y, up_n (show (0 : Int) ≠ 12 by decide), up_n (show (1 : Int) ≠ 12 by decide), up_n (show (2 : Int) ≠ 12 by decide), up_n (show (3 : Int) ≠ 12 by decide), up_n (show (4 : Int) ≠ 12 by decide), up_n (show (11 : Int) ≠ 12 by decide)]
  · exact cv_congr (fun _ => ⟨up_n (by omega), up_n (by omega), up_n (by omega), up_n (by omega), up_n (by omega), up_n (by omega), up_n (by omega)⟩) (fun _ k _ => up_n (by omega)) (fun _ k _ => up_n (by omega)) (fun _ k _ => up_n (by omega)) (fun _ k _ => up_n (by omega)) (fun _ k _ => up_n (by omega)) (by omega) k
theorem S_1_1 {s : Int} (hs : 0 ≤ s ∧ s ≤ 9) (u : Int → Int) (x : Int) : mset (mkS v c w a s u) (bS s + 1) 1 x = mkS v c w a s (up u 5 x) := by
  refine set_S v c w a hs (by omega) (up_e u 5 x) (fun k hk => ?_) (fun d k hd hn => ?_)
  · unfold cv
    rw [if_neg (show ¬ (1 : Int) = 0 by decide), if_pos rfl, if_neg (show ¬ (1 : Int) = 0 by decide), if_pos rfl]
    by_cases z : 1 ≤ k ∧ k ≤ 5
    · simp only [up_n (show 4 + k ≠ 5 by omega)]
    · simp only [if_neg z]
  · exact cv_congr (fun _ => ⟨up_n (by omega), up_n (by omega), up_n (by omega), up_n (by omega), up_n (by omega), up_n (by omega), up_n (by omega)⟩) (fun _ k _ => up_n (by omega)) (fun _ k _ => up_n (by omega)) (fun _ k _ => up_n (by omega)) (fun _ k _ => up_n (by omega)) (fun _ k _ => up_n (by omega)) (by omega) k
theorem S_1_2 {s : Int} (hs : 0 ≤ s ∧ s ≤ 9) (u : Int → Int) (x : Int) : mset (mkS v c w a s u) (bS s + 1) 2 x = mkS v c w a s (up u 6 x) := by
  refine set_S v c w a hs (by omega) (up_e u 6 x) (fun k hk => ?_) (fun d k hd hn => ?_)
  · unfold cv
    rw [if_neg (show ¬ (1 : Int) = 0 by decide), if_pos rfl, if_neg (show ¬ (1 : Int) = 0 by decide), if_pos rfl]
    by_cases z : 1 ≤ k ∧ k ≤ 5
    · simp only [up_n (show 4 + k ≠ 6 by omega)]
    · simp only [if_neg z]
  · exact cv_congr (fun _ => ⟨up_n (by omega), up_n (by omega), up_n (by omega), up_n (by omega), up_n (by omega), up_n (by omega), up_n (by omega)⟩) (fun _ k _ => up_n (by omega)) (fun _ k _ => up_n (by omega)) (fun _ k _ => up_n (by omega)) (fun _ k _ => up_n (by omega)) (fun _ k _ => up_n (by omega)) (by omega) k
theorem S_1_3 {s : Int} (hs : 0 ≤ s ∧ s ≤ 9) (u : Int → Int) (x : Int) : mset (mkS v c w a s u) (bS s + 1) 3 x = mkS v c w a s (up u 7 x) := by
  refine set_S v c w a hs (by omega) (up_e u 7 x) (fun k hk => ?_) (fun d k hd hn => ?_)
  · unfold cv
    rw [if_neg (show ¬ (1 : Int) = 0 by decide), if_pos rfl, if_neg (show ¬ (1 : Int) = 0 by decide), if_pos rfl]
    by_cases z : 1 ≤ k ∧ k ≤ 5
    · simp only [up_n (show 4 + k ≠ 7 by omega)]
    · simp only [if_neg z]
  · exact cv_congr (fun _ => ⟨up_n (by omega), up_n (by omega), up_n (by omega), up_n (by omega), up_n (by omega), up_n (by omega), up_n (by omega)⟩) (fun _ k _ => up_n (by omega)) (fun _ k _ => up_n (by omega)) (fun _ k _ => up_n (by omega)) (fun _ k _ => up_n (by omega)) (fun _ k _ => up_n (by omega)) (by omega) k
theorem S_1_4 {s : Int} (hs : 0 ≤ s ∧ s ≤ 9) (u : Int → Int) (x : Int) : mset (mkS v c w a s u) (bS s + 1) 4 x = mkS v c w a s (up u 8 x) := by
  refine set_S v c w a hs (by omega) (up_e u 8 x) (fun k hk => ?_) (fun d k hd hn => ?_)
  · unfold cv
    rw [if_neg (show ¬ (1 : Int) = 0 by decide), if_pos rfl, if_neg (show ¬ (1 : Int) = 0 by decide), if_pos rfl]
    by_cases z : 1 ≤ k ∧ k ≤ 5
    · simp only [up_n (show 4 + k ≠ 8 by omega)]
    · simp only [if_neg z]
  · exact cv_congr (fun _ => ⟨up_n (by omega), up_n (by omega), up_n (by omega), up_n (by omega), up_n (by omega), up_n (by omega), up_n (by omega)⟩) (fun _ k _ => up_n (by omega)) (fun _ k _ => up_n (by omega)) (fun _ k _ => up_n (by omega)) (fun _ k _ => up_n (by omega)) (fun _ k _ => up_n (by omega)) (by omega) k
theorem S_1_5 {s : Int} (hs : 0 ≤ s ∧ s ≤ 9) (u : Int → Int) (x : Int) : mset (mkS v c w a s u) (bS s + 1) 5 x = mkS v c w a s (up u 9 x) := by
  refine set_S v c w a hs (by omega) (up_e u 9 x) (fun k hk => ?_) (fun d k hd hn => ?_)
  · unfold cv
    rw [if_neg (show ¬ (1 : Int) = 0 by decide), if_pos rfl, if_neg (show ¬ (1 : Int) = 0 by decide), if_pos rfl]
    by_cases z : 1 ≤ k ∧ k ≤ 5
    · simp only [up_n (show 4 + k ≠ 9 by omega)]
    · simp only [if_neg z]
  · exact cv_congr (fun _ => ⟨up_n (by omega), up_n (by omega), up_n (by omega), up_n (by omega), up_n (by omega), up_n (by omega), up_n (by omega)⟩) (fun _ k _ => up_n (by omega)) (fun _ k _ => up_n (by omega)) (fun _ k _ => up_n (by omega)) (fun _ k _ => up_n (by omega)) (fun _ k _ => up_n (by omega)) (by omega) k
theorem S_2 {s j : Int} (hs : 0 ≤ s ∧ s ≤ 9) (hj : 0 ≤ j ∧ j < 6) (u : Int → Int) (x : Int) : mset (mkS v c w a s u) (bS s + 2) j x = mkS v c w a s (up u (14 + j) x) := by
  refine set_S v c w a hs (by omega) ?_ (fun k hk => ?_) (fun d k hd hn => ?_)
  · rw [cv_2_at _ _ hj, up_e]
  · rw [cv_2, cv_2]
    by_cases z : 0 ≤ k ∧ k < 6
    · simp only [up_n (show 14 + k ≠ 14 + j by omega)]
    · simp only [if_neg z]
  · exact cv_congr (fun _ => ⟨up_n (by omega), up_n (by omega), up_n (by omega), up_n (by omega), up_n (by omega), up_n (by omega), up_n (by omega)⟩) (fun _ k _ => up_n (by omega)) (fun _ k _ => up_n (by omega)) (fun _ k _ => up_n (by omega)) (fun _ k _ => up_n (by omega)) (fun _ k _ => up_n (by omega)) (by omega) k
theorem s_O0 {o : Int} (h : 0 ≤ o ∧ o < 5) (x : Int) : mset (mk v c w a) (6 + o) 0 x = mk (up v (20 + 4 * o) x) c w a := by
  have q := S_O v c w a (s := 0) (j := 0) (by omega) h (by omega) v x
  rwa [mkS_0, mkS_0, bS_z, show (2 : Int) + (4 + o) = 6 + o from by omega, Int.add_zero] at q
theorem s_O1 {o : Int} (h : 0 ≤ o ∧ o < 5) (x : Int) : mset (mk v c w a) (6 + o) 1 x = mk (up v (20 + 4 * o + 1) x) c w a := by
  have q := S_O v c w a (s := 0) (j := 1) (by omega) h (by omega) v x
  rwa [mkS_0, mkS_0, bS_z, show (2 : Int) + (4 + o) = 6 + o from by omega] at q
theorem s_O2 {o : Int} (h : 0 ≤ o ∧ o < 5) (x : Int) : mset (mk v c w a) (6 + o) 2 x = mk (up v (20 + 4 * o + 2) x) c w a := by
  have q := S_O v c w a (s := 0) (j := 2) (by omega) h (by omega) v x
  rwa [mkS_0, mkS_0, bS_z, show (2 : Int) + (4 + o) = 6 + o from by omega] at q
theorem s_O3 {o : Int} (h : 0 ≤ o ∧ o < 5) (x : Int) : mset (mk v c w a) (6 + o) 3 x = mk (up v (20 + 4 * o + 3) x) c w a := by
  have q := S_O v c w a (s := 0) (j := 3) (by omega) h (by omega) v x
  rwa [mkS_0, mkS_0, bS_z, show (2 : Int) + (4 + o) = 6 + o from by omega] at q
theorem s_L0 {l : Int} (h : 0 ≤ l ∧ l < 30) (x : Int) : mset (mk v c w a) (12 + l) 0 x = mk (up v (40 + 11 * l) x) c w a := by
  have q := S_L v c w a (s := 0) (j := 0) (by omega) h (by omega) (by omega) (by omega) v x
  rwa [mkS_0, mkS_0, bS_z, show (2 : Int) + (10 + l) = 12 + l from by omega, Int.add_zero] at q
theorem s_L1 {l : Int} (h : 0 ≤ l ∧ l < 30) (x : Int) : mset (mk v c w a) (12 + l) 1 x = mk (up v (40 + 11 * l + 1) x) c w a := by
  have q := S_L v c w a (s := 0) (j := 1) (by omega) h (by omega) (by omega) (by omega) v x
  rwa [mkS_0, mkS_0, bS_z, show (2 : Int) + (10 + l) = 12 + l from by omega] at q
theorem s_L2 {l : Int} (h : 0 ≤ l ∧ l < 30) (x : Int) : mset (mk v c w a) (12 + l) 2 x = mk (up (up v (40 + 11 * l + 2) x) (40 + 11 * l + 7) (x - (v (40 + 11 * l + 2) - v (40 + 11 * l + 7)))) c w a := by
  have e := S_L2 v c w a (s := 0) (by omega) h v x
  rwa [mkS_0, mkS_0, bS_z, show (2 : Int) + (10 + l) = 12 + l from by omega] at e
theorem s_L3 {l : Int} (h : 0 ≤ l ∧ l < 30) (x : Int) : mset (mk v c w a) (12 + l) 3 x = mk (up v (40 + 11 * l + 3) x) c w a := by
  have q := S_L v c w a (s := 0) (j := 3) (by omega) h (by omega) (by omega) (by omega) v x
  rwa [mkS_0, mkS_0, bS_z, show (2 : Int) + (10 + l) = 12 + l from by omega] at q
theorem s_L4 {l : Int} (h : 0 ≤ l ∧ l < 30) (x : Int) : mset (mk v c w a) (12 + l) 4 x = mk (up v (40 + 11 * l + 4) x) c w a := by
  have q := S_L v c w a (s := 0) (j := 4) (by omega) h (by omega) (by omega) (by omega) v x
  rwa [mkS_0, mkS_0, bS_z, show (2 : Int) + (10 + l) = 12 + l from by omega] at q
theorem s_L5 {l : Int} (h : 0 ≤ l ∧ l < 30) (x : Int) : mset (mk v c w a) (12 + l) 5 x = mk (up v (40 + 11 * l + 5) x) c w a := by
  have q := S_L v c w a (s := 0) (j := 5) (by omega) h (by omega) (by omega) (by omega) v x
  rwa [mkS_0, mkS_0, bS_z, show (2 : Int) + (10 + l) = 12 + l from by omega] at q
theorem s_L6 {l : Int} (h : 0 ≤ l ∧ l < 30) (x : Int) : mset (mk v c w a) (12 + l) 6 x = mk (up v (40 + 11 * l + 6) x) c w a := by
  have q := S_L v c w a (s := 0) (j := 6) (by omega) h (by omega) (by omega) (by omega) v x
  rwa [mkS_0, mkS_0, bS_z, show (2 : Int) + (10 + l) = 12 + l from by omega] at q
theorem s_L7 {l : Int} (h : 0 ≤ l ∧ l < 30) (x : Int) : mset (mk v c w a) (12 + l) 7 x = mk (up v (40 + 11 * l + 7) (v (40 + 11 * l + 2) - x)) c w a := by
  have e := S_L7 v c w a (s := 0) (by omega) h v x
  rwa [mkS_0, mkS_0, bS_z, show (2 : Int) + (10 + l) = 12 + l from by omega] at e
theorem s_L8 {l : Int} (h : 0 ≤ l ∧ l < 30) (x : Int) : mset (mk v c w a) (12 + l) 8 x = mk (up v (40 + 11 * l + 8) x) c w a := by
  have q := S_L v c w a (s := 0) (j := 8) (by omega) h (by omega) (by omega) (by omega) v x
  rwa [mkS_0, mkS_0, bS_z, show (2 : Int) + (10 + l) = 12 + l from by omega] at q
theorem s_L9 {l : Int} (h : 0 ≤ l ∧ l < 30) (x : Int) : mset (mk v c w a) (12 + l) 9 x = mk (up v (40 + 11 * l + 9) x) c w a := by
  have q := S_L v c w a (s := 0) (j := 9) (by omega) h (by omega) (by omega) (by omega) v x
  rwa [mkS_0, mkS_0, bS_z, show (2 : Int) + (10 + l) = 12 + l from by omega] at q
theorem s_L10 {l : Int} (h : 0 ≤ l ∧ l < 30) (x : Int) : mset (mk v c w a) (12 + l) 10 x = mk (up v (40 + 11 * l + 10) x) c w a := by
  have q := S_L v c w a (s := 0) (j := 10) (by omega) h (by omega) (by omega) (by omega) v x
  rwa [mkS_0, mkS_0, bS_z, show (2 : Int) + (10 + l) = 12 + l from by omega] at q
theorem s_X0 {e : Int} (h : 0 ≤ e ∧ e < 30) (x : Int) : mset (mk v c w a) (43 + e) 0 x = mk (up v (370 + 5 * e) x) c w a := by
  have q := S_X v c w a (s := 0) (j := 0) (by omega) h (by omega) v x
  rwa [mkS_0, mkS_0, bS_z, show (2 : Int) + (41 + e) = 43 + e from by omega, Int.add_zero] at q
theorem s_X1 {e : Int} (h : 0 ≤ e ∧ e < 30) (x : Int) : mset (mk v c w a) (43 + e) 1 x = mk (up v (370 + 5 * e + 1) x) c w a := by
  have q := S_X v c w a (s := 0) (j := 1) (by omega) h (by omega) v x
  rwa [mkS_0, mkS_0, bS_z, show (2 : Int) + (41 + e) = 43 + e from by omega] at q
theorem s_X2 {e : Int} (h : 0 ≤ e ∧ e < 30) (x : Int) : mset (mk v c w a) (43 + e) 2 x = mk (up v (370 + 5 * e + 2) x) c w a := by
  have q := S_X v c w a (s := 0) (j := 2) (by omega) h (by omega) v x
  rwa [mkS_0, mkS_0, bS_z, show (2 : Int) + (41 + e) = 43 + e from by omega] at q
theorem s_X3 {e : Int} (h : 0 ≤ e ∧ e < 30) (x : Int) : mset (mk v c w a) (43 + e) 3 x = mk (up v (370 + 5 * e + 3) x) c w a := by
  have q := S_X v c w a (s := 0) (j := 3) (by omega) h (by omega) v x
  rwa [mkS_0, mkS_0, bS_z, show (2 : Int) + (41 + e) = 43 + e from by omega] at q
theorem s_X4 {e : Int} (h : 0 ≤ e ∧ e < 30) (x : Int) : mset (mk v c w a) (43 + e) 4 x = mk (up v (370 + 5 * e + 4) x) c w a := by
  have q := S_X v c w a (s := 0) (j := 4) (by omega) h (by omega) v x
  rwa [mkS_0, mkS_0, bS_z, show (2 : Int) + (41 + e) = 43 + e from by omega] at q
theorem s_2_4 (x : Int) : mset (mk v c w a) 2 4 x = mk (up v 1 x) c w a := by
  have e := S_0_4 v c w a (s := 0) (by omega) v x
  rwa [mkS_0, mkS_0, bS_z] at e
theorem s_2_5 (x : Int) : mset (mk v c w a) 2 5 x = mk (up v 2 x) c w a := by
  have e := S_0_5 v c w a (s := 0) (by omega) v x
  rwa [mkS_0, mkS_0, bS_z] at e
theorem s_2_6 (x : Int) : mset (mk v c w a) 2 6 x = mk (up v 3 x) c w a := by
  have e := S_0_6 v c w a (s := 0) (by omega) v x
  rwa [mkS_0, mkS_0, bS_z] at e
theorem s_2_7 (x : Int) : mset (mk v c w a) 2 7 x = mk (up v 4 x) c w a := by
  have e := S_0_7 v c w a (s := 0) (by omega) v x
  rwa [mkS_0, mkS_0, bS_z] at e
theorem s_2_8 (x : Int) : mset (mk v c w a) 2 8 x = mk (up v 0 x) c w a := by
  have e := S_0_8 v c w a (s := 0) (by omega) v x
  rwa [mkS_0, mkS_0, bS_z] at e
theorem s_2_9 (x : Int) : mset (mk v c w a) 2 9 x = mk (up v 11 x) c w a := by
  have e := S_0_9 v c w a (s := 0) (by omega) v x
  rwa [mkS_0, mkS_0, bS_z] at e
theorem s_2_10 (x : Int) : mset (mk v c w a) 2 10 x = mk (up v 12 x) c w a := by
  have e := S_0_10 v c w a (s := 0) (by omega) v x
  rwa [mkS_0, mkS_0, bS_z] at e
theorem s_3_1 (x : Int) : mset (mk v c w a) 3 1 x = mk (up v 5 x) c w a := by
  have e := S_1_1 v c w a (s := 0) (by omega) v x
  rwa [mkS_0, mkS_0, bS_z] at e
theorem s_3_2 (x : Int) : mset (mk v c w a) 3 2 x = mk (up v 6 x) c w a := by
  have e := S_1_2 v c w a (s := 0) (by omega) v x
  rwa [mkS_0, mkS_0, bS_z] at e
theorem s_3_3 (x : Int) : mset (mk v c w a) 3 3 x = mk (up v 7 x) c w a := by
  have e := S_1_3 v c w a (s := 0) (by omega) v x
  rwa [mkS_0, mkS_0, bS_z] at e
theorem s_3_4 (x : Int) : mset (mk v c w a) 3 4 x = mk (up v 8 x) c w a := by
  have e := S_1_4 v c w a (s := 0) (by omega) v x
  rwa [mkS_0, mkS_0, bS_z] at e
theorem s_3_5 (x : Int) : mset (mk v c w a) 3 5 x = mk (up v 9 x) c w a := by
  have e := S_1_5 v c w a (s := 0) (by omega) v x
  rwa [mkS_0, mkS_0, bS_z] at e
theorem s_4 {j : Int} (h : 0 ≤ j ∧ j < 6) (x : Int) : mset (mk v c w a) 4 j x = mk (up v (14 + j) x) c w a := by
  have e := S_2 v c w a (s := 0) (by omega) h v x
  rwa [mkS_0, mkS_0, bS_z] at e
end SETS
