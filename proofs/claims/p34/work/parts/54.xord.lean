/-! x reads an order; x looks for the fault -/
def sOf (k : Int) : Int := if k = 0 then -9 else if k = 4 then -10 else if k = 6 then -11 else if k = 7 then -12 else -13
section XORD
variable {N : Nat} (v : Int → Int) (c : Int → Int → Int) (w : Int → Int) {T : Int → Int} {L : Int}
theorem A_places {k : Int} (h : 0 ≤ k ∧ k ≤ 7) (μ : Mm) : f_X3_placesOf N k μ = some (sOf k, μ) := by
  have e : k = 0 ∨ k = 1 ∨ k = 2 ∨ k = 3 ∨ k = 4 ∨ k = 5 ∨ k = 6 ∨ k = 7 := by omega
  unfold f_X3_placesOf f_X3_placesOf_b48 f_X3_placesOf_b60 f_X3_placesOf_b51 f_X3_placesOf_b54 f_X3_placesOf_b57
  rcases e with e | e | e | e | e | e | e | e <;> subst e <;> rfl
def grp (N : Nat) (v : Int → Int) (c : Int → Int → Int) (w : Int → Int) (s : Int) (r : List (Int × Int)) : Prop := s < 0 ∧ m0 s (-2) = 11 ∧ (∀ a, f_J0_length_8abf5 N s (mk v c w a) = some ((r.length : Int), mk v c w a)) ∧ r.length ≤ 4 ∧
  ∀ j : Nat, j < r.length → ∃ cc, (∀ a, f_J0_charAt_5068e N s (0 + j) (mk v c w a) = some (cc, mk v c w a)) ∧ (∀ μ, f_X3_leastAt N cc μ = some ((r.getD j (0, 0)).1, μ) ∧ f_X3_mostAt N cc μ = some ((r.getD j (0, 0)).2, μ)) ∧ 0 ≤ (r.getD j (0, 0)).1 ∧ (r.getD j (0, 0)).2 ≤ 10000000
theorem grp_9 : grp N v c w (-9) [(0, 4), (0, 5), (1, 1000000), (0, 10000000)] := by
  refine ⟨by omega, s9_k, fun a => len_9 N v c w a, by decide, fun j hj => ?_⟩
  have hj2 : j < 4 := hj
  have e : j = 0 ∨ j = 1 ∨ j = 2 ∨ j = 3 := by omega
  rcases e with e | e | e | e
  · subst e
    exact ⟨79, fun a => chr_9_0 N v c w a, lm_79, by decide, by decide⟩
  · subst e
    exact ⟨75, fun a => chr_9_1 N v c w a, lm_75, by decide, by decide⟩
  · subst e
    exact ⟨81, fun a => chr_9_2 N v c w a, lm_81, by decide, by decide⟩
  · subst e
    exact ⟨86, fun a => chr_9_3 N v c w a, lm_86, by decide, by decide⟩
theorem grp_10 : grp N v c w (-10) [(0, 29)] := by
  refine ⟨by omega, s10_k, fun a => len_10 N v c w a, by decide, fun j hj => ?_⟩
  have hj2 : j < 1 := hj
  have e : j = 0 := by omega
  rcases e with e
  · subst e
    exact ⟨69, fun a => chr_10_0 N v c w a, lm_69, by decide, by decide⟩
theorem grp_11 : grp N v c w (-11) [(0, 29), (0, 4)] := by
  refine ⟨by omega, s11_k, fun a => len_11 N v c w a, by decide, fun j hj => ?_⟩
  have hj2 : j < 2 := hj
  have e : j = 0 ∨ j = 1 := by omega
  rcases e with e | e
  · subst e
    exact ⟨76, fun a => chr_11_0 N v c w a, lm_76, by decide, by decide⟩
  · subst e
    exact ⟨79, fun a => chr_11_1 N v c w a, lm_79, by decide, by decide⟩
theorem grp_12 : grp N v c w (-12) [(1, 100)] := by
  refine ⟨by omega, s12_k, fun a => len_12 N v c w a, by decide, fun j hj => ?_⟩
  have hj2 : j < 1 := hj
  have e : j = 0 := by omega
  rcases e with e
  · subst e
    exact ⟨78, fun a => chr_12_0 N v c w a, lm_78, by decide, by decide⟩
theorem grp_13 : grp N v c w (-13) [(0, 29), (1, 1000000)] := by
  refine ⟨by omega, s13_k, fun a => len_13 N v c w a, by decide, fun j hj => ?_⟩
  have hj2 : j < 2 := hj
  have e : j = 0 ∨ j = 1 := by omega
  rcases e with e | e
  · subst e
    exact ⟨76, fun a => chr_13_0 N v c w a, lm_76, by decide, by decide⟩
  · subst e
    exact ⟨81, fun a => chr_13_1 N v c w a, lm_81, by decide, by decide⟩
theorem grp_k {k : Int} : grp N v c w (sOf k) (plc k) := by
  unfold sOf plc
  by_cases k0 : k = 0
  · rw [if_pos k0, if_pos k0]; exact grp_9 v c w
  rw [if_neg k0, if_neg k0]
  by_cases k4 : k = 4
  · rw [if_pos k4, if_pos k4]; exact grp_10 v c w
  rw [if_neg k4, if_neg k4]
  by_cases k6 : k = 6
  · rw [if_pos k6, if_pos k6]; exact grp_11 v c w
  rw [if_neg k6, if_neg k6]
  by_cases k7 : k = 7
  · rw [if_pos k7, if_pos k7]; exact grp_12 v c w
  rw [if_neg k7, if_neg k7]
  exact grp_13 v c w
theorem x_read (hN : 5000 ≤ N) {b : Mm} {p q : Int} (hL : b 716 1 = L) (hr : 0 ≤ L ∧ L ≤ 80) (hT : ∀ i, 0 ≤ i ∧ i < L → b 717 i = T i) (hp : 0 ≤ p ∧ p ≤ L) :
    ∃ b', f_X3_readOrder N 716 (mk v c w (xP b p q)) = some (if oF T L p = -1 then 1 else 0, mk v c w (xP b' (if oF T L p = -1 then oE T L p else oF T L p) (oW T L p))) ∧ (∀ r k, r ≠ 718 → b' r k = b r k) ∧
      (oF T L p = -1 → ∀ j : Nat, j < (plc (oW T L p)).length → b' 718 (j : Int) = oN T L p j) := by
  have tb := te_b (T := T) (L := L) (i := p) hp.2
  have g1 := A_eot v c w (N := N) (a := xP b p q) (T := T) (L := L) hN (by rw [xP_o (by omega)]; exact hL) hr (fun i hi => by rw [xP_o (by omega)]; exact hT i hi) (i := p) hp
  have g2 := A_word v c w (N := N) (a := xP b p q) (T := T) (L := L) hN hr (fun i hi => by rw [xP_o (by omega)]; exact hT i hi) (p := p) (e := te T L p) ⟨hp.1, tb.2⟩ tb.1
  have wb : oW T L p = -1 ∨ (0 ≤ oW T L p ∧ oW T L p ≤ 7 ∧ p + 4 ≤ te T L p) := wd_b
  have g2' : f_X3_wordBetween N 716 p (te T L p) (mk v c w (xP b p q)) = some (oW T L p, mk v c w (xP b p q)) := g2
  by_cases z : oW T L p = -1
  · have e1 : oF T L p = p := if_pos z
    refine ⟨b, ?_, fun _ _ _ => rfl, fun h => by omega⟩
    rw [e1, if_neg (show ¬ p = -1 by omega), if_neg (show ¬ p = -1 by omega)]
    rw [z] at g2' ⊢
    unfold f_X3_readOrder
    simp only [to_bz, to_nz, to_cz, to_iz]
    simp (disch := omega) only [g1, g2', xP_2, xP_3, xP_o, xP_s2, xP_s3, xP_s, bz_t, nz_t, cz_T, cz_t, iz_T, iz_F, iz_y, iz_n, not_true_eq_false, not_false_eq_true, true_and, and_true, w32_e, w64_e, mset_e, mset_n, up_e, up_n, if_y, if_n, Int.add_zero, mk_1_m2, mk_1_0, mk_1_1, mk_1_2, mk_1_3, mk_1_4, mk_1_5, mk_1_6, mk_2_m2, mk_2_0, mk_2_1, mk_2_2, mk_2_3, mk_2_4, mk_2_5, mk_2_6, mk_2_7, mk_2_8, mk_2_9, mk_2_10, mk_3_m2, mk_3_0, mk_3_1, mk_3_2, mk_3_3, mk_3_4, mk_3_5, mk_4_m2, mk_4_m1, mk_5_m2, mk_5_m1, mk_11_m2, mk_11_m1, mk_42_m2, mk_42_m1, mk_73_m2, mk_73_0, mk_73_1, mk_73_2, mk_74_m2, mk_74_m1, mk_572_m2, mk_572_m1, mk_715_m2, mk_715_m1, mk_717_m2, mk_717_m1, mk_718_m2, mk_718_m1, mk_716_m2, mk_716_0, mk_716_1, mk_716_2, mk_716_3, mk_716_4, mk_719_m2, mk_74_at, mk_572_at, mk_715_at, mk_717_at, mk_718_at, mk_4_at, mk_5_at, mk_11_at, mk_42_at, mk_O_k, mk_O_0, mk_O_1, mk_O_2, mk_O_3, mk_L_k, mk_L_0, mk_L_1, mk_L_2, mk_L_3, mk_L_4, mk_L_5, mk_L_6, mk_L_7, mk_L_8, mk_L_9, mk_L_10, mk_X_k, mk_X_0, mk_X_1, mk_X_2, mk_X_3, mk_X_4, mk_75_k, mk_573_k, r_1_6, r_73_1, r_73_2, r_716_1, r_716_2, r_716_3, r_715, r_717, r_718, s_O0, s_O1, s_O2, s_O3, s_L0, s_L1, s_L2, s_L3, s_L4, s_L5, s_L6, s_L7, s_L8, s_L9, s_L10, s_X0, s_X1, s_X2, s_X3, s_X4, s_2_4, s_2_5, s_2_6, s_2_7, s_2_8, s_2_9, s_2_10, s_3_1, s_3_2, s_3_3, s_3_4, s_3_5, s_4]
  · have pl := A_places (N := N) (k := oW T L p) (by omega)
    obtain ⟨a1, a2, a3, a4, a5⟩ := grp_k (N := N) v c w (k := oW T L p)
    obtain ⟨b', x1, x2, x3, x4⟩ := l_b47 v c w (N := N) (T := T) (L := L) (q := oW T L p) hN hr a1 a2 a3 (by omega) (N - (plc (oW T L p)).length - 1) (plc (oW T L p)) 0 b (te T L p) hL hT (by omega) (by omega) (by omega) a5
    rw [show N - (plc (oW T L p)).length - 1 + (plc (oW T L p)).length + 1 = N from by omega] at x1
    have e1 : oF T L p = (ch T L (plc (oW T L p)) (te T L p)).1 := if_neg z
    have e2 : oE T L p = (ch T L (plc (oW T L p)) (te T L p)).2 := rfl
    unfold bo po at x1
    rw [← e1, ← e2] at x1
    refine ⟨b', ?_, x2, fun h j hj => ?_⟩
    · unfold f_X3_readOrder
      simp only [to_bz, to_nz, to_cz, to_iz]
      simp (disch := omega) only [g1, g2', pl, xP_2, xP_3, xP_o, xP_s2, xP_s3, xP_s, bz_t, nz_t, cz_T, cz_t, iz_T, iz_F, iz_y, iz_n, not_true_eq_false, not_false_eq_true, true_and, and_true, w32_e, w64_e, mset_e, mset_n, up_e, up_n, if_y, if_n, Int.add_zero, mk_1_m2, mk_1_0, mk_1_1, mk_1_2, mk_1_3, mk_1_4, mk_1_5, mk_1_6, mk_2_m2, mk_2_0, mk_2_1, mk_2_2, mk_2_3, mk_2_4, mk_2_5, mk_2_6, mk_2_7, mk_2_8, mk_2_9, mk_2_10, mk_3_m2, mk_3_0, mk_3_1, mk_3_2, mk_3_3, mk_3_4, mk_3_5, mk_4_m2, mk_4_m1, mk_5_m2, mk_5_m1, mk_11_m2, mk_11_m1, mk_42_m2, mk_42_m1, mk_73_m2, mk_73_0, mk_73_1, mk_73_2, mk_74_m2, mk_74_m1, mk_572_m2, mk_572_m1, mk_715_m2, mk_715_m1, mk_717_m2, mk_717_m1, mk_718_m2, mk_718_m1, mk_716_m2, mk_716_0, mk_716_1, mk_716_2, mk_716_3, mk_716_4, mk_719_m2, mk_74_at, mk_572_at, mk_715_at, mk_717_at, mk_718_at, mk_4_at, mk_5_at, mk_11_at, mk_42_at, mk_O_k, mk_O_0, mk_O_1, mk_O_2, mk_O_3, mk_L_k, mk_L_0, mk_L_1, mk_L_2, mk_L_3, mk_L_4, mk_L_5, mk_L_6, mk_L_7, mk_L_8, mk_L_9, mk_L_10, mk_X_k, mk_X_0, mk_X_1, mk_X_2, mk_X_3, mk_X_4, mk_75_k, mk_573_k, r_1_6, r_73_1, r_73_2, r_716_1, r_716_2, r_716_3, r_715, r_717, r_718, s_O0, s_O1, s_O2, s_O3, s_L0, s_L1, s_L2, s_L3, s_L4, s_L5, s_L6, s_L7, s_L8, s_L9, s_L10, s_X0, s_X1, s_X2, s_X3, s_X4, s_2_4, s_2_5, s_2_6, s_2_7, s_2_8, s_2_9, s_2_10, s_3_1, s_3_2, s_3_3, s_3_4, s_3_5, s_4]
      exact x1
    · have y := x4 (e1.symm.trans h) j hj
      rwa [Int.zero_add] at y
theorem x_find (hN : 5000 ≤ N) (hr : 0 ≤ L ∧ L ≤ 80) : ∀ (m n : Nat) (x1 : Int) (b : Mm) (p q : Int), b 716 1 = L → (∀ i, 0 ≤ i ∧ i < L → b 717 i = T i) → L - p < m → m < n → 0 ≤ p ∧ p ≤ L → 0 ≤ x1 ∧ x1 ≤ p →
    ∃ b' p' q', f_X3_findFault_b6 N n 716 x1 (mk v c w (xP b p q)) = some (fF T L m p, mk v c w (xP b' p' q')) ∧ (∀ r k, r ≠ 718 → b' r k = b r k) := by
  intro m
  induction m with
  | zero => intro n x1 b p q hL hT h1; omega
  | succ m ih =>
    intro n x1 b p q hL hT h1 h2 hp hx
    obtain ⟨n, rfl⟩ : ∃ k, n = k + 1 := ⟨n - 1, by omega⟩
    obtain ⟨b1, r1, r2, r3⟩ := x_read v c w (N := N) (T := T) (L := L) (q := q) hN hL hr hT hp
    have ob := oF_b (T := T) (L := L) hp.1 hp.2
    have hL1 : b1 716 1 = L := (r2 716 1 (by omega)).trans hL
    rw [f_X3_findFault_b6]
    unfold fF f_X3_atEnd f_X3_skipSeparator
    by_cases z : oF T L p = -1
    · rw [if_pos z] at r1 ⊢
      rw [if_pos z] at r1
      by_cases y : oE T L p = L
      · rw [if_pos y]
        rw [y] at r1
        refine ⟨b1, L, oW T L p, ?_, r2⟩
        simp only [to_bz, to_nz, to_cz, to_iz]
        simp (disch := omega) only [hL, hL1, r1, xP_2, xP_3, xP_o, xP_s2, xP_s3, xP_s, bz_t, nz_t, cz_T, cz_t, iz_T, iz_F, iz_y, iz_n, not_true_eq_false, not_false_eq_true, true_and, and_true, w32_e, w64_e, mset_e, mset_n, up_e, up_n, if_y, if_n, Int.add_zero, mk_1_m2, mk_1_0, mk_1_1, mk_1_2, mk_1_3, mk_1_4, mk_1_5, mk_1_6, mk_2_m2, mk_2_0, mk_2_1, mk_2_2, mk_2_3, mk_2_4, mk_2_5, mk_2_6, mk_2_7, mk_2_8, mk_2_9, mk_2_10, mk_3_m2, mk_3_0, mk_3_1, mk_3_2, mk_3_3, mk_3_4, mk_3_5, mk_4_m2, mk_4_m1, mk_5_m2, mk_5_m1, mk_11_m2, mk_11_m1, mk_42_m2, mk_42_m1, mk_73_m2, mk_73_0, mk_73_1, mk_73_2, mk_74_m2, mk_74_m1, mk_572_m2, mk_572_m1, mk_715_m2, mk_715_m1, mk_717_m2, mk_717_m1, mk_718_m2, mk_718_m1, mk_716_m2, mk_716_0, mk_716_1, mk_716_2, mk_716_3, mk_716_4, mk_719_m2, mk_74_at, mk_572_at, mk_715_at, mk_717_at, mk_718_at, mk_4_at, mk_5_at, mk_11_at, mk_42_at, mk_O_k, mk_O_0, mk_O_1, mk_O_2, mk_O_3, mk_L_k, mk_L_0, mk_L_1, mk_L_2, mk_L_3, mk_L_4, mk_L_5, mk_L_6, mk_L_7, mk_L_8, mk_L_9, mk_L_10, mk_X_k, mk_X_0, mk_X_1, mk_X_2, mk_X_3, mk_X_4, mk_75_k, mk_573_k, r_1_6, r_73_1, r_73_2, r_716_1, r_716_2, r_716_3, r_715, r_717, r_718, s_O0, s_O1, s_O2, s_O3, s_L0, s_L1, s_L2, s_L3, s_L4, s_L5, s_L6, s_L7, s_L8, s_L9, s_L10, s_X0, s_X1, s_X2, s_X3, s_X4, s_2_4, s_2_5, s_2_6, s_2_7, s_2_8, s_2_9, s_2_10, s_3_1, s_3_2, s_3_3, s_3_4, s_3_5, s_4]
      · rw [if_neg y]
        obtain ⟨b2, p2, q2, s1, s2⟩ := ih n (x1 + 1) b1 (oE T L p + 1) (oW T L p) hL1 (fun i hi => (r2 717 i (by omega)).trans (hT i hi)) (by omega) (by omega) (by omega) (by omega)
        refine ⟨b2, p2, q2, ?_, fun r k h => (s2 r k h).trans (r2 r k h)⟩
        simp only [to_bz, to_nz, to_cz, to_iz]
        simp (disch := omega) only [hL, hL1, r1, xP_2, xP_3, xP_o, xP_s2, xP_s3, xP_s, bz_t, nz_t, cz_T, cz_t, iz_T, iz_F, iz_y, iz_n, not_true_eq_false, not_false_eq_true, true_and, and_true, w32_e, w64_e, mset_e, mset_n, up_e, up_n, if_y, if_n, Int.add_zero, mk_1_m2, mk_1_0, mk_1_1, mk_1_2, mk_1_3, mk_1_4, mk_1_5, mk_1_6, mk_2_m2, mk_2_0, mk_2_1, mk_2_2, mk_2_3, mk_2_4, mk_2_5, mk_2_6, mk_2_7, mk_2_8, mk_2_9, mk_2_10, mk_3_m2, mk_3_0, mk_3_1, mk_3_2, mk_3_3, mk_3_4, mk_3_5, mk_4_m2, mk_4_m1, mk_5_m2, mk_5_m1, mk_11_m2, mk_11_m1, mk_42_m2, mk_42_m1, mk_73_m2, mk_73_0, mk_73_1, mk_73_2, mk_74_m2, mk_74_m1, mk_572_m2, mk_572_m1, mk_715_m2, mk_715_m1, mk_717_m2, mk_717_m1, mk_718_m2, mk_718_m1, mk_716_m2, mk_716_0, mk_716_1, mk_716_2, mk_716_3, mk_716_4, mk_719_m2, mk_74_at, mk_572_at, mk_715_at, mk_717_at, mk_718_at, mk_4_at, mk_5_at, mk_11_at, mk_42_at, mk_O_k, mk_O_0, mk_O_1, mk_O_2, mk_O_3, mk_L_k, mk_L_0, mk_L_1, mk_L_2, mk_L_3, mk_L_4, mk_L_5, mk_L_6, mk_L_7, mk_L_8, mk_L_9, mk_L_10, mk_X_k, mk_X_0, mk_X_1, mk_X_2, mk_X_3, mk_X_4, mk_75_k, mk_573_k, r_1_6, r_73_1, r_73_2, r_716_1, r_716_2, r_716_3, r_715, r_717, r_718, s_O0, s_O1, s_O2, s_O3, s_L0, s_L1, s_L2, s_L3, s_L4, s_L5, s_L6, s_L7, s_L8, s_L9, s_L10, s_X0, s_X1, s_X2, s_X3, s_X4, s_2_4, s_2_5, s_2_6, s_2_7, s_2_8, s_2_9, s_2_10, s_3_1, s_3_2, s_3_3, s_3_4, s_3_5, s_4]
        exact s1
    · rw [if_neg z] at r1 ⊢
      rw [if_neg z] at r1
      refine ⟨b1, oF T L p, oW T L p, ?_, r2⟩
      simp only [to_bz, to_nz, to_cz, to_iz]
      simp (disch := omega) only [hL, hL1, r1, xP_2, xP_3, xP_o, xP_s2, xP_s3, xP_s, bz_t, nz_t, cz_T, cz_t, iz_T, iz_F, iz_y, iz_n, not_true_eq_false, not_false_eq_true, true_and, and_true, w32_e, w64_e, mset_e, mset_n, up_e, up_n, if_y, if_n, Int.add_zero, mk_1_m2, mk_1_0, mk_1_1, mk_1_2, mk_1_3, mk_1_4, mk_1_5, mk_1_6, mk_2_m2, mk_2_0, mk_2_1, mk_2_2, mk_2_3, mk_2_4, mk_2_5, mk_2_6, mk_2_7, mk_2_8, mk_2_9, mk_2_10, mk_3_m2, mk_3_0, mk_3_1, mk_3_2, mk_3_3, mk_3_4, mk_3_5, mk_4_m2, mk_4_m1, mk_5_m2, mk_5_m1, mk_11_m2, mk_11_m1, mk_42_m2, mk_42_m1, mk_73_m2, mk_73_0, mk_73_1, mk_73_2, mk_74_m2, mk_74_m1, mk_572_m2, mk_572_m1, mk_715_m2, mk_715_m1, mk_717_m2, mk_717_m1, mk_718_m2, mk_718_m1, mk_716_m2, mk_716_0, mk_716_1, mk_716_2, mk_716_3, mk_716_4, mk_719_m2, mk_74_at, mk_572_at, mk_715_at, mk_717_at, mk_718_at, mk_4_at, mk_5_at, mk_11_at, mk_42_at, mk_O_k, mk_O_0, mk_O_1, mk_O_2, mk_O_3, mk_L_k, mk_L_0, mk_L_1, mk_L_2, mk_L_3, mk_L_4, mk_L_5, mk_L_6, mk_L_7, mk_L_8, mk_L_9, mk_L_10, mk_X_k, mk_X_0, mk_X_1, mk_X_2, mk_X_3, mk_X_4, mk_75_k, mk_573_k, r_1_6, r_73_1, r_73_2, r_716_1, r_716_2, r_716_3, r_715, r_717, r_718, s_O0, s_O1, s_O2, s_O3, s_L0, s_L1, s_L2, s_L3, s_L4, s_L5, s_L6, s_L7, s_L8, s_L9, s_L10, s_X0, s_X1, s_X2, s_X3, s_X4, s_2_4, s_2_5, s_2_6, s_2_7, s_2_8, s_2_9, s_2_10, s_3_1, s_3_2, s_3_3, s_3_4, s_3_5, s_4]
theorem x_findFault (hN : 5000 ≤ N) {a : Mm} (hL : a 716 1 = L) (hr : 0 ≤ L ∧ L ≤ 80) (hT : ∀ i, 0 ≤ i ∧ i < L → a 717 i = T i) :
    ∃ b' p' q', f_X3_findFault N 716 (mk v c w a) = some (fF T L 81 0, mk v c w (xP b' p' q')) ∧ (∀ r k, r ≠ 718 → b' r k = a r k) := by
  obtain ⟨b', p', q', r1, r2⟩ := x_find v c w (N := N) (T := T) (L := L) hN hr 81 N 0 a 0 (a 716 3) hL hT (by omega) (by omega) (by omega) (by omega)
  refine ⟨b', p', q', ?_, r2⟩
  have e : mk v c w a = mk v c w (xP a (a 716 2) (a 716 3)) := by rw [xP_i]
  rw [e]
  unfold f_X3_findFault f_X3_goToStart
  simp only [to_bz, to_nz, to_cz, to_iz]
  simp (disch := omega) only [xP_2, xP_3, xP_o, xP_s2, xP_s3, xP_s, bz_t, nz_t, cz_T, cz_t, iz_T, iz_F, iz_y, iz_n, not_true_eq_false, not_false_eq_true, true_and, and_true, w32_e, w64_e, mset_e, mset_n, up_e, up_n, if_y, if_n, Int.add_zero, mk_1_m2, mk_1_0, mk_1_1, mk_1_2, mk_1_3, mk_1_4, mk_1_5, mk_1_6, mk_2_m2, mk_2_0, mk_2_1, mk_2_2, mk_2_3, mk_2_4, mk_2_5, mk_2_6, mk_2_7, mk_2_8, mk_2_9, mk_2_10, mk_3_m2, mk_3_0, mk_3_1, mk_3_2, mk_3_3, mk_3_4, mk_3_5, mk_4_m2, mk_4_m1, mk_5_m2, mk_5_m1, mk_11_m2, mk_11_m1, mk_42_m2, mk_42_m1, mk_73_m2, mk_73_0, mk_73_1, mk_73_2, mk_74_m2, mk_74_m1, mk_572_m2, mk_572_m1, mk_715_m2, mk_715_m1, mk_717_m2, mk_717_m1, mk_718_m2, mk_718_m1, mk_716_m2, mk_716_0, mk_716_1, mk_716_2, mk_716_3, mk_716_4, mk_719_m2, mk_74_at, mk_572_at, mk_715_at, mk_717_at, mk_718_at, mk_4_at, mk_5_at, mk_11_at, mk_42_at, mk_O_k, mk_O_0, mk_O_1, mk_O_2, mk_O_3, mk_L_k, mk_L_0, mk_L_1, mk_L_2, mk_L_3, mk_L_4, mk_L_5, mk_L_6, mk_L_7, mk_L_8, mk_L_9, mk_L_10, mk_X_k, mk_X_0, mk_X_1, mk_X_2, mk_X_3, mk_X_4, mk_75_k, mk_573_k, r_1_6, r_73_1, r_73_2, r_716_1, r_716_2, r_716_3, r_715, r_717, r_718, s_O0, s_O1, s_O2, s_O3, s_L0, s_L1, s_L2, s_L3, s_L4, s_L5, s_L6, s_L7, s_L8, s_L9, s_L10, s_X0, s_X1, s_X2, s_X3, s_X4, s_2_4, s_2_5, s_2_6, s_2_7, s_2_8, s_2_9, s_2_10, s_3_1, s_3_2, s_3_3, s_3_4, s_3_5, s_4]
  exact r1
end XORD
