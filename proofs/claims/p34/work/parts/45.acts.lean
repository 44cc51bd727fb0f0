/-! the acts that set, the history, the text: one equation each -/
section ACTX
variable {N : Nat} {c : Int → Int → Int} (m : Int → Int) {a : Mm} {w : Int → Int} {K : Int}
theorem x_setTerms (hN : 5000 ≤ N) (S : zST K w c a) {x y : Int} (z1 : 1 ≤ x ∧ x ≤ 1000) (z2 : 1 ≤ y ∧ y ≤ 200) : f_X7_setTerms N 1 x y (mk w c m a) = some (w 5, mk (up (up w 5 x) 6 y) (uc c ((a 73 1 + a 73 2) % 7 + 1) w) m (apA a)) := by
  have h1 := S.2.1.1
  have h2 := S.2.1.2.1
  have g := S.1.1.1.hd; unfold HEAD at g
  have p := eq_bd (b_prepare N w c m a hN h1 h2)
  have f := fun u => eq_bd (b_finishAct N u (uc c ((a 73 1 + a 73 2) % 7 + 1) w) m a h1 h2 (w 5))
  rw [if_neg (show ¬ w 5 < 0 by omega)] at f
  unfold f_X7_setTerms
  simp only [to_bz, to_nz, to_cz, to_iz]
  simp (disch := omega) only [fun x lo hi μ => eq_bd (a_outside N x lo hi μ), p, f, bz_t, nz_t, cz_T, cz_t, iz_T, iz_F, iz_y, iz_n, not_true_eq_false, not_false_eq_true, true_and, and_true, w32_e, w64_e, mset_e, mset_n, up_e, up_n, if_y, if_n, Int.add_zero, mk_1_m2, mk_1_0, mk_1_1, mk_1_2, mk_1_3, mk_1_4, mk_1_5, mk_1_6, mk_2_m2, mk_2_0, mk_2_1, mk_2_2, mk_2_3, mk_2_4, mk_2_5, mk_2_6, mk_2_7, mk_2_8, mk_2_9, mk_2_10, mk_3_m2, mk_3_0, mk_3_1, mk_3_2, mk_3_3, mk_3_4, mk_3_5, mk_4_m2, mk_4_m1, mk_5_m2, mk_5_m1, mk_11_m2, mk_11_m1, mk_42_m2, mk_42_m1, mk_73_m2, mk_73_0, mk_73_1, mk_73_2, mk_74_m2, mk_74_m1, mk_572_m2, mk_572_m1, mk_715_m2, mk_715_m1, mk_717_m2, mk_717_m1, mk_718_m2, mk_718_m1, mk_716_m2, mk_716_0, mk_716_1, mk_716_2, mk_716_3, mk_716_4, mk_719_m2, mk_74_at, mk_572_at, mk_715_at, mk_717_at, mk_718_at, mk_4_at, mk_5_at, mk_11_at, mk_42_at, mk_O_k, mk_O_0, mk_O_1, mk_O_2, mk_O_3, mk_L_k, mk_L_0, mk_L_1, mk_L_2, mk_L_3, mk_L_4, mk_L_5, mk_L_6, mk_L_7, mk_L_8, mk_L_9, mk_L_10, mk_X_k, mk_X_0, mk_X_1, mk_X_2, mk_X_3, mk_X_4, mk_75_k, mk_573_k, r_1_6, r_73_1, r_73_2, r_716_1, r_716_2, r_716_3, r_715, r_717, r_718, s_O0, s_O1, s_O2, s_O3, s_L0, s_L1, s_L2, s_L3, s_L4, s_L5, s_L6, s_L7, s_L8, s_L9, s_L10, s_X0, s_X1, s_X2, s_X3, s_X4, s_2_4, s_2_5, s_2_6, s_2_7, s_2_8, s_2_9, s_2_10, s_3_1, s_3_2, s_3_3, s_3_4, s_3_5, s_4]
theorem JV_setTerms (J : JV K w) (hK : K + 1 ≤ 60000) {x y : Int} (z1 : 1 ≤ x ∧ x ≤ 1000) (z2 : 1 ≤ y ∧ y ≤ 200) : JV (K + 1) (up (up w 5 x) 6 y) := by
  have g := J.1.1.hd; unfold HEAD at g
  refine ⟨IV_head J.1 hK (fun i hi => by rw [up_n (by omega), up_n (by omega)]) ?_ ?_ ?_ ?_ ?_ ?_ (fun k hk => by rw [up_n (by omega), up_n (by omega)]; exact J.1.1.rt hk), IC_o J.2 (fun i hi => by rw [up_n (by omega), up_n (by omega)])⟩
  all_goals (simp (disch := omega) only [up_e, up_n]; omega)
theorem x_setTerms_b {y : Int} : f_X7_setTerms N 1 0 y (mk w c m a) = some (-100000002, mk w c m a) := by
  unfold f_X7_setTerms
  simp only [to_bz, to_nz, to_cz, to_iz]
  simp (disch := omega) only [fun x lo hi μ => eq_bd (a_outside N x lo hi μ), bz_t, nz_t, cz_T, cz_t, iz_T, iz_F, iz_y, iz_n, not_true_eq_false, not_false_eq_true, true_and, and_true, w32_e, w64_e, mset_e, mset_n, up_e, up_n, if_y, if_n, Int.add_zero, mk_1_m2, mk_1_0, mk_1_1, mk_1_2, mk_1_3, mk_1_4, mk_1_5, mk_1_6, mk_2_m2, mk_2_0, mk_2_1, mk_2_2, mk_2_3, mk_2_4, mk_2_5, mk_2_6, mk_2_7, mk_2_8, mk_2_9, mk_2_10, mk_3_m2, mk_3_0, mk_3_1, mk_3_2, mk_3_3, mk_3_4, mk_3_5, mk_4_m2, mk_4_m1, mk_5_m2, mk_5_m1, mk_11_m2, mk_11_m1, mk_42_m2, mk_42_m1, mk_73_m2, mk_73_0, mk_73_1, mk_73_2, mk_74_m2, mk_74_m1, mk_572_m2, mk_572_m1, mk_715_m2, mk_715_m1, mk_717_m2, mk_717_m1, mk_718_m2, mk_718_m1, mk_716_m2, mk_716_0, mk_716_1, mk_716_2, mk_716_3, mk_716_4, mk_719_m2, mk_74_at, mk_572_at, mk_715_at, mk_717_at, mk_718_at, mk_4_at, mk_5_at, mk_11_at, mk_42_at, mk_O_k, mk_O_0, mk_O_1, mk_O_2, mk_O_3, mk_L_k, mk_L_0, mk_L_1, mk_L_2, mk_L_3, mk_L_4, mk_L_5, mk_L_6, mk_L_7, mk_L_8, mk_L_9, mk_L_10, mk_X_k, mk_X_0, mk_X_1, mk_X_2, mk_X_3, mk_X_4, mk_75_k, mk_573_k, r_1_6, r_73_1, r_73_2, r_716_1, r_716_2, r_716_3, r_715, r_717, r_718, s_O0, s_O1, s_O2, s_O3, s_L0, s_L1, s_L2, s_L3, s_L4, s_L5, s_L6, s_L7, s_L8, s_L9, s_L10, s_X0, s_X1, s_X2, s_X3, s_X4, s_2_4, s_2_5, s_2_6, s_2_7, s_2_8, s_2_9, s_2_10, s_3_1, s_3_2, s_3_3, s_3_4, s_3_5, s_4]
theorem x_setRules (hN : 5000 ≤ N) (S : zST K w c a) {x y z : Int} (z1 : 0 ≤ x ∧ x ≤ 100) (z2 : 0 ≤ y ∧ y ≤ 1000) (z3 : 0 ≤ z ∧ z ≤ 1000) : f_X7_setRules N 1 x y z (mk w c m a) = some (w 7, mk (up (up (up w 7 x) 8 y) 9 z) (uc c ((a 73 1 + a 73 2) % 7 + 1) w) m (apA a)) := by
  have h1 := S.2.1.1
  have h2 := S.2.1.2.1
  have g := S.1.1.1.hd; unfold HEAD at g
  have p := eq_bd (b_prepare N w c m a hN h1 h2)
  have f := fun u => eq_bd (b_finishAct N u (uc c ((a 73 1 + a 73 2) % 7 + 1) w) m a h1 h2 (w 7))
  rw [if_neg (show ¬ w 7 < 0 by omega)] at f
  unfold f_X7_setRules
  simp only [to_bz, to_nz, to_cz, to_iz]
  simp (disch := omega) only [fun x lo hi μ => eq_bd (a_outside N x lo hi μ), p, f, bz_t, nz_t, cz_T, cz_t, iz_T, iz_F, iz_y, iz_n, not_true_eq_false, not_false_eq_true, true_and, and_true, w32_e, w64_e, mset_e, mset_n, up_e, up_n, if_y, if_n, Int.add_zero, mk_1_m2, mk_1_0, mk_1_1, mk_1_2, mk_1_3, mk_1_4, mk_1_5, mk_1_6, mk_2_m2, mk_2_0, mk_2_1, mk_2_2, mk_2_3, mk_2_4, mk_2_5, mk_2_6, mk_2_7, mk_2_8, mk_2_9, mk_2_10, mk_3_m2, mk_3_0, mk_3_1, mk_3_2, mk_3_3, mk_3_4, mk_3_5, mk_4_m2, mk_4_m1, mk_5_m2, mk_5_m1, mk_11_m2, mk_11_m1, mk_42_m2, mk_42_m1, mk_73_m2, mk_73_0, mk_73_1, mk_73_2, mk_74_m2, mk_74_m1, mk_572_m2, mk_572_m1, mk_715_m2, mk_715_m1, mk_717_m2, mk_717_m1, mk_718_m2, mk_718_m1, mk_716_m2, mk_716_0, mk_716_1, mk_716_2, mk_716_3, mk_716_4, mk_719_m2, mk_74_at, mk_572_at, mk_715_at, mk_717_at, mk_718_at, mk_4_at, mk_5_at, mk_11_at, mk_42_at, mk_O_k, mk_O_0, mk_O_1, mk_O_2, mk_O_3, mk_L_k, mk_L_0, mk_L_1, mk_L_2, mk_L_3, mk_L_4, mk_L_5, mk_L_6, mk_L_7, mk_L_8, mk_L_9, mk_L_10, mk_X_k, mk_X_0, mk_X_1, mk_X_2, mk_X_3, mk_X_4, mk_75_k, mk_573_k, r_1_6, r_73_1, r_73_2, r_716_1, r_716_2, r_716_3, r_715, r_717, r_718, s_O0, s_O1, s_O2, s_O3, s_L0, s_L1, s_L2, s_L3, s_L4, s_L5, s_L6, s_L7, s_L8, s_L9, s_L10, s_X0, s_X1, s_X2, s_X3, s_X4, s_2_4, s_2_5, s_2_6, s_2_7, s_2_8, s_2_9, s_2_10, s_3_1, s_3_2, s_3_3, s_3_4, s_3_5, s_4]
theorem JV_setRules (J : JV K w) (hK : K + 1 ≤ 60000) {x y z : Int} (z1 : 0 ≤ x ∧ x ≤ 100) (z2 : 0 ≤ y ∧ y ≤ 1000) (z3 : 0 ≤ z ∧ z ≤ 1000) : JV (K + 1) (up (up (up w 7 x) 8 y) 9 z) := by
  have g := J.1.1.hd; unfold HEAD at g
  refine ⟨IV_head J.1 hK (fun i hi => by rw [up_n (by omega), up_n (by omega), up_n (by omega)]) ?_ ?_ ?_ ?_ ?_ ?_ (fun k hk => by rw [up_n (by omega), up_n (by omega), up_n (by omega)]; exact J.1.1.rt hk), IC_o J.2 (fun i hi => by rw [up_n (by omega), up_n (by omega), up_n (by omega)])⟩
  all_goals (simp (disch := omega) only [up_e, up_n]; omega)
theorem x_setRules_b {y z : Int} : f_X7_setRules N 1 101 y z (mk w c m a) = some (-100000002, mk w c m a) := by
  unfold f_X7_setRules
  simp only [to_bz, to_nz, to_cz, to_iz]
  simp (disch := omega) only [fun x lo hi μ => eq_bd (a_outside N x lo hi μ), bz_t, nz_t, cz_T, cz_t, iz_T, iz_F, iz_y, iz_n, not_true_eq_false, not_false_eq_true, true_and, and_true, w32_e, w64_e, mset_e, mset_n, up_e, up_n, if_y, if_n, Int.add_zero, mk_1_m2, mk_1_0, mk_1_1, mk_1_2, mk_1_3, mk_1_4, mk_1_5, mk_1_6, mk_2_m2, mk_2_0, mk_2_1, mk_2_2, mk_2_3, mk_2_4, mk_2_5, mk_2_6, mk_2_7, mk_2_8, mk_2_9, mk_2_10, mk_3_m2, mk_3_0, mk_3_1, mk_3_2, mk_3_3, mk_3_4, mk_3_5, mk_4_m2, mk_4_m1, mk_5_m2, mk_5_m1, mk_11_m2, mk_11_m1, mk_42_m2, mk_42_m1, mk_73_m2, mk_73_0, mk_73_1, mk_73_2, mk_74_m2, mk_74_m1, mk_572_m2, mk_572_m1, mk_715_m2, mk_715_m1, mk_717_m2, mk_717_m1, mk_718_m2, mk_718_m1, mk_716_m2, mk_716_0, mk_716_1, mk_716_2, mk_716_3, mk_716_4, mk_719_m2, mk_74_at, mk_572_at, mk_715_at, mk_717_at, mk_718_at, mk_4_at, mk_5_at, mk_11_at, mk_42_at, mk_O_k, mk_O_0, mk_O_1, mk_O_2, mk_O_3, mk_L_k, mk_L_0, mk_L_1, mk_L_2, mk_L_3, mk_L_4, mk_L_5, mk_L_6, mk_L_7, mk_L_8, mk_L_9, mk_L_10, mk_X_k, mk_X_0, mk_X_1, mk_X_2, mk_X_3, mk_X_4, mk_75_k, mk_573_k, r_1_6, r_73_1, r_73_2, r_716_1, r_716_2, r_716_3, r_715, r_717, r_718, s_O0, s_O1, s_O2, s_O3, s_L0, s_L1, s_L2, s_L3, s_L4, s_L5, s_L6, s_L7, s_L8, s_L9, s_L10, s_X0, s_X1, s_X2, s_X3, s_X4, s_2_4, s_2_5, s_2_6, s_2_7, s_2_8, s_2_9, s_2_10, s_3_1, s_3_2, s_3_3, s_3_4, s_3_5, s_4]
theorem x_setRate (hN : 5000 ≤ N) (S : zST K w c a) {x y : Int} (z1 : 0 ≤ x ∧ x ≤ 5) (z2 : 0 ≤ y ∧ y ≤ 1000) : f_X7_setRate N 1 x y (mk w c m a) = some (w (14 + x), mk (up w (14 + x) y) (uc c ((a 73 1 + a 73 2) % 7 + 1) w) m (apA a)) := by
  have h1 := S.2.1.1
  have h2 := S.2.1.2.1
  have g := S.1.1.1.hd; unfold HEAD at g
  have rt := S.1.1.1.rt (k := x) (by omega)
  have p := eq_bd (b_prepare N w c m a hN h1 h2)
  have f := fun u => eq_bd (b_finishAct N u (uc c ((a 73 1 + a 73 2) % 7 + 1) w) m a h1 h2 (w (14 + x)))
  rw [if_neg (show ¬ w (14 + x) < 0 by omega)] at f
  unfold f_X7_setRate
  simp only [to_bz, to_nz, to_cz, to_iz]
  simp (disch := omega) only [fun x lo hi μ => eq_bd (a_outside N x lo hi μ), p, f, bz_t, nz_t, cz_T, cz_t, iz_T, iz_F, iz_y, iz_n, not_true_eq_false, not_false_eq_true, true_and, and_true, w32_e, w64_e, mset_e, mset_n, up_e, up_n, if_y, if_n, Int.add_zero, mk_1_m2, mk_1_0, mk_1_1, mk_1_2, mk_1_3, mk_1_4, mk_1_5, mk_1_6, mk_2_m2, mk_2_0, mk_2_1, mk_2_2, mk_2_3, mk_2_4, mk_2_5, mk_2_6, mk_2_7, mk_2_8, mk_2_9, mk_2_10, mk_3_m2, mk_3_0, mk_3_1, mk_3_2, mk_3_3, mk_3_4, mk_3_5, mk_4_m2, mk_4_m1, mk_5_m2, mk_5_m1, mk_11_m2, mk_11_m1, mk_42_m2, mk_42_m1, mk_73_m2, mk_73_0, mk_73_1, mk_73_2, mk_74_m2, mk_74_m1, mk_572_m2, mk_572_m1, mk_715_m2, mk_715_m1, mk_717_m2, mk_717_m1, mk_718_m2, mk_718_m1, mk_716_m2, mk_716_0, mk_716_1, mk_716_2, mk_716_3, mk_716_4, mk_719_m2, mk_74_at, mk_572_at, mk_715_at, mk_717_at, mk_718_at, mk_4_at, mk_5_at, mk_11_at, mk_42_at, mk_O_k, mk_O_0, mk_O_1, mk_O_2, mk_O_3, mk_L_k, mk_L_0, mk_L_1, mk_L_2, mk_L_3, mk_L_4, mk_L_5, mk_L_6, mk_L_7, mk_L_8, mk_L_9, mk_L_10, mk_X_k, mk_X_0, mk_X_1, mk_X_2, mk_X_3, mk_X_4, mk_75_k, mk_573_k, r_1_6, r_73_1, r_73_2, r_716_1, r_716_2, r_716_3, r_715, r_717, r_718, s_O0, s_O1, s_O2, s_O3, s_L0, s_L1, s_L2, s_L3, s_L4, s_L5, s_L6, s_L7, s_L8, s_L9, s_L10, s_X0, s_X1, s_X2, s_X3, s_X4, s_2_4, s_2_5, s_2_6, s_2_7, s_2_8, s_2_9, s_2_10, s_3_1, s_3_2, s_3_3, s_3_4, s_3_5, s_4]
theorem JV_setRate (J : JV K w) (hK : K + 1 ≤ 60000) {x y : Int} (z1 : 0 ≤ x ∧ x ≤ 5) (z2 : 0 ≤ y ∧ y ≤ 1000) : JV (K + 1) (up w (14 + x) y) := by
  have g := J.1.1.hd; unfold HEAD at g
  refine ⟨IV_head J.1 hK (fun i hi => by rw [up_n (by omega)]) ?_ ?_ ?_ ?_ ?_ ?_ (fun k hk => ?_), IC_o J.2 (fun i hi => up_n (by omega))⟩
  · rw [up_n (by omega)]; omega
  · rw [up_n (by omega)]; omega
  · rw [up_n (by omega)]; omega
  · rw [up_n (by omega)]; omega
  · rw [up_n (by omega)]; omega
  · rw [up_n (by omega)]; omega
  · by_cases q : k = x
    · rw [q, up_e]; exact z2
    · rw [up_n (by omega)]; exact J.1.1.rt hk
theorem x_setRate_b {y : Int} : f_X7_setRate N 1 6 y (mk w c m a) = some (-100000001, mk w c m a) := by
  unfold f_X7_setRate
  simp only [to_bz, to_nz, to_cz, to_iz]
  simp (disch := omega) only [fun x lo hi μ => eq_bd (a_outside N x lo hi μ), bz_t, nz_t, cz_T, cz_t, iz_T, iz_F, iz_y, iz_n, not_true_eq_false, not_false_eq_true, true_and, and_true, w32_e, w64_e, mset_e, mset_n, up_e, up_n, if_y, if_n, Int.add_zero, mk_1_m2, mk_1_0, mk_1_1, mk_1_2, mk_1_3, mk_1_4, mk_1_5, mk_1_6, mk_2_m2, mk_2_0, mk_2_1, mk_2_2, mk_2_3, mk_2_4, mk_2_5, mk_2_6, mk_2_7, mk_2_8, mk_2_9, mk_2_10, mk_3_m2, mk_3_0, mk_3_1, mk_3_2, mk_3_3, mk_3_4, mk_3_5, mk_4_m2, mk_4_m1, mk_5_m2, mk_5_m1, mk_11_m2, mk_11_m1, mk_42_m2, mk_42_m1, mk_73_m2, mk_73_0, mk_73_1, mk_73_2, mk_74_m2, mk_74_m1, mk_572_m2, mk_572_m1, mk_715_m2, mk_715_m1, mk_717_m2, mk_717_m1, mk_718_m2, mk_718_m1, mk_716_m2, mk_716_0, mk_716_1, mk_716_2, mk_716_3, mk_716_4, mk_719_m2, mk_74_at, mk_572_at, mk_715_at, mk_717_at, mk_718_at, mk_4_at, mk_5_at, mk_11_at, mk_42_at, mk_O_k, mk_O_0, mk_O_1, mk_O_2, mk_O_3, mk_L_k, mk_L_0, mk_L_1, mk_L_2, mk_L_3, mk_L_4, mk_L_5, mk_L_6, mk_L_7, mk_L_8, mk_L_9, mk_L_10, mk_X_k, mk_X_0, mk_X_1, mk_X_2, mk_X_3, mk_X_4, mk_75_k, mk_573_k, r_1_6, r_73_1, r_73_2, r_716_1, r_716_2, r_716_3, r_715, r_717, r_718, s_O0, s_O1, s_O2, s_O3, s_L0, s_L1, s_L2, s_L3, s_L4, s_L5, s_L6, s_L7, s_L8, s_L9, s_L10, s_X0, s_X1, s_X2, s_X3, s_X4, s_2_4, s_2_5, s_2_6, s_2_7, s_2_8, s_2_9, s_2_10, s_3_1, s_3_2, s_3_3, s_3_4, s_3_5, s_4]
theorem x_addOwner (hN : 5000 ≤ N) (S : zST K w c a) (z : w 1 < 5) : f_X7_addOwner N 1 (mk w c m a) = some (w 1, mk (up w 1 (w 1 + 1)) (uc c ((a 73 1 + a 73 2) % 7 + 1) w) m (apA a)) := by
  have h1 := S.2.1.1
  have h2 := S.2.1.2.1
  have g := S.1.1.1.hd; unfold HEAD at g
  have p := eq_bd (b_prepare N w c m a hN h1 h2)
  have f := fun u => eq_bd (b_finishAct N u (uc c ((a 73 1 + a 73 2) % 7 + 1) w) m a h1 h2 (w 1))
  rw [if_neg (show ¬ w 1 < 0 by omega)] at f
  unfold f_X7_addOwner
  simp only [to_bz, to_nz, to_cz, to_iz]
  simp (disch := omega) only [p, f, bz_t, nz_t, cz_T, cz_t, iz_T, iz_F, iz_y, iz_n, not_true_eq_false, not_false_eq_true, true_and, and_true, w32_e, w64_e, mset_e, mset_n, up_e, up_n, if_y, if_n, Int.add_zero, mk_1_m2, mk_1_0, mk_1_1, mk_1_2, mk_1_3, mk_1_4, mk_1_5, mk_1_6, mk_2_m2, mk_2_0, mk_2_1, mk_2_2, mk_2_3, mk_2_4, mk_2_5, mk_2_6, mk_2_7, mk_2_8, mk_2_9, mk_2_10, mk_3_m2, mk_3_0, mk_3_1, mk_3_2, mk_3_3, mk_3_4, mk_3_5, mk_4_m2, mk_4_m1, mk_5_m2, mk_5_m1, mk_11_m2, mk_11_m1, mk_42_m2, mk_42_m1, mk_73_m2, mk_73_0, mk_73_1, mk_73_2, mk_74_m2, mk_74_m1, mk_572_m2, mk_572_m1, mk_715_m2, mk_715_m1, mk_717_m2, mk_717_m1, mk_718_m2, mk_718_m1, mk_716_m2, mk_716_0, mk_716_1, mk_716_2, mk_716_3, mk_716_4, mk_719_m2, mk_74_at, mk_572_at, mk_715_at, mk_717_at, mk_718_at, mk_4_at, mk_5_at, mk_11_at, mk_42_at, mk_O_k, mk_O_0, mk_O_1, mk_O_2, mk_O_3, mk_L_k, mk_L_0, mk_L_1, mk_L_2, mk_L_3, mk_L_4, mk_L_5, mk_L_6, mk_L_7, mk_L_8, mk_L_9, mk_L_10, mk_X_k, mk_X_0, mk_X_1, mk_X_2, mk_X_3, mk_X_4, mk_75_k, mk_573_k, r_1_6, r_73_1, r_73_2, r_716_1, r_716_2, r_716_3, r_715, r_717, r_718, s_O0, s_O1, s_O2, s_O3, s_L0, s_L1, s_L2, s_L3, s_L4, s_L5, s_L6, s_L7, s_L8, s_L9, s_L10, s_X0, s_X1, s_X2, s_X3, s_X4, s_2_4, s_2_5, s_2_6, s_2_7, s_2_8, s_2_9, s_2_10, s_3_1, s_3_2, s_3_3, s_3_4, s_3_5, s_4]
theorem JV_addOwner (J : JV K w) (hK : K + 1 ≤ 60000) (z : w 1 < 5) : JV (K + 1) (up w 1 (w 1 + 1)) := ⟨IV_add J.1 hK z, IC_o J.2 (fun i hi => up_n (by omega))⟩
theorem x_deposit (hN : 5000 ≤ N) (S : zST K w c a) {o x : Int} (z1 : 0 ≤ o ∧ o < w 1) (z2 : 1 ≤ x ∧ x ≤ 10000000) : f_X7_deposit N 1 o x (mk w c m a) = some (w (20 + 4 * o + 2) - min (w (20 + 4 * o + 2)) x, mk (dDp w o x) (uc c ((a 73 1 + a 73 2) % 7 + 1) w) m (apA a)) := by
  have h1 := S.2.1.1
  have h2 := S.2.1.2.1
  have g := S.1.1.1.hd; unfold HEAD at g
  have p := eq_bd (b_prepare N w c m a hN h1 h2)
  have fo := eq_bd (a_findOwner N c m a S.1.1.1 o)
  rw [if_pos z1] at fo
  have ow := S.1.1.1.own (o := o) (by omega); unfold OWN at ow
  have py := A_payIn (N := N) (c := uc c ((a 73 1 + a 73 2) % 7 + 1) w) (a := a) (v := w) m (o := o) (x := x) (by omega) (by omega) (by omega) z2
  have f := fun u => eq_bd (b_finishAct N u (uc c ((a 73 1 + a 73 2) % 7 + 1) w) m a h1 h2 (w (20 + 4 * o + 2) - min (w (20 + 4 * o + 2)) x))
  rw [if_neg (show ¬ w (20 + 4 * o + 2) - min (w (20 + 4 * o + 2)) x < 0 by omega)] at f
  unfold f_X7_deposit dDp
  simp only [to_bz, to_nz, to_cz, to_iz]
  simp (disch := omega) only [fun x lo hi μ => eq_bd (a_outside N x lo hi μ), fo, p, py, f, bz_t, nz_t, cz_T, cz_t, iz_T, iz_F, iz_y, iz_n, not_true_eq_false, not_false_eq_true, true_and, and_true, w32_e, w64_e, mset_e, mset_n, up_e, up_n, if_y, if_n, Int.add_zero, mk_1_m2, mk_1_0, mk_1_1, mk_1_2, mk_1_3, mk_1_4, mk_1_5, mk_1_6, mk_2_m2, mk_2_0, mk_2_1, mk_2_2, mk_2_3, mk_2_4, mk_2_5, mk_2_6, mk_2_7, mk_2_8, mk_2_9, mk_2_10, mk_3_m2, mk_3_0, mk_3_1, mk_3_2, mk_3_3, mk_3_4, mk_3_5, mk_4_m2, mk_4_m1, mk_5_m2, mk_5_m1, mk_11_m2, mk_11_m1, mk_42_m2, mk_42_m1, mk_73_m2, mk_73_0, mk_73_1, mk_73_2, mk_74_m2, mk_74_m1, mk_572_m2, mk_572_m1, mk_715_m2, mk_715_m1, mk_717_m2, mk_717_m1, mk_718_m2, mk_718_m1, mk_716_m2, mk_716_0, mk_716_1, mk_716_2, mk_716_3, mk_716_4, mk_719_m2, mk_74_at, mk_572_at, mk_715_at, mk_717_at, mk_718_at, mk_4_at, mk_5_at, mk_11_at, mk_42_at, mk_O_k, mk_O_0, mk_O_1, mk_O_2, mk_O_3, mk_L_k, mk_L_0, mk_L_1, mk_L_2, mk_L_3, mk_L_4, mk_L_5, mk_L_6, mk_L_7, mk_L_8, mk_L_9, mk_L_10, mk_X_k, mk_X_0, mk_X_1, mk_X_2, mk_X_3, mk_X_4, mk_75_k, mk_573_k, r_1_6, r_73_1, r_73_2, r_716_1, r_716_2, r_716_3, r_715, r_717, r_718, s_O0, s_O1, s_O2, s_O3, s_L0, s_L1, s_L2, s_L3, s_L4, s_L5, s_L6, s_L7, s_L8, s_L9, s_L10, s_X0, s_X1, s_X2, s_X3, s_X4, s_2_4, s_2_5, s_2_6, s_2_7, s_2_8, s_2_9, s_2_10, s_3_1, s_3_2, s_3_3, s_3_4, s_3_5, s_4]
theorem JV_deposit (J : JV K w) (hK : K + 1 ≤ 60000) {o x : Int} (z1 : 0 ≤ o ∧ o < w 1) (z2 : 1 ≤ x ∧ x ≤ 10000000) : JV (K + 1) (dDp w o x) := by
  have g := J.1.1.hd; unfold HEAD at g
  have ow := J.1.1.own (o := o) (by omega); unfold OWN at ow
  have e : ∀ i, i ≠ 12 → i ≠ 20 + 4 * o → i ≠ 20 + 4 * o + 1 → i ≠ 20 + 4 * o + 2 → dDp w o x i = w i := by
    intro i i1 i2 i3 i4; unfold dDp; simp (disch := omega) only [up_n]
  have e0 : dDp w o x (20 + 4 * o) = w (20 + 4 * o) + (x - min (w (20 + 4 * o + 2)) x) := by unfold dDp; simp (disch := omega) only [up_n, up_e]
  have e1 : dDp w o x (20 + 4 * o + 1) = w (20 + 4 * o + 1) := by unfold dDp; simp (disch := omega) only [up_n, up_e]
  have e2 : dDp w o x (20 + 4 * o + 2) = w (20 + 4 * o + 2) - min (w (20 + 4 * o + 2)) x := by unfold dDp; simp (disch := omega) only [up_n, up_e]
  have e12 : dDp w o x 12 = w 12 + x := by unfold dDp; simp (disch := omega) only [up_n, up_e]
  exact ⟨IV_own J.1 hK z1 e (by rw [e0]; omega) (by rw [e1]; omega) (by rw [e2]; omega) (by rw [e12]; omega), IC_o J.2 (fun i hi => e i (by omega) (by omega) (by omega) (by omega))⟩
theorem x_deposit_b (S : zST K w c a) {o : Int} (z1 : 0 ≤ o ∧ o < w 1) : f_X7_deposit N 1 o 0 (mk w c m a) = some (-100000002, mk w c m a) := by
  have g := S.1.1.1.hd; unfold HEAD at g
  have fo := eq_bd (a_findOwner N c m a S.1.1.1 o)
  rw [if_pos z1] at fo
  unfold f_X7_deposit
  simp only [to_bz, to_nz, to_cz, to_iz]
  simp (disch := omega) only [fun x lo hi μ => eq_bd (a_outside N x lo hi μ), fo, bz_t, nz_t, cz_T, cz_t, iz_T, iz_F, iz_y, iz_n, not_true_eq_false, not_false_eq_true, true_and, and_true, w32_e, w64_e, mset_e, mset_n, up_e, up_n, if_y, if_n, Int.add_zero, mk_1_m2, mk_1_0, mk_1_1, mk_1_2, mk_1_3, mk_1_4, mk_1_5, mk_1_6, mk_2_m2, mk_2_0, mk_2_1, mk_2_2, mk_2_3, mk_2_4, mk_2_5, mk_2_6, mk_2_7, mk_2_8, mk_2_9, mk_2_10, mk_3_m2, mk_3_0, mk_3_1, mk_3_2, mk_3_3, mk_3_4, mk_3_5, mk_4_m2, mk_4_m1, mk_5_m2, mk_5_m1, mk_11_m2, mk_11_m1, mk_42_m2, mk_42_m1, mk_73_m2, mk_73_0, mk_73_1, mk_73_2, mk_74_m2, mk_74_m1, mk_572_m2, mk_572_m1, mk_715_m2, mk_715_m1, mk_717_m2, mk_717_m1, mk_718_m2, mk_718_m1, mk_716_m2, mk_716_0, mk_716_1, mk_716_2, mk_716_3, mk_716_4, mk_719_m2, mk_74_at, mk_572_at, mk_715_at, mk_717_at, mk_718_at, mk_4_at, mk_5_at, mk_11_at, mk_42_at, mk_O_k, mk_O_0, mk_O_1, mk_O_2, mk_O_3, mk_L_k, mk_L_0, mk_L_1, mk_L_2, mk_L_3, mk_L_4, mk_L_5, mk_L_6, mk_L_7, mk_L_8, mk_L_9, mk_L_10, mk_X_k, mk_X_0, mk_X_1, mk_X_2, mk_X_3, mk_X_4, mk_75_k, mk_573_k, r_1_6, r_73_1, r_73_2, r_716_1, r_716_2, r_716_3, r_715, r_717, r_718, s_O0, s_O1, s_O2, s_O3, s_L0, s_L1, s_L2, s_L3, s_L4, s_L5, s_L6, s_L7, s_L8, s_L9, s_L10, s_X0, s_X1, s_X2, s_X3, s_X4, s_2_4, s_2_5, s_2_6, s_2_7, s_2_8, s_2_9, s_2_10, s_3_1, s_3_2, s_3_3, s_3_4, s_3_5, s_4]
theorem x_deposit_u (S : zST K w c a) {o x : Int} (z1 : ¬ (0 ≤ o ∧ o < w 1)) : f_X7_deposit N 1 o x (mk w c m a) = some (-100000001, mk w c m a) := by
  have g := S.1.1.1.hd; unfold HEAD at g
  have fo := eq_bd (a_findOwner N c m a S.1.1.1 o)
  rw [if_neg z1] at fo
  unfold f_X7_deposit
  simp only [to_bz, to_nz, to_cz, to_iz]
  simp (disch := omega) only [fun x lo hi μ => eq_bd (a_outside N x lo hi μ), fo, bz_t, nz_t, cz_T, cz_t, iz_T, iz_F, iz_y, iz_n, not_true_eq_false, not_false_eq_true, true_and, and_true, w32_e, w64_e, mset_e, mset_n, up_e, up_n, if_y, if_n, Int.add_zero, mk_1_m2, mk_1_0, mk_1_1, mk_1_2, mk_1_3, mk_1_4, mk_1_5, mk_1_6, mk_2_m2, mk_2_0, mk_2_1, mk_2_2, mk_2_3, mk_2_4, mk_2_5, mk_2_6, mk_2_7, mk_2_8, mk_2_9, mk_2_10, mk_3_m2, mk_3_0, mk_3_1, mk_3_2, mk_3_3, mk_3_4, mk_3_5, mk_4_m2, mk_4_m1, mk_5_m2, mk_5_m1, mk_11_m2, mk_11_m1, mk_42_m2, mk_42_m1, mk_73_m2, mk_73_0, mk_73_1, mk_73_2, mk_74_m2, mk_74_m1, mk_572_m2, mk_572_m1, mk_715_m2, mk_715_m1, mk_717_m2, mk_717_m1, mk_718_m2, mk_718_m1, mk_716_m2, mk_716_0, mk_716_1, mk_716_2, mk_716_3, mk_716_4, mk_719_m2, mk_74_at, mk_572_at, mk_715_at, mk_717_at, mk_718_at, mk_4_at, mk_5_at, mk_11_at, mk_42_at, mk_O_k, mk_O_0, mk_O_1, mk_O_2, mk_O_3, mk_L_k, mk_L_0, mk_L_1, mk_L_2, mk_L_3, mk_L_4, mk_L_5, mk_L_6, mk_L_7, mk_L_8, mk_L_9, mk_L_10, mk_X_k, mk_X_0, mk_X_1, mk_X_2, mk_X_3, mk_X_4, mk_75_k, mk_573_k, r_1_6, r_73_1, r_73_2, r_716_1, r_716_2, r_716_3, r_715, r_717, r_718, s_O0, s_O1, s_O2, s_O3, s_L0, s_L1, s_L2, s_L3, s_L4, s_L5, s_L6, s_L7, s_L8, s_L9, s_L10, s_X0, s_X1, s_X2, s_X3, s_X4, s_2_4, s_2_5, s_2_6, s_2_7, s_2_8, s_2_9, s_2_10, s_3_1, s_3_2, s_3_3, s_3_4, s_3_5, s_4]
theorem x_setGuarantee (hN : 5000 ≤ N) (S : zST K w c a) {o x : Int} (z1 : 0 ≤ o ∧ o < w 1) (z2 : 0 ≤ x ∧ x ≤ 100000000) (z3 : us w o * w 7 / 100 ≤ x) : f_X7_setGuarantee N 1 o x (mk w c m a) = some (w (20 + 4 * o + 1), mk (up w (20 + 4 * o + 1) x) (uc c ((a 73 1 + a 73 2) % 7 + 1) w) m (apA a)) := by
  have h1 := S.2.1.1
  have h2 := S.2.1.2.1
  have g := S.1.1.1.hd; unfold HEAD at g
  have p := eq_bd (b_prepare N w c m a hN h1 h2)
  have fo := eq_bd (a_findOwner N c m a S.1.1.1 o)
  have t := S.1.1.1.usT o
  have ow := S.1.1.1.own (o := o) (by omega); unfold OWN at ow
  rw [if_pos z1] at fo
  have uf := eq_bd (a_useOf N c m a hN S.1.1.1 o)
  have cf := eq_bd (a_covers N c m a S.1.1.1 (u := us w o) (g := x) (by omega) z2)
  rw [if_pos z3] at cf
  have f := fun u => eq_bd (b_finishAct N u (uc c ((a 73 1 + a 73 2) % 7 + 1) w) m a h1 h2 (w (20 + 4 * o + 1)))
  rw [if_neg (show ¬ w (20 + 4 * o + 1) < 0 by omega)] at f
  unfold f_X7_setGuarantee
  simp only [to_bz, to_nz, to_cz, to_iz]
  simp (disch := omega) only [fun x lo hi μ => eq_bd (a_outside N x lo hi μ), fo, uf, cf, p, f, bz_t, nz_t, cz_T, cz_t, iz_T, iz_F, iz_y, iz_n, not_true_eq_false, not_false_eq_true, true_and, and_true, w32_e, w64_e, mset_e, mset_n, up_e, up_n, if_y, if_n, Int.add_zero, mk_1_m2, mk_1_0, mk_1_1, mk_1_2, mk_1_3, mk_1_4, mk_1_5, mk_1_6, mk_2_m2, mk_2_0, mk_2_1, mk_2_2, mk_2_3, mk_2_4, mk_2_5, mk_2_6, mk_2_7, mk_2_8, mk_2_9, mk_2_10, mk_3_m2, mk_3_0, mk_3_1, mk_3_2, mk_3_3, mk_3_4, mk_3_5, mk_4_m2, mk_4_m1, mk_5_m2, mk_5_m1, mk_11_m2, mk_11_m1, mk_42_m2, mk_42_m1, mk_73_m2, mk_73_0, mk_73_1, mk_73_2, mk_74_m2, mk_74_m1, mk_572_m2, mk_572_m1, mk_715_m2, mk_715_m1, mk_717_m2, mk_717_m1, mk_718_m2, mk_718_m1, mk_716_m2, mk_716_0, mk_716_1, mk_716_2, mk_716_3, mk_716_4, mk_719_m2, mk_74_at, mk_572_at, mk_715_at, mk_717_at, mk_718_at, mk_4_at, mk_5_at, mk_11_at, mk_42_at, mk_O_k, mk_O_0, mk_O_1, mk_O_2, mk_O_3, mk_L_k, mk_L_0, mk_L_1, mk_L_2, mk_L_3, mk_L_4, mk_L_5, mk_L_6, mk_L_7, mk_L_8, mk_L_9, mk_L_10, mk_X_k, mk_X_0, mk_X_1, mk_X_2, mk_X_3, mk_X_4, mk_75_k, mk_573_k, r_1_6, r_73_1, r_73_2, r_716_1, r_716_2, r_716_3, r_715, r_717, r_718, s_O0, s_O1, s_O2, s_O3, s_L0, s_L1, s_L2, s_L3, s_L4, s_L5, s_L6, s_L7, s_L8, s_L9, s_L10, s_X0, s_X1, s_X2, s_X3, s_X4, s_2_4, s_2_5, s_2_6, s_2_7, s_2_8, s_2_9, s_2_10, s_3_1, s_3_2, s_3_3, s_3_4, s_3_5, s_4]
theorem JV_setGuarantee (J : JV K w) (hK : K + 1 ≤ 60000) {o x : Int} (z1 : 0 ≤ o ∧ o < w 1) (z2 : 0 ≤ x ∧ x ≤ 100000000) : JV (K + 1) (up w (20 + 4 * o + 1) x) := by
  have g := J.1.1.hd; unfold HEAD at g
  have ow := J.1.1.own (o := o) (by omega); unfold OWN at ow
  exact ⟨IV_own J.1 hK z1 (fun i i1 i2 i3 i4 => up_n i3) (by rw [up_n (by omega)]; omega) (by rw [up_e]; omega) (by rw [up_n (by omega)]; omega) (by rw [up_n (by omega)]; omega), IC_o J.2 (fun i hi => up_n (by omega))⟩
theorem x_setGuarantee_r (hN : 5000 ≤ N) (S : zST K w c a) {o x : Int} (z1 : 0 ≤ o ∧ o < w 1) (z2 : 0 ≤ x ∧ x ≤ 100000000) (z3 : ¬ us w o * w 7 / 100 ≤ x) : f_X7_setGuarantee N 1 o x (mk w c m a) = some (-100000003, mk w c m (mset a 1 6 2)) := by
  have g := S.1.1.1.hd; unfold HEAD at g
  have fo := eq_bd (a_findOwner N c m a S.1.1.1 o)
  have t := S.1.1.1.usT o
  rw [if_pos z1] at fo
  have uf := eq_bd (a_useOf N c m a hN S.1.1.1 o)
  have cf := eq_bd (a_covers N c m a S.1.1.1 (u := us w o) (g := x) (by omega) z2)
  rw [if_neg z3] at cf
  have rf := eq_bd (a_refuse N (v := w) c m a 2)
  unfold f_X7_setGuarantee
  simp only [to_bz, to_nz, to_cz, to_iz]
  simp (disch := omega) only [fun x lo hi μ => eq_bd (a_outside N x lo hi μ), fo, uf, cf, rf, bz_t, nz_t, cz_T, cz_t, iz_T, iz_F, iz_y, iz_n, not_true_eq_false, not_false_eq_true, true_and, and_true, w32_e, w64_e, mset_e, mset_n, up_e, up_n, if_y, if_n, Int.add_zero, mk_1_m2, mk_1_0, mk_1_1, mk_1_2, mk_1_3, mk_1_4, mk_1_5, mk_1_6, mk_2_m2, mk_2_0, mk_2_1, mk_2_2, mk_2_3, mk_2_4, mk_2_5, mk_2_6, mk_2_7, mk_2_8, mk_2_9, mk_2_10, mk_3_m2, mk_3_0, mk_3_1, mk_3_2, mk_3_3, mk_3_4, mk_3_5, mk_4_m2, mk_4_m1, mk_5_m2, mk_5_m1, mk_11_m2, mk_11_m1, mk_42_m2, mk_42_m1, mk_73_m2, mk_73_0, mk_73_1, mk_73_2, mk_74_m2, mk_74_m1, mk_572_m2, mk_572_m1, mk_715_m2, mk_715_m1, mk_717_m2, mk_717_m1, mk_718_m2, mk_718_m1, mk_716_m2, mk_716_0, mk_716_1, mk_716_2, mk_716_3, mk_716_4, mk_719_m2, mk_74_at, mk_572_at, mk_715_at, mk_717_at, mk_718_at, mk_4_at, mk_5_at, mk_11_at, mk_42_at, mk_O_k, mk_O_0, mk_O_1, mk_O_2, mk_O_3, mk_L_k, mk_L_0, mk_L_1, mk_L_2, mk_L_3, mk_L_4, mk_L_5, mk_L_6, mk_L_7, mk_L_8, mk_L_9, mk_L_10, mk_X_k, mk_X_0, mk_X_1, mk_X_2, mk_X_3, mk_X_4, mk_75_k, mk_573_k, r_1_6, r_73_1, r_73_2, r_716_1, r_716_2, r_716_3, r_715, r_717, r_718, s_O0, s_O1, s_O2, s_O3, s_L0, s_L1, s_L2, s_L3, s_L4, s_L5, s_L6, s_L7, s_L8, s_L9, s_L10, s_X0, s_X1, s_X2, s_X3, s_X4, s_2_4, s_2_5, s_2_6, s_2_7, s_2_8, s_2_9, s_2_10, s_3_1, s_3_2, s_3_3, s_3_4, s_3_5, s_4]
theorem x_pass (hN : 5000 ≤ N) (S : zST K w c a) {d : Int} (z : 1 ≤ d ∧ d ≤ 100) : f_X7_pass N 1 d (mk w c m a) = some (pS w d, mk (pR w d) (uc c ((a 73 1 + a 73 2) % 7 + 1) w) m (apA a)) := by
  have h1 := S.2.1.1
  have h2 := S.2.1.2.1
  have p := eq_bd (b_prepare N w c m a hN h1 h2)
  have sb := pS_b S.1.1.1 d
  have f := eq_bd (b_finishAct N (pR w d) (uc c ((a 73 1 + a 73 2) % 7 + 1) w) m a h1 h2 (pS w d))
  rw [if_neg (show ¬ pS w d < 0 by omega)] at f
  have x := a_pass_g N (uc c ((a 73 1 + a 73 2) % 7 + 1) w) m a hN S.1.1.1 d z
  unfold f_X7_pass
  simp only [to_bz, to_nz, to_cz, to_iz]
  simp (disch := omega) only [p, x, f, bz_t, nz_t, cz_T, cz_t, iz_T, iz_F, iz_y, iz_n, not_true_eq_false, not_false_eq_true, true_and, and_true, w32_e, w64_e, mset_e, mset_n, up_e, up_n, if_y, if_n, Int.add_zero, mk_1_m2, mk_1_0, mk_1_1, mk_1_2, mk_1_3, mk_1_4, mk_1_5, mk_1_6, mk_2_m2, mk_2_0, mk_2_1, mk_2_2, mk_2_3, mk_2_4, mk_2_5, mk_2_6, mk_2_7, mk_2_8, mk_2_9, mk_2_10, mk_3_m2, mk_3_0, mk_3_1, mk_3_2, mk_3_3, mk_3_4, mk_3_5, mk_4_m2, mk_4_m1, mk_5_m2, mk_5_m1, mk_11_m2, mk_11_m1, mk_42_m2, mk_42_m1, mk_73_m2, mk_73_0, mk_73_1, mk_73_2, mk_74_m2, mk_74_m1, mk_572_m2, mk_572_m1, mk_715_m2, mk_715_m1, mk_717_m2, mk_717_m1, mk_718_m2, mk_718_m1, mk_716_m2, mk_716_0, mk_716_1, mk_716_2, mk_716_3, mk_716_4, mk_719_m2, mk_74_at, mk_572_at, mk_715_at, mk_717_at, mk_718_at, mk_4_at, mk_5_at, mk_11_at, mk_42_at, mk_O_k, mk_O_0, mk_O_1, mk_O_2, mk_O_3, mk_L_k, mk_L_0, mk_L_1, mk_L_2, mk_L_3, mk_L_4, mk_L_5, mk_L_6, mk_L_7, mk_L_8, mk_L_9, mk_L_10, mk_X_k, mk_X_0, mk_X_1, mk_X_2, mk_X_3, mk_X_4, mk_75_k, mk_573_k, r_1_6, r_73_1, r_73_2, r_716_1, r_716_2, r_716_3, r_715, r_717, r_718, s_O0, s_O1, s_O2, s_O3, s_L0, s_L1, s_L2, s_L3, s_L4, s_L5, s_L6, s_L7, s_L8, s_L9, s_L10, s_X0, s_X1, s_X2, s_X3, s_X4, s_2_4, s_2_5, s_2_6, s_2_7, s_2_8, s_2_9, s_2_10, s_3_1, s_3_2, s_3_3, s_3_4, s_3_5, s_4]
theorem x_undo_n (S : zST K w c a) (z : a 73 2 = 0) : f_X7_undo N 1 (mk w c m a) = some (-100000005, mk w c m a) := by
  have h1 := S.2.1.1
  unfold f_X7_undo f_X1_takeBack
  simp only [to_bz, to_nz, to_cz, to_iz]
  simp (disch := omega) only [bz_t, nz_t, cz_T, cz_t, iz_T, iz_F, iz_y, iz_n, not_true_eq_false, not_false_eq_true, true_and, and_true, w32_e, w64_e, mset_e, mset_n, up_e, up_n, if_y, if_n, Int.add_zero, mk_1_m2, mk_1_0, mk_1_1, mk_1_2, mk_1_3, mk_1_4, mk_1_5, mk_1_6, mk_2_m2, mk_2_0, mk_2_1, mk_2_2, mk_2_3, mk_2_4, mk_2_5, mk_2_6, mk_2_7, mk_2_8, mk_2_9, mk_2_10, mk_3_m2, mk_3_0, mk_3_1, mk_3_2, mk_3_3, mk_3_4, mk_3_5, mk_4_m2, mk_4_m1, mk_5_m2, mk_5_m1, mk_11_m2, mk_11_m1, mk_42_m2, mk_42_m1, mk_73_m2, mk_73_0, mk_73_1, mk_73_2, mk_74_m2, mk_74_m1, mk_572_m2, mk_572_m1, mk_715_m2, mk_715_m1, mk_717_m2, mk_717_m1, mk_718_m2, mk_718_m1, mk_716_m2, mk_716_0, mk_716_1, mk_716_2, mk_716_3, mk_716_4, mk_719_m2, mk_74_at, mk_572_at, mk_715_at, mk_717_at, mk_718_at, mk_4_at, mk_5_at, mk_11_at, mk_42_at, mk_O_k, mk_O_0, mk_O_1, mk_O_2, mk_O_3, mk_L_k, mk_L_0, mk_L_1, mk_L_2, mk_L_3, mk_L_4, mk_L_5, mk_L_6, mk_L_7, mk_L_8, mk_L_9, mk_L_10, mk_X_k, mk_X_0, mk_X_1, mk_X_2, mk_X_3, mk_X_4, mk_75_k, mk_573_k, r_1_6, r_73_1, r_73_2, r_716_1, r_716_2, r_716_3, r_715, r_717, r_718, s_O0, s_O1, s_O2, s_O3, s_L0, s_L1, s_L2, s_L3, s_L4, s_L5, s_L6, s_L7, s_L8, s_L9, s_L10, s_X0, s_X1, s_X2, s_X3, s_X4, s_2_4, s_2_5, s_2_6, s_2_7, s_2_8, s_2_9, s_2_10, s_3_1, s_3_2, s_3_3, s_3_4, s_3_5, s_4]
theorem x_undo (hN : 5000 ≤ N) (S : zST K w c a) {s : Int} (z : a 73 2 = s + 1) (hs0 : 0 ≤ s) : f_X7_undo N 1 (mk w c m a) = some (s, mk (c ((a 73 1 + s) % 7 + 1)) c m (mset a 73 2 s)) := by
  have h1 := S.2.1.1
  have h2 := S.2.1.2.1
  have hs : a 73 2 - 1 = s := by omega
  have e := o_rem_e (x := a 73 1 + s) (by omega)
  have q : 0 ≤ (a 73 1 + s) % 7 ∧ (a 73 1 + s) % 7 < 7 := by omega
  have cb := eq_bd (b_cpBack w c m (mset a 73 2 s) N hN q)
  unfold f_X7_undo f_X1_takeBack
  simp only [to_bz, to_nz, to_cz, to_iz]
  simp (disch := omega) only [hs, e, cb, bz_t, nz_t, cz_T, cz_t, iz_T, iz_F, iz_y, iz_n, not_true_eq_false, not_false_eq_true, true_and, and_true, w32_e, w64_e, mset_e, mset_n, up_e, up_n, if_y, if_n, Int.add_zero, mk_1_m2, mk_1_0, mk_1_1, mk_1_2, mk_1_3, mk_1_4, mk_1_5, mk_1_6, mk_2_m2, mk_2_0, mk_2_1, mk_2_2, mk_2_3, mk_2_4, mk_2_5, mk_2_6, mk_2_7, mk_2_8, mk_2_9, mk_2_10, mk_3_m2, mk_3_0, mk_3_1, mk_3_2, mk_3_3, mk_3_4, mk_3_5, mk_4_m2, mk_4_m1, mk_5_m2, mk_5_m1, mk_11_m2, mk_11_m1, mk_42_m2, mk_42_m1, mk_73_m2, mk_73_0, mk_73_1, mk_73_2, mk_74_m2, mk_74_m1, mk_572_m2, mk_572_m1, mk_715_m2, mk_715_m1, mk_717_m2, mk_717_m1, mk_718_m2, mk_718_m1, mk_716_m2, mk_716_0, mk_716_1, mk_716_2, mk_716_3, mk_716_4, mk_719_m2, mk_74_at, mk_572_at, mk_715_at, mk_717_at, mk_718_at, mk_4_at, mk_5_at, mk_11_at, mk_42_at, mk_O_k, mk_O_0, mk_O_1, mk_O_2, mk_O_3, mk_L_k, mk_L_0, mk_L_1, mk_L_2, mk_L_3, mk_L_4, mk_L_5, mk_L_6, mk_L_7, mk_L_8, mk_L_9, mk_L_10, mk_X_k, mk_X_0, mk_X_1, mk_X_2, mk_X_3, mk_X_4, mk_75_k, mk_573_k, r_1_6, r_73_1, r_73_2, r_716_1, r_716_2, r_716_3, r_715, r_717, r_718, s_O0, s_O1, s_O2, s_O3, s_L0, s_L1, s_L2, s_L3, s_L4, s_L5, s_L6, s_L7, s_L8, s_L9, s_L10, s_X0, s_X1, s_X2, s_X3, s_X4, s_2_4, s_2_5, s_2_6, s_2_7, s_2_8, s_2_9, s_2_10, s_3_1, s_3_2, s_3_3, s_3_4, s_3_5, s_4]
theorem zST_undo (S : zST K w c a) {s : Int} (z : a 73 2 = s + 1) (hs0 : 0 ≤ s) : zST K (c ((a 73 1 + s) % 7 + 1)) c (mset a 73 2 s) := by
  have hk := zST_K S
  obtain ⟨S1, ⟨h1, h2, h4⟩, S3, S4, S5, S6⟩ := S
  have f : zF a (mset a 73 2 s) := zF_73 _ _
  refine ⟨h4 s (by omega), ⟨by rw [mset_n (by omega)]; exact h1, by rw [mset_e]; omega, fun k hk => ?_⟩, zS_f S3 f (fun _ _ => rfl) (by omega), ?_, zT_f S5 f, zD_f S6 f⟩
  · rw [mset_e] at hk
    rw [mset_n (by omega)]
    exact h4 k (by omega)
  · unfold zR at *; rw [mset_n (by omega)]; exact S4
theorem x_keep (hN : 5000 ≤ N) (S : zST K w c a) : f_X7_keep N 1 1 (mk w c m a) = some (w 2, mk w (uc c 9 w) m (mset a 715 1 1)) := by
  have g := S.1.1.1.hd; unfold HEAD at g
  have cb := eq_bd (b_cpSlot w c m a N hN (i := 1) (by omega))
  unfold f_X7_keep
  simp only [to_bz, to_nz, to_cz, to_iz]
  simp (disch := omega) only [fun x lo hi μ => eq_bd (a_outside N x lo hi μ), cb, show (8 : Int) + 1 = 9 from rfl, bz_t, nz_t, cz_T, cz_t, iz_T, iz_F, iz_y, iz_n, not_true_eq_false, not_false_eq_true, true_and, and_true, w32_e, w64_e, mset_e, mset_n, up_e, up_n, if_y, if_n, Int.add_zero, mk_1_m2, mk_1_0, mk_1_1, mk_1_2, mk_1_3, mk_1_4, mk_1_5, mk_1_6, mk_2_m2, mk_2_0, mk_2_1, mk_2_2, mk_2_3, mk_2_4, mk_2_5, mk_2_6, mk_2_7, mk_2_8, mk_2_9, mk_2_10, mk_3_m2, mk_3_0, mk_3_1, mk_3_2, mk_3_3, mk_3_4, mk_3_5, mk_4_m2, mk_4_m1, mk_5_m2, mk_5_m1, mk_11_m2, mk_11_m1, mk_42_m2, mk_42_m1, mk_73_m2, mk_73_0, mk_73_1, mk_73_2, mk_74_m2, mk_74_m1, mk_572_m2, mk_572_m1, mk_715_m2, mk_715_m1, mk_717_m2, mk_717_m1, mk_718_m2, mk_718_m1, mk_716_m2, mk_716_0, mk_716_1, mk_716_2, mk_716_3, mk_716_4, mk_719_m2, mk_74_at, mk_572_at, mk_715_at, mk_717_at, mk_718_at, mk_4_at, mk_5_at, mk_11_at, mk_42_at, mk_O_k, mk_O_0, mk_O_1, mk_O_2, mk_O_3, mk_L_k, mk_L_0, mk_L_1, mk_L_2, mk_L_3, mk_L_4, mk_L_5, mk_L_6, mk_L_7, mk_L_8, mk_L_9, mk_L_10, mk_X_k, mk_X_0, mk_X_1, mk_X_2, mk_X_3, mk_X_4, mk_75_k, mk_573_k, r_1_6, r_73_1, r_73_2, r_716_1, r_716_2, r_716_3, r_715, r_717, r_718, s_O0, s_O1, s_O2, s_O3, s_L0, s_L1, s_L2, s_L3, s_L4, s_L5, s_L6, s_L7, s_L8, s_L9, s_L10, s_X0, s_X1, s_X2, s_X3, s_X4, s_2_4, s_2_5, s_2_6, s_2_7, s_2_8, s_2_9, s_2_10, s_3_1, s_3_2, s_3_3, s_3_4, s_3_5, s_4]
theorem zST_keep (S : zST K w c a) : zST K w (uc c 9 w) (mset a 715 1 1) := by
  have hk := zST_K S
  obtain ⟨S1, ⟨h1, h2, h4⟩, S3, S4, S5, S6⟩ := S
  refine ⟨S1, ⟨by rw [mset_n (by omega)]; exact h1, by rw [mset_n (by omega)]; exact h2, fun k hk => ?_⟩, fun s hs => ?_, ?_, ?_, ?_⟩
  · rw [mset_n (by omega)] at hk
    rw [mset_n (by omega), show uc c 9 w ((a 73 1 + k) % 7 + 1) = c ((a 73 1 + k) % 7 + 1) from by unfold uc; rw [if_neg (by omega)]]
    exact h4 k hk
  · obtain ⟨q1, q2⟩ := S3 s hs
    by_cases y : s = 1
    · rw [y, mset_e, show uc c 9 w (8 + 1) = w from by unfold uc; rw [if_pos (by omega)]]
      exact ⟨by omega, fun _ => S1⟩
    · rw [mset_n (by omega), show uc c 9 w (8 + s) = c (8 + s) from by unfold uc; rw [if_neg (by omega)]]
      exact ⟨q1, q2⟩
  · unfold zR at *; rw [mset_n (by omega)]; exact S4
  · unfold zT at *; rw [mset_n (by omega)]; exact S5
  · have d := S6
    unfold zD at d ⊢
    rw [mset_n (by omega), mset_n (by omega), mset_n (by omega), mset_n (by omega), mset_n (by omega), mset_n (by omega)]
    exact d
theorem x_keep_b : f_X7_keep N 1 (-1) (mk w c m a) = some (-100000001, mk w c m a) := by
  unfold f_X7_keep
  simp only [to_bz, to_nz, to_cz, to_iz]
  simp (disch := omega) only [fun x lo hi μ => eq_bd (a_outside N x lo hi μ), bz_t, nz_t, cz_T, cz_t, iz_T, iz_F, iz_y, iz_n, not_true_eq_false, not_false_eq_true, true_and, and_true, w32_e, w64_e, mset_e, mset_n, up_e, up_n, if_y, if_n, Int.add_zero, mk_1_m2, mk_1_0, mk_1_1, mk_1_2, mk_1_3, mk_1_4, mk_1_5, mk_1_6, mk_2_m2, mk_2_0, mk_2_1, mk_2_2, mk_2_3, mk_2_4, mk_2_5, mk_2_6, mk_2_7, mk_2_8, mk_2_9, mk_2_10, mk_3_m2, mk_3_0, mk_3_1, mk_3_2, mk_3_3, mk_3_4, mk_3_5, mk_4_m2, mk_4_m1, mk_5_m2, mk_5_m1, mk_11_m2, mk_11_m1, mk_42_m2, mk_42_m1, mk_73_m2, mk_73_0, mk_73_1, mk_73_2, mk_74_m2, mk_74_m1, mk_572_m2, mk_572_m1, mk_715_m2, mk_715_m1, mk_717_m2, mk_717_m1, mk_718_m2, mk_718_m1, mk_716_m2, mk_716_0, mk_716_1, mk_716_2, mk_716_3, mk_716_4, mk_719_m2, mk_74_at, mk_572_at, mk_715_at, mk_717_at, mk_718_at, mk_4_at, mk_5_at, mk_11_at, mk_42_at, mk_O_k, mk_O_0, mk_O_1, mk_O_2, mk_O_3, mk_L_k, mk_L_0, mk_L_1, mk_L_2, mk_L_3, mk_L_4, mk_L_5, mk_L_6, mk_L_7, mk_L_8, mk_L_9, mk_L_10, mk_X_k, mk_X_0, mk_X_1, mk_X_2, mk_X_3, mk_X_4, mk_75_k, mk_573_k, r_1_6, r_73_1, r_73_2, r_716_1, r_716_2, r_716_3, r_715, r_717, r_718, s_O0, s_O1, s_O2, s_O3, s_L0, s_L1, s_L2, s_L3, s_L4, s_L5, s_L6, s_L7, s_L8, s_L9, s_L10, s_X0, s_X1, s_X2, s_X3, s_X4, s_2_4, s_2_5, s_2_6, s_2_7, s_2_8, s_2_9, s_2_10, s_3_1, s_3_2, s_3_3, s_3_4, s_3_5, s_4]
theorem x_restore_b : f_X7_restore N 1 2 (mk w c m a) = some (-100000001, mk w c m a) := by
  unfold f_X7_restore
  simp only [to_bz, to_nz, to_cz, to_iz]
  simp (disch := omega) only [fun x lo hi μ => eq_bd (a_outside N x lo hi μ), bz_t, nz_t, cz_T, cz_t, iz_T, iz_F, iz_y, iz_n, not_true_eq_false, not_false_eq_true, true_and, and_true, w32_e, w64_e, mset_e, mset_n, up_e, up_n, if_y, if_n, Int.add_zero, mk_1_m2, mk_1_0, mk_1_1, mk_1_2, mk_1_3, mk_1_4, mk_1_5, mk_1_6, mk_2_m2, mk_2_0, mk_2_1, mk_2_2, mk_2_3, mk_2_4, mk_2_5, mk_2_6, mk_2_7, mk_2_8, mk_2_9, mk_2_10, mk_3_m2, mk_3_0, mk_3_1, mk_3_2, mk_3_3, mk_3_4, mk_3_5, mk_4_m2, mk_4_m1, mk_5_m2, mk_5_m1, mk_11_m2, mk_11_m1, mk_42_m2, mk_42_m1, mk_73_m2, mk_73_0, mk_73_1, mk_73_2, mk_74_m2, mk_74_m1, mk_572_m2, mk_572_m1, mk_715_m2, mk_715_m1, mk_717_m2, mk_717_m1, mk_718_m2, mk_718_m1, mk_716_m2, mk_716_0, mk_716_1, mk_716_2, mk_716_3, mk_716_4, mk_719_m2, mk_74_at, mk_572_at, mk_715_at, mk_717_at, mk_718_at, mk_4_at, mk_5_at, mk_11_at, mk_42_at, mk_O_k, mk_O_0, mk_O_1, mk_O_2, mk_O_3, mk_L_k, mk_L_0, mk_L_1, mk_L_2, mk_L_3, mk_L_4, mk_L_5, mk_L_6, mk_L_7, mk_L_8, mk_L_9, mk_L_10, mk_X_k, mk_X_0, mk_X_1, mk_X_2, mk_X_3, mk_X_4, mk_75_k, mk_573_k, r_1_6, r_73_1, r_73_2, r_716_1, r_716_2, r_716_3, r_715, r_717, r_718, s_O0, s_O1, s_O2, s_O3, s_L0, s_L1, s_L2, s_L3, s_L4, s_L5, s_L6, s_L7, s_L8, s_L9, s_L10, s_X0, s_X1, s_X2, s_X3, s_X4, s_2_4, s_2_5, s_2_6, s_2_7, s_2_8, s_2_9, s_2_10, s_3_1, s_3_2, s_3_3, s_3_4, s_3_5, s_4]
theorem x_restore_n (y : a 715 0 = 0) : f_X7_restore N 1 0 (mk w c m a) = some (-100000005, mk w c m a) := by
  unfold f_X7_restore
  simp only [to_bz, to_nz, to_cz, to_iz]
  simp (disch := omega) only [fun x lo hi μ => eq_bd (a_outside N x lo hi μ), y, bz_t, nz_t, cz_T, cz_t, iz_T, iz_F, iz_y, iz_n, not_true_eq_false, not_false_eq_true, true_and, and_true, w32_e, w64_e, mset_e, mset_n, up_e, up_n, if_y, if_n, Int.add_zero, mk_1_m2, mk_1_0, mk_1_1, mk_1_2, mk_1_3, mk_1_4, mk_1_5, mk_1_6, mk_2_m2, mk_2_0, mk_2_1, mk_2_2, mk_2_3, mk_2_4, mk_2_5, mk_2_6, mk_2_7, mk_2_8, mk_2_9, mk_2_10, mk_3_m2, mk_3_0, mk_3_1, mk_3_2, mk_3_3, mk_3_4, mk_3_5, mk_4_m2, mk_4_m1, mk_5_m2, mk_5_m1, mk_11_m2, mk_11_m1, mk_42_m2, mk_42_m1, mk_73_m2, mk_73_0, mk_73_1, mk_73_2, mk_74_m2, mk_74_m1, mk_572_m2, mk_572_m1, mk_715_m2, mk_715_m1, mk_717_m2, mk_717_m1, mk_718_m2, mk_718_m1, mk_716_m2, mk_716_0, mk_716_1, mk_716_2, mk_716_3, mk_716_4, mk_719_m2, mk_74_at, mk_572_at, mk_715_at, mk_717_at, mk_718_at, mk_4_at, mk_5_at, mk_11_at, mk_42_at, mk_O_k, mk_O_0, mk_O_1, mk_O_2, mk_O_3, mk_L_k, mk_L_0, mk_L_1, mk_L_2, mk_L_3, mk_L_4, mk_L_5, mk_L_6, mk_L_7, mk_L_8, mk_L_9, mk_L_10, mk_X_k, mk_X_0, mk_X_1, mk_X_2, mk_X_3, mk_X_4, mk_75_k, mk_573_k, r_1_6, r_73_1, r_73_2, r_716_1, r_716_2, r_716_3, r_715, r_717, r_718, s_O0, s_O1, s_O2, s_O3, s_L0, s_L1, s_L2, s_L3, s_L4, s_L5, s_L6, s_L7, s_L8, s_L9, s_L10, s_X0, s_X1, s_X2, s_X3, s_X4, s_2_4, s_2_5, s_2_6, s_2_7, s_2_8, s_2_9, s_2_10, s_3_1, s_3_2, s_3_3, s_3_4, s_3_5, s_4]
theorem x_restore (hN : 5000 ≤ N) (S : zST K w c a) (y : ¬ a 715 1 = 0) : f_X7_restore N 1 1 (mk w c m a) = some (c 9 2, mk (c 9) (uc c ((a 73 1 + a 73 2) % 7 + 1) w) m (apA a)) := by
  have h1 := S.2.1.1
  have h2 := S.2.1.2.1
  obtain ⟨q1, q3⟩ := S.2.2.1 1 (by omega)
  have q4 := q3 y
  rw [show (8 : Int) + 1 = 9 from rfl] at q4
  have gu := q4.1.1.hd; unfold HEAD at gu
  have p := eq_bd (b_prepare N w c m a hN h1 h2)
  have cb := eq_bd (b_cpSlotBack w (uc c ((a 73 1 + a 73 2) % 7 + 1) w) m a N hN (i := 1) (by omega))
  rw [show (8 : Int) + 1 = 9 from rfl, show (573 : Int) + 71 * 1 = 644 from rfl, uc_9 (c := c) (j := (a 73 1 + a 73 2) % 7 + 1) w (by omega)] at cb
  have f := eq_bd (b_finishAct N (c 9) (uc c ((a 73 1 + a 73 2) % 7 + 1) w) m a h1 h2 (c 9 2))
  rw [if_neg (show ¬ c 9 2 < 0 by omega)] at f
  unfold f_X7_restore
  simp only [to_bz, to_nz, to_cz, to_iz]
  simp (disch := omega) only [fun x lo hi μ => eq_bd (a_outside N x lo hi μ), p, cb, f, show (573 : Int) + 71 * 1 = 644 from rfl, bz_t, nz_t, cz_T, cz_t, iz_T, iz_F, iz_y, iz_n, not_true_eq_false, not_false_eq_true, true_and, and_true, w32_e, w64_e, mset_e, mset_n, up_e, up_n, if_y, if_n, Int.add_zero, mk_1_m2, mk_1_0, mk_1_1, mk_1_2, mk_1_3, mk_1_4, mk_1_5, mk_1_6, mk_2_m2, mk_2_0, mk_2_1, mk_2_2, mk_2_3, mk_2_4, mk_2_5, mk_2_6, mk_2_7, mk_2_8, mk_2_9, mk_2_10, mk_3_m2, mk_3_0, mk_3_1, mk_3_2, mk_3_3, mk_3_4, mk_3_5, mk_4_m2, mk_4_m1, mk_5_m2, mk_5_m1, mk_11_m2, mk_11_m1, mk_42_m2, mk_42_m1, mk_73_m2, mk_73_0, mk_73_1, mk_73_2, mk_74_m2, mk_74_m1, mk_572_m2, mk_572_m1, mk_715_m2, mk_715_m1, mk_717_m2, mk_717_m1, mk_718_m2, mk_718_m1, mk_716_m2, mk_716_0, mk_716_1, mk_716_2, mk_716_3, mk_716_4, mk_719_m2, mk_74_at, mk_572_at, mk_715_at, mk_717_at, mk_718_at, mk_4_at, mk_5_at, mk_11_at, mk_42_at, mk_O_k, mk_O_0, mk_O_1, mk_O_2, mk_O_3, mk_L_k, mk_L_0, mk_L_1, mk_L_2, mk_L_3, mk_L_4, mk_L_5, mk_L_6, mk_L_7, mk_L_8, mk_L_9, mk_L_10, mk_X_k, mk_X_0, mk_X_1, mk_X_2, mk_X_3, mk_X_4, mk_75_k, mk_573_k, r_1_6, r_73_1, r_73_2, r_716_1, r_716_2, r_716_3, r_715, r_717, r_718, s_O0, s_O1, s_O2, s_O3, s_L0, s_L1, s_L2, s_L3, s_L4, s_L5, s_L6, s_L7, s_L8, s_L9, s_L10, s_X0, s_X1, s_X2, s_X3, s_X4, s_2_4, s_2_5, s_2_6, s_2_7, s_2_8, s_2_9, s_2_10, s_3_1, s_3_2, s_3_3, s_3_4, s_3_5, s_4]
theorem x_type (S : zST K w c a) {L x : Int} (hL : a 716 1 = L) (h : L < 80) (hx : 0 ≤ x ∧ x ≤ 65535) : f_X7_type N 1 x (mk w c m a) = some (L + 1, mk w c m (mset (mset a 717 L x) 716 1 (L + 1))) := by
  have t := S.2.2.2.2.1
  unfold zT at t
  unfold f_X7_type f_X3_append
  simp only [to_bz, to_nz, to_cz, to_iz]
  simp (disch := omega) only [hL, bz_t, nz_t, cz_T, cz_t, iz_T, iz_F, iz_y, iz_n, not_true_eq_false, not_false_eq_true, true_and, and_true, w32_e, w64_e, mset_e, mset_n, up_e, up_n, if_y, if_n, Int.add_zero, mk_1_m2, mk_1_0, mk_1_1, mk_1_2, mk_1_3, mk_1_4, mk_1_5, mk_1_6, mk_2_m2, mk_2_0, mk_2_1, mk_2_2, mk_2_3, mk_2_4, mk_2_5, mk_2_6, mk_2_7, mk_2_8, mk_2_9, mk_2_10, mk_3_m2, mk_3_0, mk_3_1, mk_3_2, mk_3_3, mk_3_4, mk_3_5, mk_4_m2, mk_4_m1, mk_5_m2, mk_5_m1, mk_11_m2, mk_11_m1, mk_42_m2, mk_42_m1, mk_73_m2, mk_73_0, mk_73_1, mk_73_2, mk_74_m2, mk_74_m1, mk_572_m2, mk_572_m1, mk_715_m2, mk_715_m1, mk_717_m2, mk_717_m1, mk_718_m2, mk_718_m1, mk_716_m2, mk_716_0, mk_716_1, mk_716_2, mk_716_3, mk_716_4, mk_719_m2, mk_74_at, mk_572_at, mk_715_at, mk_717_at, mk_718_at, mk_4_at, mk_5_at, mk_11_at, mk_42_at, mk_O_k, mk_O_0, mk_O_1, mk_O_2, mk_O_3, mk_L_k, mk_L_0, mk_L_1, mk_L_2, mk_L_3, mk_L_4, mk_L_5, mk_L_6, mk_L_7, mk_L_8, mk_L_9, mk_L_10, mk_X_k, mk_X_0, mk_X_1, mk_X_2, mk_X_3, mk_X_4, mk_75_k, mk_573_k, r_1_6, r_73_1, r_73_2, r_716_1, r_716_2, r_716_3, r_715, r_717, r_718, s_O0, s_O1, s_O2, s_O3, s_L0, s_L1, s_L2, s_L3, s_L4, s_L5, s_L6, s_L7, s_L8, s_L9, s_L10, s_X0, s_X1, s_X2, s_X3, s_X4, s_2_4, s_2_5, s_2_6, s_2_7, s_2_8, s_2_9, s_2_10, s_3_1, s_3_2, s_3_3, s_3_4, s_3_5, s_4]
theorem x_clearText (S : zST K w c a) : f_X7_clearText N 1 (mk w c m a) = some (a 716 1, mk w c m (mset a 716 1 0)) := by
  have t := S.2.2.2.2.1
  unfold zT at t
  unfold f_X7_clearText
  simp only [to_bz, to_nz, to_cz, to_iz]
  simp (disch := omega) only [bz_t, nz_t, cz_T, cz_t, iz_T, iz_F, iz_y, iz_n, not_true_eq_false, not_false_eq_true, true_and, and_true, w32_e, w64_e, mset_e, mset_n, up_e, up_n, if_y, if_n, Int.add_zero, mk_1_m2, mk_1_0, mk_1_1, mk_1_2, mk_1_3, mk_1_4, mk_1_5, mk_1_6, mk_2_m2, mk_2_0, mk_2_1, mk_2_2, mk_2_3, mk_2_4, mk_2_5, mk_2_6, mk_2_7, mk_2_8, mk_2_9, mk_2_10, mk_3_m2, mk_3_0, mk_3_1, mk_3_2, mk_3_3, mk_3_4, mk_3_5, mk_4_m2, mk_4_m1, mk_5_m2, mk_5_m1, mk_11_m2, mk_11_m1, mk_42_m2, mk_42_m1, mk_73_m2, mk_73_0, mk_73_1, mk_73_2, mk_74_m2, mk_74_m1, mk_572_m2, mk_572_m1, mk_715_m2, mk_715_m1, mk_717_m2, mk_717_m1, mk_718_m2, mk_718_m1, mk_716_m2, mk_716_0, mk_716_1, mk_716_2, mk_716_3, mk_716_4, mk_719_m2, mk_74_at, mk_572_at, mk_715_at, mk_717_at, mk_718_at, mk_4_at, mk_5_at, mk_11_at, mk_42_at, mk_O_k, mk_O_0, mk_O_1, mk_O_2, mk_O_3, mk_L_k, mk_L_0, mk_L_1, mk_L_2, mk_L_3, mk_L_4, mk_L_5, mk_L_6, mk_L_7, mk_L_8, mk_L_9, mk_L_10, mk_X_k, mk_X_0, mk_X_1, mk_X_2, mk_X_3, mk_X_4, mk_75_k, mk_573_k, r_1_6, r_73_1, r_73_2, r_716_1, r_716_2, r_716_3, r_715, r_717, r_718, s_O0, s_O1, s_O2, s_O3, s_L0, s_L1, s_L2, s_L3, s_L4, s_L5, s_L6, s_L7, s_L8, s_L9, s_L10, s_X0, s_X1, s_X2, s_X3, s_X4, s_2_4, s_2_5, s_2_6, s_2_7, s_2_8, s_2_9, s_2_10, s_3_1, s_3_2, s_3_3, s_3_4, s_3_5, s_4]
end ACTX
