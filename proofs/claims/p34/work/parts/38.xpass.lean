/-! x's loops of pass -/
section XPASS
variable (N : Nat) {w : Int → Int} {v : Int → Int} (c : Int → Int → Int) (m : Int → Int) (a : Mm) {K : Int}
theorem A_lot {l : Int} (h : 0 ≤ l ∧ l < v 2) (h2 : v 2 ≤ 30) : f_X6_findLot N 2 l (mk v c m a) = some (12 + l, mk v c m a) := by
  unfold f_X6_findLot
  simp only [to_bz, to_nz, to_cz, to_iz]
  simp (disch := omega) only [bz_t, nz_t, cz_T, cz_t, iz_T, iz_F, iz_y, iz_n, not_true_eq_false, not_false_eq_true, true_and, and_true, w32_e, w64_e, mset_e, mset_n, up_e, up_n, if_y, if_n, Int.add_zero, mk_1_m2, mk_1_0, mk_1_1, mk_1_2, mk_1_3, mk_1_4, mk_1_5, mk_1_6, mk_2_m2, mk_2_0, mk_2_1, mk_2_2, mk_2_3, mk_2_4, mk_2_5, mk_2_6, mk_2_7, mk_2_8, mk_2_9, mk_2_10, mk_3_m2, mk_3_0, mk_3_1, mk_3_2, mk_3_3, mk_3_4, mk_3_5, mk_4_m2, mk_4_m1, mk_5_m2, mk_5_m1, mk_11_m2, mk_11_m1, mk_42_m2, mk_42_m1, mk_73_m2, mk_73_0, mk_73_1, mk_73_2, mk_74_m2, mk_74_m1, mk_572_m2, mk_572_m1, mk_715_m2, mk_715_m1, mk_717_m2, mk_717_m1, mk_718_m2, mk_718_m1, mk_716_m2, mk_716_0, mk_716_1, mk_716_2, mk_716_3, mk_716_4, mk_719_m2, mk_74_at, mk_572_at, mk_715_at, mk_717_at, mk_718_at, mk_4_at, mk_5_at, mk_11_at, mk_42_at, mk_O_k, mk_O_0, mk_O_1, mk_O_2, mk_O_3, mk_L_k, mk_L_0, mk_L_1, mk_L_2, mk_L_3, mk_L_4, mk_L_5, mk_L_6, mk_L_7, mk_L_8, mk_L_9, mk_L_10, mk_X_k, mk_X_0, mk_X_1, mk_X_2, mk_X_3, mk_X_4, mk_75_k, mk_573_k, r_1_6, r_73_1, r_73_2, r_716_1, r_716_2, r_716_3, r_715, r_717, r_718, s_O0, s_O1, s_O2, s_O3, s_L0, s_L1, s_L2, s_L3, s_L4, s_L5, s_L6, s_L7, s_L8, s_L9, s_L10, s_X0, s_X1, s_X2, s_X3, s_X4, s_2_4, s_2_5, s_2_6, s_2_7, s_2_8, s_2_9, s_2_10, s_3_1, s_3_2, s_3_3, s_3_4, s_3_5, s_4]
set_option maxHeartbeats 8000000 in
theorem l_lose (I : IA K w) {D S0 : Int} (hS : 0 ≤ S0 ∧ S0 ≤ 600000000) {h p : Int → Int} (hh : ∀ e, h e ≤ D) {cnt : Nat} (hc : w 3 = cnt) (n : Nat) : ∀ k : Nat, k ≤ cnt → cnt < n + k →
    f_X6_loseExports_b4 N n 2 (SS w (th h D k) p - S0) k (mk (CF w D (th h D k) p) c m a) = some (SS w (th h D cnt) p - S0, mk (CF w D (th h D cnt) p) c m a) := by
  have g := I.hd; unfold HEAD at g
  induction n with
  | zero => intro k h1 h2; omega
  | succ n ih =>
    intro k h1 h2
    obtain ⟨eh, e0, e4, e10, c7, c8, cl0, clj, x4, xj, x0, ob⟩ := CF_see I D (th h D k) p
    have sb := SS_b I (th h D k) p
    have u3 := eh 3 (by omega)
    rw [f_X6_loseExports_b4]
    by_cases e : k = cnt
    · subst e
      generalize CF w D (th h D k) p = u at *
      simp only [to_bz, to_nz, to_cz, to_iz]
      simp (disch := omega) only [u3, bz_t, nz_t, cz_T, cz_t, iz_T, iz_F, iz_y, iz_n, not_true_eq_false, not_false_eq_true, true_and, and_true, w32_e, w64_e, mset_e, mset_n, up_e, up_n, if_y, if_n, Int.add_zero, mk_1_m2, mk_1_0, mk_1_1, mk_1_2, mk_1_3, mk_1_4, mk_1_5, mk_1_6, mk_2_m2, mk_2_0, mk_2_1, mk_2_2, mk_2_3, mk_2_4, mk_2_5, mk_2_6, mk_2_7, mk_2_8, mk_2_9, mk_2_10, mk_3_m2, mk_3_0, mk_3_1, mk_3_2, mk_3_3, mk_3_4, mk_3_5, mk_4_m2, mk_4_m1, mk_5_m2, mk_5_m1, mk_11_m2, mk_11_m1, mk_42_m2, mk_42_m1, mk_73_m2, mk_73_0, mk_73_1, mk_73_2, mk_74_m2, mk_74_m1, mk_572_m2, mk_572_m1, mk_715_m2, mk_715_m1, mk_717_m2, mk_717_m1, mk_718_m2, mk_718_m1, mk_716_m2, mk_716_0, mk_716_1, mk_716_2, mk_716_3, mk_716_4, mk_719_m2, mk_74_at, mk_572_at, mk_715_at, mk_717_at, mk_718_at, mk_4_at, mk_5_at, mk_11_at, mk_42_at, mk_O_k, mk_O_0, mk_O_1, mk_O_2, mk_O_3, mk_L_k, mk_L_0, mk_L_1, mk_L_2, mk_L_3, mk_L_4, mk_L_5, mk_L_6, mk_L_7, mk_L_8, mk_L_9, mk_L_10, mk_X_k, mk_X_0, mk_X_1, mk_X_2, mk_X_3, mk_X_4, mk_75_k, mk_573_k, r_1_6, r_73_1, r_73_2, r_716_1, r_716_2, r_716_3, r_715, r_717, r_718, s_O0, s_O1, s_O2, s_O3, s_L0, s_L1, s_L2, s_L3, s_L4, s_L5, s_L6, s_L7, s_L8, s_L9, s_L10, s_X0, s_X1, s_X2, s_X3, s_X4, s_2_4, s_2_5, s_2_6, s_2_7, s_2_8, s_2_9, s_2_10, s_3_1, s_3_2, s_3_3, s_3_4, s_3_5, s_4]
    · have he : 0 ≤ (k : Int) ∧ (k : Int) < w 3 := by omega
      have st := CF_x I (D := D) (e := (k : Int)) (h := th h D k) (p := p) he (by rw [th_at]; exact hh k)
      have r := ih (k + 1) (by omega) (by omega)
      rw [← th_s] at st
      have x := I.xp he; unfold EXP at x
      have lo := I.lot (l := w (370 + 5 * (k : Int))) (by omega); unfold LOT at lo
      have p8 := PP_b I (th h D k) p (w (370 + 5 * (k : Int)))
      have u1 := eh 1 (by omega)
      have u2 := eh 2 (by omega)
      have y0 := x0 k (by omega)
      have y2 := xj k 2 (by omega) (by omega)
      have y3 := xj k 3 (by omega) (by omega)
      have y4 := x4 k (by omega)
      have o1 := ob (w (40 + 11 * w (370 + 5 * (k : Int)))) (by omega)
      have l0 := cl0 (w (370 + 5 * (k : Int))) (by omega)
      have l8 := c8 (w (370 + 5 * (k : Int))) (by omega)
      by_cases z : XX w (th h D k) k = 0 ∧ w (370 + 5 * (k : Int) + 3) < D
      · rw [if_pos z] at st
        obtain ⟨st1, st2⟩ := st
        rw [nc1, ← st1, st2, show SS w (th h D k) p + w (370 + 5 * (k : Int) + 2) - S0 = SS w (th h D k) p - S0 + w (370 + 5 * (k : Int) + 2) from by omega] at r
        clear st1 st2 ih
        generalize CF w D (th h D k) p = u at *
        have f1 := A_lot N (v := u) c m a (l := w (370 + 5 * (k : Int))) (by omega) (by omega)
        have f2 := eq_bd (a_endsBeforeX N (v := u) c m a (e := (k : Int)) (by omega) D)
        rw [y4, y3, if_pos z] at f2
        have nn : ∀ j, j ≠ 370 + 5 * (k : Int) + 4 → up u (370 + 5 * (k : Int) + 4) 2 j = u j := fun j hj => up_n hj
        have f3 := A_callDuty N (v := up u (370 + 5 * (k : Int) + 4) 2) c m a (l := w (370 + 5 * (k : Int))) (d := w (370 + 5 * (k : Int) + 2)) (by omega) (by rw [nn _ (by omega)]; omega) (by rw [nn _ (by omega), nn _ (by omega), l0]; omega)
          (by rw [nn (40 + 11 * w (370 + 5 * (k : Int))) (by omega), l0, nn _ (by omega)]; omega) (by rw [nn (40 + 11 * w (370 + 5 * (k : Int))) (by omega), l0, nn _ (by omega)]; omega) (by rw [nn (40 + 11 * w (370 + 5 * (k : Int))) (by omega), l0, nn _ (by omega)]; omega) (by rw [nn _ (by omega)]; omega) (by omega)
        have f4 : cl (up u (370 + 5 * (k : Int) + 4) 2) (w (370 + 5 * (k : Int))) (w (370 + 5 * (k : Int) + 2)) (370 + 5 * (k : Int) + 2) = w (370 + 5 * (k : Int) + 2) := by
          rw [cl_lot (by omega) (by rw [nn _ (by omega), l0]; omega) (by omega), nn _ (by omega), y2]
        simp only [to_bz, to_nz, to_cz, to_iz]
        simp (disch := omega) only [u3, e0, y0, y2, f1, f2, f3, f4, bz_t, nz_t, cz_T, cz_t, iz_T, iz_F, iz_y, iz_n, not_true_eq_false, not_false_eq_true, true_and, and_true, w32_e, w64_e, mset_e, mset_n, up_e, up_n, if_y, if_n, Int.add_zero, mk_1_m2, mk_1_0, mk_1_1, mk_1_2, mk_1_3, mk_1_4, mk_1_5, mk_1_6, mk_2_m2, mk_2_0, mk_2_1, mk_2_2, mk_2_3, mk_2_4, mk_2_5, mk_2_6, mk_2_7, mk_2_8, mk_2_9, mk_2_10, mk_3_m2, mk_3_0, mk_3_1, mk_3_2, mk_3_3, mk_3_4, mk_3_5, mk_4_m2, mk_4_m1, mk_5_m2, mk_5_m1, mk_11_m2, mk_11_m1, mk_42_m2, mk_42_m1, mk_73_m2, mk_73_0, mk_73_1, mk_73_2, mk_74_m2, mk_74_m1, mk_572_m2, mk_572_m1, mk_715_m2, mk_715_m1, mk_717_m2, mk_717_m1, mk_718_m2, mk_718_m1, mk_716_m2, mk_716_0, mk_716_1, mk_716_2, mk_716_3, mk_716_4, mk_719_m2, mk_74_at, mk_572_at, mk_715_at, mk_717_at, mk_718_at, mk_4_at, mk_5_at, mk_11_at, mk_42_at, mk_O_k, mk_O_0, mk_O_1, mk_O_2, mk_O_3, mk_L_k, mk_L_0, mk_L_1, mk_L_2, mk_L_3, mk_L_4, mk_L_5, mk_L_6, mk_L_7, mk_L_8, mk_L_9, mk_L_10, mk_X_k, mk_X_0, mk_X_1, mk_X_2, mk_X_3, mk_X_4, mk_75_k, mk_573_k, r_1_6, r_73_1, r_73_2, r_716_1, r_716_2, r_716_3, r_715, r_717, r_718, s_O0, s_O1, s_O2, s_O3, s_L0, s_L1, s_L2, s_L3, s_L4, s_L5, s_L6, s_L7, s_L8, s_L9, s_L10, s_X0, s_X1, s_X2, s_X3, s_X4, s_2_4, s_2_5, s_2_6, s_2_7, s_2_8, s_2_9, s_2_10, s_3_1, s_3_2, s_3_3, s_3_4, s_3_5, s_4]
        exact r
      · rw [if_neg z] at st
        obtain ⟨st1, st2⟩ := st
        rw [nc1, st1, st2] at r
        clear st1 st2 ih
        generalize CF w D (th h D k) p = u at *
        have f1 := A_lot N (v := u) c m a (l := w (370 + 5 * (k : Int))) (by omega) (by omega)
        have f2 := eq_bd (a_endsBeforeX N (v := u) c m a (e := (k : Int)) (by omega) D)
        rw [y4, y3, if_neg z] at f2
        simp only [to_bz, to_nz, to_cz, to_iz]
        simp (disch := omega) only [u3, e0, y0, f1, f2, bz_t, nz_t, cz_T, cz_t, iz_T, iz_F, iz_y, iz_n, not_true_eq_false, not_false_eq_true, true_and, and_true, w32_e, w64_e, mset_e, mset_n, up_e, up_n, if_y, if_n, Int.add_zero, mk_1_m2, mk_1_0, mk_1_1, mk_1_2, mk_1_3, mk_1_4, mk_1_5, mk_1_6, mk_2_m2, mk_2_0, mk_2_1, mk_2_2, mk_2_3, mk_2_4, mk_2_5, mk_2_6, mk_2_7, mk_2_8, mk_2_9, mk_2_10, mk_3_m2, mk_3_0, mk_3_1, mk_3_2, mk_3_3, mk_3_4, mk_3_5, mk_4_m2, mk_4_m1, mk_5_m2, mk_5_m1, mk_11_m2, mk_11_m1, mk_42_m2, mk_42_m1, mk_73_m2, mk_73_0, mk_73_1, mk_73_2, mk_74_m2, mk_74_m1, mk_572_m2, mk_572_m1, mk_715_m2, mk_715_m1, mk_717_m2, mk_717_m1, mk_718_m2, mk_718_m1, mk_716_m2, mk_716_0, mk_716_1, mk_716_2, mk_716_3, mk_716_4, mk_719_m2, mk_74_at, mk_572_at, mk_715_at, mk_717_at, mk_718_at, mk_4_at, mk_5_at, mk_11_at, mk_42_at, mk_O_k, mk_O_0, mk_O_1, mk_O_2, mk_O_3, mk_L_k, mk_L_0, mk_L_1, mk_L_2, mk_L_3, mk_L_4, mk_L_5, mk_L_6, mk_L_7, mk_L_8, mk_L_9, mk_L_10, mk_X_k, mk_X_0, mk_X_1, mk_X_2, mk_X_3, mk_X_4, mk_75_k, mk_573_k, r_1_6, r_73_1, r_73_2, r_716_1, r_716_2, r_716_3, r_715, r_717, r_718, s_O0, s_O1, s_O2, s_O3, s_L0, s_L1, s_L2, s_L3, s_L4, s_L5, s_L6, s_L7, s_L8, s_L9, s_L10, s_X0, s_X1, s_X2, s_X3, s_X4, s_2_4, s_2_5, s_2_6, s_2_7, s_2_8, s_2_9, s_2_10, s_3_1, s_3_2, s_3_3, s_3_4, s_3_5, s_4]
        exact r
theorem A_endsL {l d : Int} (h : 0 ≤ l ∧ l < 30) : f_X2_endsBefore N (12 + l) d (mk v c m a) = some (if 0 < un v l ∧ v (40 + 11 * l + 5) < d then 1 else 0, mk v c m a) := by
  unfold f_X2_endsBefore un
  by_cases q1 : v (40 + 11 * l + 2) - v (40 + 11 * l + 7) ≤ 0
  · simp only [to_bz, to_nz, to_cz, to_iz]
    simp (disch := omega) only [bz_t, nz_t, cz_T, cz_t, iz_T, iz_F, iz_y, iz_n, not_true_eq_false, not_false_eq_true, true_and, and_true, w32_e, w64_e, mset_e, mset_n, up_e, up_n, if_y, if_n, Int.add_zero, mk_1_m2, mk_1_0, mk_1_1, mk_1_2, mk_1_3, mk_1_4, mk_1_5, mk_1_6, mk_2_m2, mk_2_0, mk_2_1, mk_2_2, mk_2_3, mk_2_4, mk_2_5, mk_2_6, mk_2_7, mk_2_8, mk_2_9, mk_2_10, mk_3_m2, mk_3_0, mk_3_1, mk_3_2, mk_3_3, mk_3_4, mk_3_5, mk_4_m2, mk_4_m1, mk_5_m2, mk_5_m1, mk_11_m2, mk_11_m1, mk_42_m2, mk_42_m1, mk_73_m2, mk_73_0, mk_73_1, mk_73_2, mk_74_m2, mk_74_m1, mk_572_m2, mk_572_m1, mk_715_m2, mk_715_m1, mk_717_m2, mk_717_m1, mk_718_m2, mk_718_m1, mk_716_m2, mk_716_0, mk_716_1, mk_716_2, mk_716_3, mk_716_4, mk_719_m2, mk_74_at, mk_572_at, mk_715_at, mk_717_at, mk_718_at, mk_4_at, mk_5_at, mk_11_at, mk_42_at, mk_O_k, mk_O_0, mk_O_1, mk_O_2, mk_O_3, mk_L_k, mk_L_0, mk_L_1, mk_L_2, mk_L_3, mk_L_4, mk_L_5, mk_L_6, mk_L_7, mk_L_8, mk_L_9, mk_L_10, mk_X_k, mk_X_0, mk_X_1, mk_X_2, mk_X_3, mk_X_4, mk_75_k, mk_573_k, r_1_6, r_73_1, r_73_2, r_716_1, r_716_2, r_716_3, r_715, r_717, r_718, s_O0, s_O1, s_O2, s_O3, s_L0, s_L1, s_L2, s_L3, s_L4, s_L5, s_L6, s_L7, s_L8, s_L9, s_L10, s_X0, s_X1, s_X2, s_X3, s_X4, s_2_4, s_2_5, s_2_6, s_2_7, s_2_8, s_2_9, s_2_10, s_3_1, s_3_2, s_3_3, s_3_4, s_3_5, s_4]
  · by_cases q2 : d ≤ v (40 + 11 * l + 5)
    · simp only [to_bz, to_nz, to_cz, to_iz]
      simp (disch := omega) only [bz_t, nz_t, cz_T, cz_t, iz_T, iz_F, iz_y, iz_n, not_true_eq_false, not_false_eq_true, true_and, and_true, w32_e, w64_e, mset_e, mset_n, up_e, up_n, if_y, if_n, Int.add_zero, mk_1_m2, mk_1_0, mk_1_1, mk_1_2, mk_1_3, mk_1_4, mk_1_5, mk_1_6, mk_2_m2, mk_2_0, mk_2_1, mk_2_2, mk_2_3, mk_2_4, mk_2_5, mk_2_6, mk_2_7, mk_2_8, mk_2_9, mk_2_10, mk_3_m2, mk_3_0, mk_3_1, mk_3_2, mk_3_3, mk_3_4, mk_3_5, mk_4_m2, mk_4_m1, mk_5_m2, mk_5_m1, mk_11_m2, mk_11_m1, mk_42_m2, mk_42_m1, mk_73_m2, mk_73_0, mk_73_1, mk_73_2, mk_74_m2, mk_74_m1, mk_572_m2, mk_572_m1, mk_715_m2, mk_715_m1, mk_717_m2, mk_717_m1, mk_718_m2, mk_718_m1, mk_716_m2, mk_716_0, mk_716_1, mk_716_2, mk_716_3, mk_716_4, mk_719_m2, mk_74_at, mk_572_at, mk_715_at, mk_717_at, mk_718_at, mk_4_at, mk_5_at, mk_11_at, mk_42_at, mk_O_k, mk_O_0, mk_O_1, mk_O_2, mk_O_3, mk_L_k, mk_L_0, mk_L_1, mk_L_2, mk_L_3, mk_L_4, mk_L_5, mk_L_6, mk_L_7, mk_L_8, mk_L_9, mk_L_10, mk_X_k, mk_X_0, mk_X_1, mk_X_2, mk_X_3, mk_X_4, mk_75_k, mk_573_k, r_1_6, r_73_1, r_73_2, r_716_1, r_716_2, r_716_3, r_715, r_717, r_718, s_O0, s_O1, s_O2, s_O3, s_L0, s_L1, s_L2, s_L3, s_L4, s_L5, s_L6, s_L7, s_L8, s_L9, s_L10, s_X0, s_X1, s_X2, s_X3, s_X4, s_2_4, s_2_5, s_2_6, s_2_7, s_2_8, s_2_9, s_2_10, s_3_1, s_3_2, s_3_3, s_3_4, s_3_5, s_4]
    · simp only [to_bz, to_nz, to_cz, to_iz]
      simp (disch := omega) only [bz_t, nz_t, cz_T, cz_t, iz_T, iz_F, iz_y, iz_n, not_true_eq_false, not_false_eq_true, true_and, and_true, w32_e, w64_e, mset_e, mset_n, up_e, up_n, if_y, if_n, Int.add_zero, mk_1_m2, mk_1_0, mk_1_1, mk_1_2, mk_1_3, mk_1_4, mk_1_5, mk_1_6, mk_2_m2, mk_2_0, mk_2_1, mk_2_2, mk_2_3, mk_2_4, mk_2_5, mk_2_6, mk_2_7, mk_2_8, mk_2_9, mk_2_10, mk_3_m2, mk_3_0, mk_3_1, mk_3_2, mk_3_3, mk_3_4, mk_3_5, mk_4_m2, mk_4_m1, mk_5_m2, mk_5_m1, mk_11_m2, mk_11_m1, mk_42_m2, mk_42_m1, mk_73_m2, mk_73_0, mk_73_1, mk_73_2, mk_74_m2, mk_74_m1, mk_572_m2, mk_572_m1, mk_715_m2, mk_715_m1, mk_717_m2, mk_717_m1, mk_718_m2, mk_718_m1, mk_716_m2, mk_716_0, mk_716_1, mk_716_2, mk_716_3, mk_716_4, mk_719_m2, mk_74_at, mk_572_at, mk_715_at, mk_717_at, mk_718_at, mk_4_at, mk_5_at, mk_11_at, mk_42_at, mk_O_k, mk_O_0, mk_O_1, mk_O_2, mk_O_3, mk_L_k, mk_L_0, mk_L_1, mk_L_2, mk_L_3, mk_L_4, mk_L_5, mk_L_6, mk_L_7, mk_L_8, mk_L_9, mk_L_10, mk_X_k, mk_X_0, mk_X_1, mk_X_2, mk_X_3, mk_X_4, mk_75_k, mk_573_k, r_1_6, r_73_1, r_73_2, r_716_1, r_716_2, r_716_3, r_715, r_717, r_718, s_O0, s_O1, s_O2, s_O3, s_L0, s_L1, s_L2, s_L3, s_L4, s_L5, s_L6, s_L7, s_L8, s_L9, s_L10, s_X0, s_X1, s_X2, s_X3, s_X4, s_2_4, s_2_5, s_2_6, s_2_7, s_2_8, s_2_9, s_2_10, s_3_1, s_3_2, s_3_3, s_3_4, s_3_5, s_4]
set_option maxHeartbeats 8000000 in
theorem l_seize (I : IA K w) {D S0 : Int} (hS : 0 ≤ S0 ∧ S0 ≤ 600000000) {h p : Int → Int} (hh : ∀ e, p e ≤ D) {cnt : Nat} (hc : w 2 = cnt) (n : Nat) : ∀ k : Nat, k ≤ cnt → cnt < n + k →
    f_X6_seizeLots_b4 N n 2 (SS w h (th p D k) - S0) k (mk (CF w D h (th p D k)) c m a) = some (SS w h (th p D cnt) - S0, mk (CF w D h (th p D cnt)) c m a) := by
  have g := I.hd; unfold HEAD at g
  induction n with
  | zero => intro k h1 h2; omega
  | succ n ih =>
    intro k h1 h2
    obtain ⟨eh, e0, e4, e10, c7, c8, cl0, clj, x4, xj, x0, ob⟩ := CF_see I D h (th p D k)
    have sb := SS_b I h (th p D k)
    have u2 := eh 2 (by omega)
    rw [f_X6_seizeLots_b4]
    by_cases e : k = cnt
    · subst e
      generalize CF w D h (th p D k) = u at *
      simp only [to_bz, to_nz, to_cz, to_iz]
      simp (disch := omega) only [u2, bz_t, nz_t, cz_T, cz_t, iz_T, iz_F, iz_y, iz_n, not_true_eq_false, not_false_eq_true, true_and, and_true, w32_e, w64_e, mset_e, mset_n, up_e, up_n, if_y, if_n, Int.add_zero, mk_1_m2, mk_1_0, mk_1_1, mk_1_2, mk_1_3, mk_1_4, mk_1_5, mk_1_6, mk_2_m2, mk_2_0, mk_2_1, mk_2_2, mk_2_3, mk_2_4, mk_2_5, mk_2_6, mk_2_7, mk_2_8, mk_2_9, mk_2_10, mk_3_m2, mk_3_0, mk_3_1, mk_3_2, mk_3_3, mk_3_4, mk_3_5, mk_4_m2, mk_4_m1, mk_5_m2, mk_5_m1, mk_11_m2, mk_11_m1, mk_42_m2, mk_42_m1, mk_73_m2, mk_73_0, mk_73_1, mk_73_2, mk_74_m2, mk_74_m1, mk_572_m2, mk_572_m1, mk_715_m2, mk_715_m1, mk_717_m2, mk_717_m1, mk_718_m2, mk_718_m1, mk_716_m2, mk_716_0, mk_716_1, mk_716_2, mk_716_3, mk_716_4, mk_719_m2, mk_74_at, mk_572_at, mk_715_at, mk_717_at, mk_718_at, mk_4_at, mk_5_at, mk_11_at, mk_42_at, mk_O_k, mk_O_0, mk_O_1, mk_O_2, mk_O_3, mk_L_k, mk_L_0, mk_L_1, mk_L_2, mk_L_3, mk_L_4, mk_L_5, mk_L_6, mk_L_7, mk_L_8, mk_L_9, mk_L_10, mk_X_k, mk_X_0, mk_X_1, mk_X_2, mk_X_3, mk_X_4, mk_75_k, mk_573_k, r_1_6, r_73_1, r_73_2, r_716_1, r_716_2, r_716_3, r_715, r_717, r_718, s_O0, s_O1, s_O2, s_O3, s_L0, s_L1, s_L2, s_L3, s_L4, s_L5, s_L6, s_L7, s_L8, s_L9, s_L10, s_X0, s_X1, s_X2, s_X3, s_X4, s_2_4, s_2_5, s_2_6, s_2_7, s_2_8, s_2_9, s_2_10, s_3_1, s_3_2, s_3_3, s_3_4, s_3_5, s_4]
    · have he : 0 ≤ (k : Int) ∧ (k : Int) < w 2 := by omega
      have st := CF_l I (D := D) (l := (k : Int)) (h := h) (p := th p D k) he (by rw [th_at]; exact hh k)
      have r := ih (k + 1) (by omega) (by omega)
      rw [← th_s] at st
      have lo := I.lot he; unfold LOT at lo
      have p8 := PP_b I h (th p D k) (k : Int)
      have nb := NN_b I (th p D k)
      have u1 := eh 1 (by omega)
      have o1 := ob (w (40 + 11 * (k : Int))) (by omega)
      have l0 := cl0 k (by omega)
      have l8 := c8 k (by omega)
      have l7 := c7 k (by omega)
      have l2 := clj k 2 (by omega) (by omega)
      have l5 := clj k 5 (by omega) (by omega)
      have l6 := clj k 6 (by omega) (by omega)
      by_cases z : 0 < w (40 + 11 * (k : Int) + 2) - LL w (th p D k) k ∧ w (40 + 11 * (k : Int) + 5) < D
      · rw [if_pos z] at st
        obtain ⟨st1, st2, st3⟩ := st
        have rb := rs_b I he
        have rt : rs w k ≤ 10000000 := by
          have z := dt_b (w := w) (l := k) (t := w (40 + 11 * (k : Int) + 7)) (q := un w k) (by omega) (by omega) (by omega) (by unfold un; omega) (by unfold un; omega)
          rw [dt_all w k (by omega)] at z
          omega
        rw [nc1, ← st1, st2, show SS w h (th p D k) + rs w k - S0 = SS w h (th p D k) - S0 + rs w k from by omega] at r
        rw [st3] at l7 z
        clear st1 st2 st3 ih
        generalize CF w D h (th p D k) = u at *
        have f2 := A_endsL N (v := u) c m a (l := (k : Int)) (d := D) (by omega)
        unfold un at f2
        rw [l2, l7, l5, if_pos z] at f2
        have f1 := A_next N (v := u) c m a (l := (k : Int)) (t := 0) (q := w (40 + 11 * (k : Int) + 2) - w (40 + 11 * (k : Int) + 7)) (by omega) (by omega) (by omega) (by omega) (by omega) (by omega) (by unfold un; omega)
        rw [Int.add_zero, l7, dt_up l6 l2, show dt w k (w (40 + 11 * (k : Int) + 7)) (w (40 + 11 * (k : Int) + 2) - w (40 + 11 * (k : Int) + 7)) = rs w k from dt_all w k (by omega)] at f1
        have nn : ∀ j, j ≠ 40 + 11 * (k : Int) + 7 → j ≠ 4 → up (up u (40 + 11 * (k : Int) + 7) (w (40 + 11 * (k : Int) + 2))) 4 (w 4 + NN w (th p D k) + 1) j = u j := fun j hj h4 => by rw [up_n h4, up_n hj]
        have f3 := A_callDuty N (v := up (up u (40 + 11 * (k : Int) + 7) (w (40 + 11 * (k : Int) + 2))) 4 (w 4 + NN w (th p D k) + 1)) c m a (l := k) (d := rs w k) (by omega) (by rw [nn _ (by omega) (by omega)]; omega) (by rw [nn _ (by omega) (by omega), nn _ (by omega) (by omega), l0]; omega)
          (by rw [nn (40 + 11 * (k : Int)) (by omega) (by omega), l0, nn _ (by omega) (by omega)]; omega) (by rw [nn (40 + 11 * (k : Int)) (by omega) (by omega), l0, nn _ (by omega) (by omega)]; omega) (by rw [nn (40 + 11 * (k : Int)) (by omega) (by omega), l0, nn _ (by omega) (by omega)]; omega) (by rw [nn _ (by omega) (by omega)]; omega) (by omega)
        simp only [to_bz, to_nz, to_cz, to_iz]
        simp (disch := omega) only [u2, e0, l2, l7, e4, f1, f2, f3, Int.sub_zero, bz_t, nz_t, cz_T, cz_t, iz_T, iz_F, iz_y, iz_n, not_true_eq_false, not_false_eq_true, true_and, and_true, w32_e, w64_e, mset_e, mset_n, up_e, up_n, if_y, if_n, Int.add_zero, mk_1_m2, mk_1_0, mk_1_1, mk_1_2, mk_1_3, mk_1_4, mk_1_5, mk_1_6, mk_2_m2, mk_2_0, mk_2_1, mk_2_2, mk_2_3, mk_2_4, mk_2_5, mk_2_6, mk_2_7, mk_2_8, mk_2_9, mk_2_10, mk_3_m2, mk_3_0, mk_3_1, mk_3_2, mk_3_3, mk_3_4, mk_3_5, mk_4_m2, mk_4_m1, mk_5_m2, mk_5_m1, mk_11_m2, mk_11_m1, mk_42_m2, mk_42_m1, mk_73_m2, mk_73_0, mk_73_1, mk_73_2, mk_74_m2, mk_74_m1, mk_572_m2, mk_572_m1, mk_715_m2, mk_715_m1, mk_717_m2, mk_717_m1, mk_718_m2, mk_718_m1, mk_716_m2, mk_716_0, mk_716_1, mk_716_2, mk_716_3, mk_716_4, mk_719_m2, mk_74_at, mk_572_at, mk_715_at, mk_717_at, mk_718_at, mk_4_at, mk_5_at, mk_11_at, mk_42_at, mk_O_k, mk_O_0, mk_O_1, mk_O_2, mk_O_3, mk_L_k, mk_L_0, mk_L_1, mk_L_2, mk_L_3, mk_L_4, mk_L_5, mk_L_6, mk_L_7, mk_L_8, mk_L_9, mk_L_10, mk_X_k, mk_X_0, mk_X_1, mk_X_2, mk_X_3, mk_X_4, mk_75_k, mk_573_k, r_1_6, r_73_1, r_73_2, r_716_1, r_716_2, r_716_3, r_715, r_717, r_718, s_O0, s_O1, s_O2, s_O3, s_L0, s_L1, s_L2, s_L3, s_L4, s_L5, s_L6, s_L7, s_L8, s_L9, s_L10, s_X0, s_X1, s_X2, s_X3, s_X4, s_2_4, s_2_5, s_2_6, s_2_7, s_2_8, s_2_9, s_2_10, s_3_1, s_3_2, s_3_3, s_3_4, s_3_5, s_4]
        exact r
      · rw [if_neg z] at st
        obtain ⟨st1, st2⟩ := st
        rw [nc1, st1, st2] at r
        clear st1 st2 ih
        generalize CF w D h (th p D k) = u at *
        have f2 := A_endsL N (v := u) c m a (l := (k : Int)) (d := D) (by omega)
        unfold un at f2
        rw [l2, l7, l5, if_neg z] at f2
        simp only [to_bz, to_nz, to_cz, to_iz]
        simp (disch := omega) only [u2, e0, f2, bz_t, nz_t, cz_T, cz_t, iz_T, iz_F, iz_y, iz_n, not_true_eq_false, not_false_eq_true, true_and, and_true, w32_e, w64_e, mset_e, mset_n, up_e, up_n, if_y, if_n, Int.add_zero, mk_1_m2, mk_1_0, mk_1_1, mk_1_2, mk_1_3, mk_1_4, mk_1_5, mk_1_6, mk_2_m2, mk_2_0, mk_2_1, mk_2_2, mk_2_3, mk_2_4, mk_2_5, mk_2_6, mk_2_7, mk_2_8, mk_2_9, mk_2_10, mk_3_m2, mk_3_0, mk_3_1, mk_3_2, mk_3_3, mk_3_4, mk_3_5, mk_4_m2, mk_4_m1, mk_5_m2, mk_5_m1, mk_11_m2, mk_11_m1, mk_42_m2, mk_42_m1, mk_73_m2, mk_73_0, mk_73_1, mk_73_2, mk_74_m2, mk_74_m1, mk_572_m2, mk_572_m1, mk_715_m2, mk_715_m1, mk_717_m2, mk_717_m1, mk_718_m2, mk_718_m1, mk_716_m2, mk_716_0, mk_716_1, mk_716_2, mk_716_3, mk_716_4, mk_719_m2, mk_74_at, mk_572_at, mk_715_at, mk_717_at, mk_718_at, mk_4_at, mk_5_at, mk_11_at, mk_42_at, mk_O_k, mk_O_0, mk_O_1, mk_O_2, mk_O_3, mk_L_k, mk_L_0, mk_L_1, mk_L_2, mk_L_3, mk_L_4, mk_L_5, mk_L_6, mk_L_7, mk_L_8, mk_L_9, mk_L_10, mk_X_k, mk_X_0, mk_X_1, mk_X_2, mk_X_3, mk_X_4, mk_75_k, mk_573_k, r_1_6, r_73_1, r_73_2, r_716_1, r_716_2, r_716_3, r_715, r_717, r_718, s_O0, s_O1, s_O2, s_O3, s_L0, s_L1, s_L2, s_L3, s_L4, s_L5, s_L6, s_L7, s_L8, s_L9, s_L10, s_X0, s_X1, s_X2, s_X3, s_X4, s_2_4, s_2_5, s_2_6, s_2_7, s_2_8, s_2_9, s_2_10, s_3_1, s_3_2, s_3_3, s_3_4, s_3_5, s_4]
        exact r
end XPASS
