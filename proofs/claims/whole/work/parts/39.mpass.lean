/-! m's loops of pass -/
section MPASS
variable (N : Nat) {w : Int → Int} (v : Int → Int) (c : Int → Int → Int) (a : Mm) {K : Int}
set_option maxHeartbeats 8000000 in
theorem l_p30 (I : IA K w) (T10 : 0 ≤ w 10 ∧ w 10 ≤ 300000000) {D : Int} {h p : Int → Int} (hh : ∀ e, h e ≤ D) {cnt : Nat} (hc : w 3 = cnt) (k11 : Int → Int → Int → Int → Mm → Rs) (x1 x2 x4 : Int) (n : Nat) : ∀ k : Nat, k ≤ cnt → cnt < n + k →
    f_X8_passes_b30 N k11 n 721 x1 x2 x4 k (mk v c (CF w D (th h D k) p) a) = f_X8_passes_b125 N k11 N 721 x1 x2 x4 0 (mk v c (CF w D (th h D cnt) p) a) := by
  have g := I.hd; unfold HEAD at g
  induction n with
  | zero => intro k h1 h2; omega
  | succ n ih =>
    intro k h1 h2
    obtain ⟨eh, e0, e4, e10, c7, c8, cl0, clj, y4', xj, x0, ob⟩ := CF_see I D (th h D k) p
    have sb := SS_b I (th h D k) p
    have u3 := eh 3 (by omega)
    rw [f_X8_passes_b30]
    by_cases e : k = cnt
    · subst e
      generalize CF w D (th h D k) p = u at *
      simp only [to_bz, to_nz, to_cz, to_iz]
      simp (disch := omega) only [u3, bz_t, nz_t, cz_T, cz_t, iz_T, iz_F, iz_y, iz_n, not_true_eq_false, not_false_eq_true, true_and, and_true, w32_e, w64_e, mset_e, mset_n, up_e, up_n, if_y, if_n, Int.add_zero, mk_1_m2, mk_1_0, mk_1_1, mk_1_2, mk_1_3, mk_1_4, mk_1_5, mk_1_6, mk_2_m2, mk_2_0, mk_2_1, mk_2_2, mk_2_3, mk_2_4, mk_2_5, mk_2_6, mk_2_7, mk_2_8, mk_2_9, mk_2_10, mk_3_m2, mk_3_0, mk_3_1, mk_3_2, mk_3_3, mk_3_4, mk_3_5, mk_4_m2, mk_4_m1, mk_5_m2, mk_5_m1, mk_11_m2, mk_11_m1, mk_42_m2, mk_42_m1, mk_73_m2, mk_73_0, mk_73_1, mk_73_2, mk_74_m2, mk_74_m1, mk_572_m2, mk_572_m1, mk_715_m2, mk_715_m1, mk_717_m2, mk_717_m1, mk_718_m2, mk_718_m1, mk_722_m2, mk_722_m1, mk_723_m2, mk_723_m1, mk_724_m2, mk_724_m1, mk_725_m2, mk_725_m1, mk_726_m2, mk_726_m1, mk_727_m2, mk_727_m1, mk_728_m2, mk_728_m1, mk_716_m2, mk_716_0, mk_716_1, mk_716_2, mk_716_3, mk_716_4, mk_721_m2, mk_721_0, mk_721_1, mk_721_2, mk_721_3, mk_721_4, mk_721_5, mk_721_6, mk_721_7, mk_721_8, mk_721_9, mk_721_10, mk_721_11, mk_721_12, mk_721_13, mk_721_14, mk_719_m2, mk_74_at, mk_572_at, mk_715_at, mk_717_at, mk_718_at, mk_722_at, mk_723_at, mk_724_at, mk_725_at, mk_726_at, mk_727_at, mk_728_at, mk_4_at, mk_5_at, mk_11_at, mk_42_at, mk_O_k, mk_O_0, mk_O_1, mk_O_2, mk_O_3, mk_L_k, mk_L_0, mk_L_1, mk_L_2, mk_L_3, mk_L_4, mk_L_5, mk_L_6, mk_L_7, mk_L_8, mk_L_9, mk_L_10, mk_X_k, mk_X_0, mk_X_1, mk_X_2, mk_X_3, mk_X_4, mk_75_k, mk_573_k, r_1_6, r_73_1, r_73_2, r_716_1, r_716_2, r_716_3, r_721_2, r_721_5, r_721_6, r_721_8, r_721_9, r_721_10, r_721_11, r_721_13, r_715, r_717, r_718, r_723, r_724, r_725, r_726, r_727, r_728, s_O0, s_O1, s_O2, s_O3, s_L0, s_L1, s_L2, s_L3, s_L4, s_L5, s_L6, s_L7, s_L8, s_L9, s_L10, s_X0, s_X1, s_X2, s_X3, s_X4, s_2_4, s_2_5, s_2_6, s_2_7, s_2_8, s_2_9, s_2_10, s_3_1, s_3_2, s_3_3, s_3_4, s_3_5, s_4]
    · have he : 0 ≤ (k : Int) ∧ (k : Int) < w 3 := by omega
      have st := CF_x I (D := D) (e := (k : Int)) (h := th h D k) (p := p) he (by rw [th_at]; exact hh k)
      have r := ih (k + 1) (by omega) (by omega)
      rw [← th_s] at st
      have x := I.xp he; unfold EXP at x
      have lo := I.lot (l := w (370 + 5 * (k : Int))) (by omega); unfold LOT at lo
      have p8 := PP_b I (th h D k) p (w (370 + 5 * (k : Int)))
      have y0 := x0 k (by omega)
      have y2 := xj k 2 (by omega) (by omega)
      have y3 := xj k 3 (by omega) (by omega)
      have y4 := y4' k (by omega)
      have o1 := ob (w (40 + 11 * w (370 + 5 * (k : Int)))) (by omega)
      have l0 := cl0 (w (370 + 5 * (k : Int))) (by omega)
      have l8 := c8 (w (370 + 5 * (k : Int))) (by omega)
      have o10 := I.own (o := w (40 + 11 * w (370 + 5 * (k : Int)))) (by omega)
      by_cases z : XX w (th h D k) k = 0 ∧ w (370 + 5 * (k : Int) + 3) < D
      · rw [if_pos z] at st
        obtain ⟨st1, st2⟩ := st
        rw [nc1, ← st1] at r
        clear st1 st2 ih
        have b10 : 0 ≤ w 10 + SS w (th h D k) p ∧ w 10 + SS w (th h D k) p ≤ 1000000000 := ⟨by have := T10; omega, by have := T10; omega⟩
        generalize CF w D (th h D k) p = u at *
        have f2 := eq_bd (b_waits N v c (w := u) a (e := (k : Int)) (by omega))
        rw [y4, if_pos z.1] at f2
        have nn : ∀ j, j ≠ 370 + 5 * (k : Int) + 4 → up u (370 + 5 * (k : Int) + 4) 2 j = u j := fun j hj => up_n hj
        have f3 := eq_bd (b_call N v c (w := up u (370 + 5 * (k : Int) + 4) 2) a (l := w (370 + 5 * (k : Int))) (d := w (370 + 5 * (k : Int) + 2)) (by omega) (by rw [nn _ (by omega), l0]; omega)
          (by rw [nn (40 + 11 * w (370 + 5 * (k : Int))) (by omega), l0, nn _ (by omega)]; omega) (by rw [nn (40 + 11 * w (370 + 5 * (k : Int))) (by omega), l0, nn _ (by omega)]; omega) (by rw [nn (40 + 11 * w (370 + 5 * (k : Int))) (by omega), l0, nn _ (by omega)]; omega) (by rw [nn _ (by omega)]; omega) (by rw [nn _ (by omega), e10]; exact b10) (by omega))
        simp only [to_bz, to_nz, to_cz, to_iz]
        simp (disch := omega) only [u3, e0, y0, y2, y3, f2, f3, fun e h μ => eq_bd (b_exportAt N (e := e) h μ), r_722, bz_t, nz_t, cz_T, cz_t, iz_T, iz_F, iz_y, iz_n, not_true_eq_false, not_false_eq_true, true_and, and_true, w32_e, w64_e, mset_e, mset_n, up_e, up_n, if_y, if_n, Int.add_zero, mk_1_m2, mk_1_0, mk_1_1, mk_1_2, mk_1_3, mk_1_4, mk_1_5, mk_1_6, mk_2_m2, mk_2_0, mk_2_1, mk_2_2, mk_2_3, mk_2_4, mk_2_5, mk_2_6, mk_2_7, mk_2_8, mk_2_9, mk_2_10, mk_3_m2, mk_3_0, mk_3_1, mk_3_2, mk_3_3, mk_3_4, mk_3_5, mk_4_m2, mk_4_m1, mk_5_m2, mk_5_m1, mk_11_m2, mk_11_m1, mk_42_m2, mk_42_m1, mk_73_m2, mk_73_0, mk_73_1, mk_73_2, mk_74_m2, mk_74_m1, mk_572_m2, mk_572_m1, mk_715_m2, mk_715_m1, mk_717_m2, mk_717_m1, mk_718_m2, mk_718_m1, mk_722_m2, mk_722_m1, mk_723_m2, mk_723_m1, mk_724_m2, mk_724_m1, mk_725_m2, mk_725_m1, mk_726_m2, mk_726_m1, mk_727_m2, mk_727_m1, mk_728_m2, mk_728_m1, mk_716_m2, mk_716_0, mk_716_1, mk_716_2, mk_716_3, mk_716_4, mk_721_m2, mk_721_0, mk_721_1, mk_721_2, mk_721_3, mk_721_4, mk_721_5, mk_721_6, mk_721_7, mk_721_8, mk_721_9, mk_721_10, mk_721_11, mk_721_12, mk_721_13, mk_721_14, mk_719_m2, mk_74_at, mk_572_at, mk_715_at, mk_717_at, mk_718_at, mk_722_at, mk_723_at, mk_724_at, mk_725_at, mk_726_at, mk_727_at, mk_728_at, mk_4_at, mk_5_at, mk_11_at, mk_42_at, mk_O_k, mk_O_0, mk_O_1, mk_O_2, mk_O_3, mk_L_k, mk_L_0, mk_L_1, mk_L_2, mk_L_3, mk_L_4, mk_L_5, mk_L_6, mk_L_7, mk_L_8, mk_L_9, mk_L_10, mk_X_k, mk_X_0, mk_X_1, mk_X_2, mk_X_3, mk_X_4, mk_75_k, mk_573_k, r_1_6, r_73_1, r_73_2, r_716_1, r_716_2, r_716_3, r_721_2, r_721_5, r_721_6, r_721_8, r_721_9, r_721_10, r_721_11, r_721_13, r_715, r_717, r_718, r_723, r_724, r_725, r_726, r_727, r_728, s_O0, s_O1, s_O2, s_O3, s_L0, s_L1, s_L2, s_L3, s_L4, s_L5, s_L6, s_L7, s_L8, s_L9, s_L10, s_X0, s_X1, s_X2, s_X3, s_X4, s_2_4, s_2_5, s_2_6, s_2_7, s_2_8, s_2_9, s_2_10, s_3_1, s_3_2, s_3_3, s_3_4, s_3_5, s_4]
        exact r
      · rw [if_neg z] at st
        obtain ⟨st1, st2⟩ := st
        rw [nc1, st1] at r
        clear st1 st2 ih
        generalize CF w D (th h D k) p = u at *
        have f2 := eq_bd (b_waits N v c (w := u) a (e := (k : Int)) (by omega))
        rw [y4] at f2
        by_cases z1 : XX w (th h D k) k = 0
        · have z2 : ¬ w (370 + 5 * (k : Int) + 3) < D := fun q => z ⟨z1, q⟩
          rw [if_pos z1] at f2
          simp only [to_bz, to_nz, to_cz, to_iz]
          simp (disch := omega) only [u3, e0, y0, y2, y3, f2, fun e h μ => eq_bd (b_exportAt N (e := e) h μ), bz_t, nz_t, cz_T, cz_t, iz_T, iz_F, iz_y, iz_n, not_true_eq_false, not_false_eq_true, true_and, and_true, w32_e, w64_e, mset_e, mset_n, up_e, up_n, if_y, if_n, Int.add_zero, mk_1_m2, mk_1_0, mk_1_1, mk_1_2, mk_1_3, mk_1_4, mk_1_5, mk_1_6, mk_2_m2, mk_2_0, mk_2_1, mk_2_2, mk_2_3, mk_2_4, mk_2_5, mk_2_6, mk_2_7, mk_2_8, mk_2_9, mk_2_10, mk_3_m2, mk_3_0, mk_3_1, mk_3_2, mk_3_3, mk_3_4, mk_3_5, mk_4_m2, mk_4_m1, mk_5_m2, mk_5_m1, mk_11_m2, mk_11_m1, mk_42_m2, mk_42_m1, mk_73_m2, mk_73_0, mk_73_1, mk_73_2, mk_74_m2, mk_74_m1, mk_572_m2, mk_572_m1, mk_715_m2, mk_715_m1, mk_717_m2, mk_717_m1, mk_718_m2, mk_718_m1, mk_722_m2, mk_722_m1, mk_723_m2, mk_723_m1, mk_724_m2, mk_724_m1, mk_725_m2, mk_725_m1, mk_726_m2, mk_726_m1, mk_727_m2, mk_727_m1, mk_728_m2, mk_728_m1, mk_716_m2, mk_716_0, mk_716_1, mk_716_2, mk_716_3, mk_716_4, mk_721_m2, mk_721_0, mk_721_1, mk_721_2, mk_721_3, mk_721_4, mk_721_5, mk_721_6, mk_721_7, mk_721_8, mk_721_9, mk_721_10, mk_721_11, mk_721_12, mk_721_13, mk_721_14, mk_719_m2, mk_74_at, mk_572_at, mk_715_at, mk_717_at, mk_718_at, mk_722_at, mk_723_at, mk_724_at, mk_725_at, mk_726_at, mk_727_at, mk_728_at, mk_4_at, mk_5_at, mk_11_at, mk_42_at, mk_O_k, mk_O_0, mk_O_1, mk_O_2, mk_O_3, mk_L_k, mk_L_0, mk_L_1, mk_L_2, mk_L_3, mk_L_4, mk_L_5, mk_L_6, mk_L_7, mk_L_8, mk_L_9, mk_L_10, mk_X_k, mk_X_0, mk_X_1, mk_X_2, mk_X_3, mk_X_4, mk_75_k, mk_573_k, r_1_6, r_73_1, r_73_2, r_716_1, r_716_2, r_716_3, r_721_2, r_721_5, r_721_6, r_721_8, r_721_9, r_721_10, r_721_11, r_721_13, r_715, r_717, r_718, r_723, r_724, r_725, r_726, r_727, r_728, s_O0, s_O1, s_O2, s_O3, s_L0, s_L1, s_L2, s_L3, s_L4, s_L5, s_L6, s_L7, s_L8, s_L9, s_L10, s_X0, s_X1, s_X2, s_X3, s_X4, s_2_4, s_2_5, s_2_6, s_2_7, s_2_8, s_2_9, s_2_10, s_3_1, s_3_2, s_3_3, s_3_4, s_3_5, s_4]
          exact r
        · rw [if_neg z1] at f2
          simp only [to_bz, to_nz, to_cz, to_iz]
          simp (disch := omega) only [u3, e0, y0, y2, y3, f2, bz_t, nz_t, cz_T, cz_t, iz_T, iz_F, iz_y, iz_n, not_true_eq_false, not_false_eq_true, true_and, and_true, w32_e, w64_e, mset_e, mset_n, up_e, up_n, if_y, if_n, Int.add_zero, mk_1_m2, mk_1_0, mk_1_1, mk_1_2, mk_1_3, mk_1_4, mk_1_5, mk_1_6, mk_2_m2, mk_2_0, mk_2_1, mk_2_2, mk_2_3, mk_2_4, mk_2_5, mk_2_6, mk_2_7, mk_2_8, mk_2_9, mk_2_10, mk_3_m2, mk_3_0, mk_3_1, mk_3_2, mk_3_3, mk_3_4, mk_3_5, mk_4_m2, mk_4_m1, mk_5_m2, mk_5_m1, mk_11_m2, mk_11_m1, mk_42_m2, mk_42_m1, mk_73_m2, mk_73_0, mk_73_1, mk_73_2, mk_74_m2, mk_74_m1, mk_572_m2, mk_572_m1, mk_715_m2, mk_715_m1, mk_717_m2, mk_717_m1, mk_718_m2, mk_718_m1, mk_722_m2, mk_722_m1, mk_723_m2, mk_723_m1, mk_724_m2, mk_724_m1, mk_725_m2, mk_725_m1, mk_726_m2, mk_726_m1, mk_727_m2, mk_727_m1, mk_728_m2, mk_728_m1, mk_716_m2, mk_716_0, mk_716_1, mk_716_2, mk_716_3, mk_716_4, mk_721_m2, mk_721_0, mk_721_1, mk_721_2, mk_721_3, mk_721_4, mk_721_5, mk_721_6, mk_721_7, mk_721_8, mk_721_9, mk_721_10, mk_721_11, mk_721_12, mk_721_13, mk_721_14, mk_719_m2, mk_74_at, mk_572_at, mk_715_at, mk_717_at, mk_718_at, mk_722_at, mk_723_at, mk_724_at, mk_725_at, mk_726_at, mk_727_at, mk_728_at, mk_4_at, mk_5_at, mk_11_at, mk_42_at, mk_O_k, mk_O_0, mk_O_1, mk_O_2, mk_O_3, mk_L_k, mk_L_0, mk_L_1, mk_L_2, mk_L_3, mk_L_4, mk_L_5, mk_L_6, mk_L_7, mk_L_8, mk_L_9, mk_L_10, mk_X_k, mk_X_0, mk_X_1, mk_X_2, mk_X_3, mk_X_4, mk_75_k, mk_573_k, r_1_6, r_73_1, r_73_2, r_716_1, r_716_2, r_716_3, r_721_2, r_721_5, r_721_6, r_721_8, r_721_9, r_721_10, r_721_11, r_721_13, r_715, r_717, r_718, r_723, r_724, r_725, r_726, r_727, r_728, s_O0, s_O1, s_O2, s_O3, s_L0, s_L1, s_L2, s_L3, s_L4, s_L5, s_L6, s_L7, s_L8, s_L9, s_L10, s_X0, s_X1, s_X2, s_X3, s_X4, s_2_4, s_2_5, s_2_6, s_2_7, s_2_8, s_2_9, s_2_10, s_3_1, s_3_2, s_3_3, s_3_4, s_3_5, s_4]
          exact r
set_option maxHeartbeats 8000000 in
theorem l_p125 (I : IA K w) (T10 : 0 ≤ w 10 ∧ w 10 ≤ 300000000) {D : Int} {h p : Int → Int} (hh : ∀ e, p e ≤ D) {cnt : Nat} (hc : w 2 = cnt) (k11 : Int → Int → Int → Int → Mm → Rs) (x1 x2 x4 : Int) (h4 : 0 ≤ x4 ∧ x4 ≤ 1000) (n : Nat) : ∀ k : Nat, k ≤ cnt → cnt < n + k →
    f_X8_passes_b125 N k11 n 721 x1 x2 x4 k (mk v c (CF w D h (th p D k)) a) = k11 721 x1 x2 (x4 + 1) (mk v c (CF w D h (th p D cnt)) a) := by
  have g := I.hd; unfold HEAD at g
  induction n with
  | zero => intro k h1 h2; omega
  | succ n ih =>
    intro k h1 h2
    obtain ⟨eh, e0, e4, e10, c7, c8, cl0, clj, y4', xj, x0, ob⟩ := CF_see I D h (th p D k)
    have sb := SS_b I h (th p D k)
    have u2 := eh 2 (by omega)
    rw [f_X8_passes_b125]
    by_cases e : k = cnt
    · subst e
      generalize CF w D h (th p D k) = u at *
      simp only [to_bz, to_nz, to_cz, to_iz]
      simp (disch := omega) only [u2, bz_t, nz_t, cz_T, cz_t, iz_T, iz_F, iz_y, iz_n, not_true_eq_false, not_false_eq_true, true_and, and_true, w32_e, w64_e, mset_e, mset_n, up_e, up_n, if_y, if_n, Int.add_zero, mk_1_m2, mk_1_0, mk_1_1, mk_1_2, mk_1_3, mk_1_4, mk_1_5, mk_1_6, mk_2_m2, mk_2_0, mk_2_1, mk_2_2, mk_2_3, mk_2_4, mk_2_5, mk_2_6, mk_2_7, mk_2_8, mk_2_9, mk_2_10, mk_3_m2, mk_3_0, mk_3_1, mk_3_2, mk_3_3, mk_3_4, mk_3_5, mk_4_m2, mk_4_m1, mk_5_m2, mk_5_m1, mk_11_m2, mk_11_m1, mk_42_m2, mk_42_m1, mk_73_m2, mk_73_0, mk_73_1, mk_73_2, mk_74_m2, mk_74_m1, mk_572_m2, mk_572_m1, mk_715_m2, mk_715_m1, mk_717_m2, mk_717_m1, mk_718_m2, mk_718_m1, mk_722_m2, mk_722_m1, mk_723_m2, mk_723_m1, mk_724_m2, mk_724_m1, mk_725_m2, mk_725_m1, mk_726_m2, mk_726_m1, mk_727_m2, mk_727_m1, mk_728_m2, mk_728_m1, mk_716_m2, mk_716_0, mk_716_1, mk_716_2, mk_716_3, mk_716_4, mk_721_m2, mk_721_0, mk_721_1, mk_721_2, mk_721_3, mk_721_4, mk_721_5, mk_721_6, mk_721_7, mk_721_8, mk_721_9, mk_721_10, mk_721_11, mk_721_12, mk_721_13, mk_721_14, mk_719_m2, mk_74_at, mk_572_at, mk_715_at, mk_717_at, mk_718_at, mk_722_at, mk_723_at, mk_724_at, mk_725_at, mk_726_at, mk_727_at, mk_728_at, mk_4_at, mk_5_at, mk_11_at, mk_42_at, mk_O_k, mk_O_0, mk_O_1, mk_O_2, mk_O_3, mk_L_k, mk_L_0, mk_L_1, mk_L_2, mk_L_3, mk_L_4, mk_L_5, mk_L_6, mk_L_7, mk_L_8, mk_L_9, mk_L_10, mk_X_k, mk_X_0, mk_X_1, mk_X_2, mk_X_3, mk_X_4, mk_75_k, mk_573_k, r_1_6, r_73_1, r_73_2, r_716_1, r_716_2, r_716_3, r_721_2, r_721_5, r_721_6, r_721_8, r_721_9, r_721_10, r_721_11, r_721_13, r_715, r_717, r_718, r_723, r_724, r_725, r_726, r_727, r_728, s_O0, s_O1, s_O2, s_O3, s_L0, s_L1, s_L2, s_L3, s_L4, s_L5, s_L6, s_L7, s_L8, s_L9, s_L10, s_X0, s_X1, s_X2, s_X3, s_X4, s_2_4, s_2_5, s_2_6, s_2_7, s_2_8, s_2_9, s_2_10, s_3_1, s_3_2, s_3_3, s_3_4, s_3_5, s_4]
    · have he : 0 ≤ (k : Int) ∧ (k : Int) < w 2 := by omega
      have st := CF_l I (D := D) (l := (k : Int)) (h := h) (p := th p D k) he (by rw [th_at]; exact hh k)
      have r := ih (k + 1) (by omega) (by omega)
      rw [← th_s] at st
      have lo := I.lot he; unfold LOT at lo
      have p8 := PP_b I h (th p D k) (k : Int)
      have nb := NN_b I (th p D k)
      have o1 := ob (w (40 + 11 * (k : Int))) (by omega)
      have l0 := cl0 k (by omega)
      have l8 := c8 k (by omega)
      have l7 := c7 k (by omega)
      have l2 := clj k 2 (by omega) (by omega)
      have l5 := clj k 5 (by omega) (by omega)
      have l6 := clj k 6 (by omega) (by omega)
      have Lb : w (40 + 11 * (k : Int) + 7) ≤ LL w (th p D k) k ∧ LL w (th p D k) k ≤ w (40 + 11 * (k : Int) + 2) := by unfold LL; split <;> omega
      by_cases z : 0 < w (40 + 11 * (k : Int) + 2) - LL w (th p D k) k ∧ w (40 + 11 * (k : Int) + 5) < D
      · rw [if_pos z] at st
        obtain ⟨st1, st2, st3⟩ := st
        have rb := rs_b I he
        have rt : rs w k ≤ 10000000 := by
          have z := dt_b (w := w) (l := k) (t := w (40 + 11 * (k : Int) + 7)) (q := un w k) (by omega) (by omega) (by omega) (by unfold un; omega) (by unfold un; omega)
          rw [dt_all w k (by omega)] at z
          omega
        rw [nc1, ← st1] at r
        rw [st3] at l7 z Lb
        clear st1 st2 st3 ih
        have b10 : 0 ≤ w 10 + SS w h (th p D k) ∧ w 10 + SS w h (th p D k) ≤ 1000000000 := ⟨by have := T10; omega, by have := T10; omega⟩
        generalize CF w D h (th p D k) = u at *
        have f2 := eq_bd (b_units N v c u a (l := (k : Int)) (by omega) (by omega))
        rw [l2, l7] at f2
        have f1 := eq_bd (b_dutyR N v c (w := u) a (l := (k : Int)) (q := w (40 + 11 * (k : Int) + 2) - w (40 + 11 * (k : Int) + 7)) (by omega) (by omega) (by omega) (by omega) (by omega))
        rw [l7, dt_up l6 l2, show dt w k (w (40 + 11 * (k : Int) + 7)) (w (40 + 11 * (k : Int) + 2) - w (40 + 11 * (k : Int) + 7)) = rs w k from dt_all w k (by omega)] at f1
        have f5 := eq_bd (b_take N v c (w := u) a (l := (k : Int)) (q := w (40 + 11 * (k : Int) + 2) - w (40 + 11 * (k : Int) + 7)) (by omega) (by omega) (by omega))
        rw [l7, show w (40 + 11 * (k : Int) + 7) + (w (40 + 11 * (k : Int) + 2) - w (40 + 11 * (k : Int) + 7)) = w (40 + 11 * (k : Int) + 2) from by omega] at f5
        have nn : ∀ j, j ≠ 40 + 11 * (k : Int) + 7 → j ≠ 4 → up (up u (40 + 11 * (k : Int) + 7) (w (40 + 11 * (k : Int) + 2))) 4 (w 4 + NN w (th p D k) + 1) j = u j := fun j hj h4 => by rw [up_n h4, up_n hj]
        have f3 := eq_bd (b_call N v c (w := up (up u (40 + 11 * (k : Int) + 7) (w (40 + 11 * (k : Int) + 2))) 4 (w 4 + NN w (th p D k) + 1)) a (l := k) (d := rs w k) (by omega) (by rw [nn _ (by omega) (by omega), l0]; omega)
          (by rw [nn (40 + 11 * (k : Int)) (by omega) (by omega), l0, nn _ (by omega) (by omega)]; omega) (by rw [nn (40 + 11 * (k : Int)) (by omega) (by omega), l0, nn _ (by omega) (by omega)]; omega) (by rw [nn (40 + 11 * (k : Int)) (by omega) (by omega), l0, nn _ (by omega) (by omega)]; omega) (by rw [nn _ (by omega) (by omega)]; omega) (by rw [nn _ (by omega) (by omega), e10]; exact b10) (by omega))
        simp only [to_bz, to_nz, to_cz, to_iz]
        simp (disch := omega) only [u2, e0, l5, e4, f1, f2, f3, f5, fun l h μ => eq_bd (b_lotAt N (l := l) h μ), r_722, bz_t, nz_t, cz_T, cz_t, iz_T, iz_F, iz_y, iz_n, not_true_eq_false, not_false_eq_true, true_and, and_true, w32_e, w64_e, mset_e, mset_n, up_e, up_n, if_y, if_n, Int.add_zero, mk_1_m2, mk_1_0, mk_1_1, mk_1_2, mk_1_3, mk_1_4, mk_1_5, mk_1_6, mk_2_m2, mk_2_0, mk_2_1, mk_2_2, mk_2_3, mk_2_4, mk_2_5, mk_2_6, mk_2_7, mk_2_8, mk_2_9, mk_2_10, mk_3_m2, mk_3_0, mk_3_1, mk_3_2, mk_3_3, mk_3_4, mk_3_5, mk_4_m2, mk_4_m1, mk_5_m2, mk_5_m1, mk_11_m2, mk_11_m1, mk_42_m2, mk_42_m1, mk_73_m2, mk_73_0, mk_73_1, mk_73_2, mk_74_m2, mk_74_m1, mk_572_m2, mk_572_m1, mk_715_m2, mk_715_m1, mk_717_m2, mk_717_m1, mk_718_m2, mk_718_m1, mk_722_m2, mk_722_m1, mk_723_m2, mk_723_m1, mk_724_m2, mk_724_m1, mk_725_m2, mk_725_m1, mk_726_m2, mk_726_m1, mk_727_m2, mk_727_m1, mk_728_m2, mk_728_m1, mk_716_m2, mk_716_0, mk_716_1, mk_716_2, mk_716_3, mk_716_4, mk_721_m2, mk_721_0, mk_721_1, mk_721_2, mk_721_3, mk_721_4, mk_721_5, mk_721_6, mk_721_7, mk_721_8, mk_721_9, mk_721_10, mk_721_11, mk_721_12, mk_721_13, mk_721_14, mk_719_m2, mk_74_at, mk_572_at, mk_715_at, mk_717_at, mk_718_at, mk_722_at, mk_723_at, mk_724_at, mk_725_at, mk_726_at, mk_727_at, mk_728_at, mk_4_at, mk_5_at, mk_11_at, mk_42_at, mk_O_k, mk_O_0, mk_O_1, mk_O_2, mk_O_3, mk_L_k, mk_L_0, mk_L_1, mk_L_2, mk_L_3, mk_L_4, mk_L_5, mk_L_6, mk_L_7, mk_L_8, mk_L_9, mk_L_10, mk_X_k, mk_X_0, mk_X_1, mk_X_2, mk_X_3, mk_X_4, mk_75_k, mk_573_k, r_1_6, r_73_1, r_73_2, r_716_1, r_716_2, r_716_3, r_721_2, r_721_5, r_721_6, r_721_8, r_721_9, r_721_10, r_721_11, r_721_13, r_715, r_717, r_718, r_723, r_724, r_725, r_726, r_727, r_728, s_O0, s_O1, s_O2, s_O3, s_L0, s_L1, s_L2, s_L3, s_L4, s_L5, s_L6, s_L7, s_L8, s_L9, s_L10, s_X0, s_X1, s_X2, s_X3, s_X4, s_2_4, s_2_5, s_2_6, s_2_7, s_2_8, s_2_9, s_2_10, s_3_1, s_3_2, s_3_3, s_3_4, s_3_5, s_4]
        exact r
      · rw [if_neg z] at st
        obtain ⟨st1, st2⟩ := st
        rw [nc1, st1] at r
        clear st1 st2 ih
        generalize CF w D h (th p D k) = u at *
        have f2 := eq_bd (b_units N v c u a (l := (k : Int)) (by omega) (by omega))
        rw [l2, l7] at f2
        by_cases z1 : 0 < w (40 + 11 * (k : Int) + 2) - LL w (th p D k) k
        · have z2 : ¬ w (40 + 11 * (k : Int) + 5) < D := fun q => z ⟨z1, q⟩
          simp only [to_bz, to_nz, to_cz, to_iz]
          simp (disch := omega) only [u2, e0, l5, f2, fun l h μ => eq_bd (b_lotAt N (l := l) h μ), bz_t, nz_t, cz_T, cz_t, iz_T, iz_F, iz_y, iz_n, not_true_eq_false, not_false_eq_true, true_and, and_true, w32_e, w64_e, mset_e, mset_n, up_e, up_n, if_y, if_n, Int.add_zero, mk_1_m2, mk_1_0, mk_1_1, mk_1_2, mk_1_3, mk_1_4, mk_1_5, mk_1_6, mk_2_m2, mk_2_0, mk_2_1, mk_2_2, mk_2_3, mk_2_4, mk_2_5, mk_2_6, mk_2_7, mk_2_8, mk_2_9, mk_2_10, mk_3_m2, mk_3_0, mk_3_1, mk_3_2, mk_3_3, mk_3_4, mk_3_5, mk_4_m2, mk_4_m1, mk_5_m2, mk_5_m1, mk_11_m2, mk_11_m1, mk_42_m2, mk_42_m1, mk_73_m2, mk_73_0, mk_73_1, mk_73_2, mk_74_m2, mk_74_m1, mk_572_m2, mk_572_m1, mk_715_m2, mk_715_m1, mk_717_m2, mk_717_m1, mk_718_m2, mk_718_m1, mk_722_m2, mk_722_m1, mk_723_m2, mk_723_m1, mk_724_m2, mk_724_m1, mk_725_m2, mk_725_m1, mk_726_m2, mk_726_m1, mk_727_m2, mk_727_m1, mk_728_m2, mk_728_m1, mk_716_m2, mk_716_0, mk_716_1, mk_716_2, mk_716_3, mk_716_4, mk_721_m2, mk_721_0, mk_721_1, mk_721_2, mk_721_3, mk_721_4, mk_721_5, mk_721_6, mk_721_7, mk_721_8, mk_721_9, mk_721_10, mk_721_11, mk_721_12, mk_721_13, mk_721_14, mk_719_m2, mk_74_at, mk_572_at, mk_715_at, mk_717_at, mk_718_at, mk_722_at, mk_723_at, mk_724_at, mk_725_at, mk_726_at, mk_727_at, mk_728_at, mk_4_at, mk_5_at, mk_11_at, mk_42_at, mk_O_k, mk_O_0, mk_O_1, mk_O_2, mk_O_3, mk_L_k, mk_L_0, mk_L_1, mk_L_2, mk_L_3, mk_L_4, mk_L_5, mk_L_6, mk_L_7, mk_L_8, mk_L_9, mk_L_10, mk_X_k, mk_X_0, mk_X_1, mk_X_2, mk_X_3, mk_X_4, mk_75_k, mk_573_k, r_1_6, r_73_1, r_73_2, r_716_1, r_716_2, r_716_3, r_721_2, r_721_5, r_721_6, r_721_8, r_721_9, r_721_10, r_721_11, r_721_13, r_715, r_717, r_718, r_723, r_724, r_725, r_726, r_727, r_728, s_O0, s_O1, s_O2, s_O3, s_L0, s_L1, s_L2, s_L3, s_L4, s_L5, s_L6, s_L7, s_L8, s_L9, s_L10, s_X0, s_X1, s_X2, s_X3, s_X4, s_2_4, s_2_5, s_2_6, s_2_7, s_2_8, s_2_9, s_2_10, s_3_1, s_3_2, s_3_3, s_3_4, s_3_5, s_4]
          exact r
        · simp only [to_bz, to_nz, to_cz, to_iz]
          simp (disch := omega) only [u2, e0, f2, bz_t, nz_t, cz_T, cz_t, iz_T, iz_F, iz_y, iz_n, not_true_eq_false, not_false_eq_true, true_and, and_true, w32_e, w64_e, mset_e, mset_n, up_e, up_n, if_y, if_n, Int.add_zero, mk_1_m2, mk_1_0, mk_1_1, mk_1_2, mk_1_3, mk_1_4, mk_1_5, mk_1_6, mk_2_m2, mk_2_0, mk_2_1, mk_2_2, mk_2_3, mk_2_4, mk_2_5, mk_2_6, mk_2_7, mk_2_8, mk_2_9, mk_2_10, mk_3_m2, mk_3_0, mk_3_1, mk_3_2, mk_3_3, mk_3_4, mk_3_5, mk_4_m2, mk_4_m1, mk_5_m2, mk_5_m1, mk_11_m2, mk_11_m1, mk_42_m2, mk_42_m1, mk_73_m2, mk_73_0, mk_73_1, mk_73_2, mk_74_m2, mk_74_m1, mk_572_m2, mk_572_m1, mk_715_m2, mk_715_m1, mk_717_m2, mk_717_m1, mk_718_m2, mk_718_m1, mk_722_m2, mk_722_m1, mk_723_m2, mk_723_m1, mk_724_m2, mk_724_m1, mk_725_m2, mk_725_m1, mk_726_m2, mk_726_m1, mk_727_m2, mk_727_m1, mk_728_m2, mk_728_m1, mk_716_m2, mk_716_0, mk_716_1, mk_716_2, mk_716_3, mk_716_4, mk_721_m2, mk_721_0, mk_721_1, mk_721_2, mk_721_3, mk_721_4, mk_721_5, mk_721_6, mk_721_7, mk_721_8, mk_721_9, mk_721_10, mk_721_11, mk_721_12, mk_721_13, mk_721_14, mk_719_m2, mk_74_at, mk_572_at, mk_715_at, mk_717_at, mk_718_at, mk_722_at, mk_723_at, mk_724_at, mk_725_at, mk_726_at, mk_727_at, mk_728_at, mk_4_at, mk_5_at, mk_11_at, mk_42_at, mk_O_k, mk_O_0, mk_O_1, mk_O_2, mk_O_3, mk_L_k, mk_L_0, mk_L_1, mk_L_2, mk_L_3, mk_L_4, mk_L_5, mk_L_6, mk_L_7, mk_L_8, mk_L_9, mk_L_10, mk_X_k, mk_X_0, mk_X_1, mk_X_2, mk_X_3, mk_X_4, mk_75_k, mk_573_k, r_1_6, r_73_1, r_73_2, r_716_1, r_716_2, r_716_3, r_721_2, r_721_5, r_721_6, r_721_8, r_721_9, r_721_10, r_721_11, r_721_13, r_715, r_717, r_718, r_723, r_724, r_725, r_726, r_727, r_728, s_O0, s_O1, s_O2, s_O3, s_L0, s_L1, s_L2, s_L3, s_L4, s_L5, s_L6, s_L7, s_L8, s_L9, s_L10, s_X0, s_X1, s_X2, s_X3, s_X4, s_2_4, s_2_5, s_2_6, s_2_7, s_2_8, s_2_9, s_2_10, s_3_1, s_3_2, s_3_3, s_3_4, s_3_5, s_4]
          exact r
end MPASS
