section ENTERS
variable {N : Nat} {c : Int → Int → Int} (m : Int → Int) {a : Mm} {w : Int → Int} {K K' : Int}
theorem zST_rb {y : Int} (S : zST K w c a) (hy : y ≤ 6) : zST K w c (rb y a) := by
  unfold rb
  split
  · exact zST_y S (by omega)
  · exact S
theorem rb_7 (y : Int) : rb y a 715 1 = a 715 1 := by unfold rb; split; exact mset_n (by omega); rfl
/-- an act, whichever way it goes -/
theorem act_er {y : Int} (S : zST K w c a) (u : Int → Int) (hy : y ≤ 6) : zST K w (uc c ((a 73 1 + a 73 2) % 7 + 1) u) (rb y a) := by
  have r := zST_rb (zST_er S u) hy
  exact r
theorem en_good (hN : 5000 ≤ N) (S : zST K w c a) {o kd q x : Int} (y : yEn w o kd q x = 0) : f_X7_enter N 1 o kd q x (mk w c m a) = some (w 2, mk (dEn w o kd q x) (uc c ((a 73 1 + a 73 2) % 7 + 1) w) m (apA a)) := by
  have e := x_enter N c m a hN S.2.1.1 S.2.1.2.1 S.1.1.1 o kd q x
  have g := S.1.1.1.hd; unfold HEAD at g
  unfold an rw0 rb at e
  rw [y] at e
  rw [if_pos rfl, if_pos rfl, if_neg (show ¬ (1 : Int) ≤ 0 by omega), if_neg (show ¬ w 2 < 0 by omega)] at e
  exact e
theorem en_bad (hN : 5000 ≤ N) (S : zST K w c a) {o kd q x y : Int} (h : yEn w o kd q x = y) (h0 : y ≠ 0) : f_X7_enter N 1 o kd q x (mk w c m a) = some (cd y, mk w (uc c ((a 73 1 + a 73 2) % 7 + 1) w) m (rb y a)) := by
  have e := x_enter N c m a hN S.2.1.1 S.2.1.2.1 S.1.1.1 o kd q x
  have n := cd_n h0
  unfold an rw0 at e
  rw [h] at e
  rw [if_neg h0, if_neg h0, if_pos n] at e
  exact e
theorem rb_16 {y : Int} (h : 1 ≤ y) : rb y a 1 6 = y := by unfold rb; rw [if_pos h, mset_e]
theorem l_en_r (hN : 5000 ≤ N) (S : zST K w c a) {o kd q x y : Int} (h : yEn w o kd q x = y) (hy : 1 ≤ y ∧ y ≤ 6) {x3 x12 : Int} (G : y = if x12 = 0 then (if x3 = 30 then 5 else 2) else 1) :
    nO K (f_L_enters_b222 N 1 x3 x12 (-100000003) (mk w (uc c ((a 73 1 + a 73 2) % 7 + 1) w) m (rb y a))) c m a := by
  have c11 := q_count_11 (N := N) (c := uc c ((a 73 1 + a 73 2) % 7 + 1) w) m (a := rb y a) (w := w)
  rw [rb_16 hy.1] at c11
  refine ⟨_, _, _, ?_, act_er S w hy.2, uc9 S, rb_7 y⟩
  unfold f_L_enters_b222 f_L_enters_b255
  by_cases q1 : x12 = 0
  · rw [if_pos q1] at G
    by_cases q2 : x3 = 30
    · rw [if_pos q2] at G
      simp only [to_bz, to_nz, to_cz, to_iz]
      simp (disch := omega) only [c11, bz_t, nz_t, cz_T, cz_t, iz_T, iz_F, iz_y, iz_n, not_true_eq_false, not_false_eq_true, true_and, and_true, w32_e, w64_e, mset_e, mset_n, up_e, up_n, if_y, if_n, Int.add_zero, mk_1_m2, mk_1_0, mk_1_1, mk_1_2, mk_1_3, mk_1_4, mk_1_5, mk_1_6, mk_2_m2, mk_2_0, mk_2_1, mk_2_2, mk_2_3, mk_2_4, mk_2_5, mk_2_6, mk_2_7, mk_2_8, mk_2_9, mk_2_10, mk_3_m2, mk_3_0, mk_3_1, mk_3_2, mk_3_3, mk_3_4, mk_3_5, mk_4_m2, mk_4_m1, mk_5_m2, mk_5_m1, mk_11_m2, mk_11_m1, mk_42_m2, mk_42_m1, mk_73_m2, mk_73_0, mk_73_1, mk_73_2, mk_74_m2, mk_74_m1, mk_572_m2, mk_572_m1, mk_715_m2, mk_715_m1, mk_717_m2, mk_717_m1, mk_718_m2, mk_718_m1, mk_716_m2, mk_716_0, mk_716_1, mk_716_2, mk_716_3, mk_716_4, mk_719_m2, mk_74_at, mk_572_at, mk_715_at, mk_717_at, mk_718_at, mk_4_at, mk_5_at, mk_11_at, mk_42_at, mk_O_k, mk_O_0, mk_O_1, mk_O_2, mk_O_3, mk_L_k, mk_L_0, mk_L_1, mk_L_2, mk_L_3, mk_L_4, mk_L_5, mk_L_6, mk_L_7, mk_L_8, mk_L_9, mk_L_10, mk_X_k, mk_X_0, mk_X_1, mk_X_2, mk_X_3, mk_X_4, mk_75_k, mk_573_k, r_1_6, r_73_1, r_73_2, r_716_1, r_716_2, r_716_3, r_715, r_717, r_718, s_O0, s_O1, s_O2, s_O3, s_L0, s_L1, s_L2, s_L3, s_L4, s_L5, s_L6, s_L7, s_L8, s_L9, s_L10, s_X0, s_X1, s_X2, s_X3, s_X4, s_2_4, s_2_5, s_2_6, s_2_7, s_2_8, s_2_9, s_2_10, s_3_1, s_3_2, s_3_3, s_3_4, s_3_5, s_4]
    · rw [if_neg q2] at G
      simp only [to_bz, to_nz, to_cz, to_iz]
      simp (disch := omega) only [c11, bz_t, nz_t, cz_T, cz_t, iz_T, iz_F, iz_y, iz_n, not_true_eq_false, not_false_eq_true, true_and, and_true, w32_e, w64_e, mset_e, mset_n, up_e, up_n, if_y, if_n, Int.add_zero, mk_1_m2, mk_1_0, mk_1_1, mk_1_2, mk_1_3, mk_1_4, mk_1_5, mk_1_6, mk_2_m2, mk_2_0, mk_2_1, mk_2_2, mk_2_3, mk_2_4, mk_2_5, mk_2_6, mk_2_7, mk_2_8, mk_2_9, mk_2_10, mk_3_m2, mk_3_0, mk_3_1, mk_3_2, mk_3_3, mk_3_4, mk_3_5, mk_4_m2, mk_4_m1, mk_5_m2, mk_5_m1, mk_11_m2, mk_11_m1, mk_42_m2, mk_42_m1, mk_73_m2, mk_73_0, mk_73_1, mk_73_2, mk_74_m2, mk_74_m1, mk_572_m2, mk_572_m1, mk_715_m2, mk_715_m1, mk_717_m2, mk_717_m1, mk_718_m2, mk_718_m1, mk_716_m2, mk_716_0, mk_716_1, mk_716_2, mk_716_3, mk_716_4, mk_719_m2, mk_74_at, mk_572_at, mk_715_at, mk_717_at, mk_718_at, mk_4_at, mk_5_at, mk_11_at, mk_42_at, mk_O_k, mk_O_0, mk_O_1, mk_O_2, mk_O_3, mk_L_k, mk_L_0, mk_L_1, mk_L_2, mk_L_3, mk_L_4, mk_L_5, mk_L_6, mk_L_7, mk_L_8, mk_L_9, mk_L_10, mk_X_k, mk_X_0, mk_X_1, mk_X_2, mk_X_3, mk_X_4, mk_75_k, mk_573_k, r_1_6, r_73_1, r_73_2, r_716_1, r_716_2, r_716_3, r_715, r_717, r_718, s_O0, s_O1, s_O2, s_O3, s_L0, s_L1, s_L2, s_L3, s_L4, s_L5, s_L6, s_L7, s_L8, s_L9, s_L10, s_X0, s_X1, s_X2, s_X3, s_X4, s_2_4, s_2_5, s_2_6, s_2_7, s_2_8, s_2_9, s_2_10, s_3_1, s_3_2, s_3_3, s_3_4, s_3_5, s_4]
  · rw [if_neg q1] at G
    simp only [to_bz, to_nz, to_cz, to_iz]
    simp (disch := omega) only [c11, bz_t, nz_t, cz_T, cz_t, iz_T, iz_F, iz_y, iz_n, not_true_eq_false, not_false_eq_true, true_and, and_true, w32_e, w64_e, mset_e, mset_n, up_e, up_n, if_y, if_n, Int.add_zero, mk_1_m2, mk_1_0, mk_1_1, mk_1_2, mk_1_3, mk_1_4, mk_1_5, mk_1_6, mk_2_m2, mk_2_0, mk_2_1, mk_2_2, mk_2_3, mk_2_4, mk_2_5, mk_2_6, mk_2_7, mk_2_8, mk_2_9, mk_2_10, mk_3_m2, mk_3_0, mk_3_1, mk_3_2, mk_3_3, mk_3_4, mk_3_5, mk_4_m2, mk_4_m1, mk_5_m2, mk_5_m1, mk_11_m2, mk_11_m1, mk_42_m2, mk_42_m1, mk_73_m2, mk_73_0, mk_73_1, mk_73_2, mk_74_m2, mk_74_m1, mk_572_m2, mk_572_m1, mk_715_m2, mk_715_m1, mk_717_m2, mk_717_m1, mk_718_m2, mk_718_m1, mk_716_m2, mk_716_0, mk_716_1, mk_716_2, mk_716_3, mk_716_4, mk_719_m2, mk_74_at, mk_572_at, mk_715_at, mk_717_at, mk_718_at, mk_4_at, mk_5_at, mk_11_at, mk_42_at, mk_O_k, mk_O_0, mk_O_1, mk_O_2, mk_O_3, mk_L_k, mk_L_0, mk_L_1, mk_L_2, mk_L_3, mk_L_4, mk_L_5, mk_L_6, mk_L_7, mk_L_8, mk_L_9, mk_L_10, mk_X_k, mk_X_0, mk_X_1, mk_X_2, mk_X_3, mk_X_4, mk_75_k, mk_573_k, r_1_6, r_73_1, r_73_2, r_716_1, r_716_2, r_716_3, r_715, r_717, r_718, s_O0, s_O1, s_O2, s_O3, s_L0, s_L1, s_L2, s_L3, s_L4, s_L5, s_L6, s_L7, s_L8, s_L9, s_L10, s_X0, s_X1, s_X2, s_X3, s_X4, s_2_4, s_2_5, s_2_6, s_2_7, s_2_8, s_2_9, s_2_10, s_3_1, s_3_2, s_3_3, s_3_4, s_3_5, s_4]
theorem l_en190 (hN : 5000 ≤ N) (S : zST K w c a) (hK : K + 1 ≤ 60000) {o kd q x : Int} (z1 : 0 ≤ o ∧ o < w 1) (z2 : 0 ≤ kd ∧ kd ≤ 5) (z3 : 1 ≤ q ∧ q ≤ 2001) (z4 : 0 ≤ x ∧ x ≤ 10000000) :
    nO (K + 1) (f_L_enters_b190 N 1 (w 2) o kd q x (x * w (14 + kd) / 1000) (if (us w o + x * w (14 + kd) / 1000) * w 7 / 100 ≤ w (20 + 4 * o + 1) then 1 else 0) (if 0 < w (20 + 4 * o + 2) then 1 else 0) (mk w c m a)) c m a := by
  have hk := zST_K S
  have I := S.1.1.1
  have g := I.hd; unfold HEAD at g
  have hy : yEn w o kd q x = if 0 < w (20 + 4 * o + 2) then 1 else if w 2 = 30 then 5 else if (us w o + x * w (14 + kd) / 1000) * w 7 / 100 ≤ w (20 + 4 * o + 1) then 0 else 2 := by
    unfold yEn
    rw [if_pos z1, if_pos z2, if_pos (show 1 ≤ q ∧ q ≤ 1000000 by omega), if_pos z4]
  unfold f_L_enters_b190
  by_cases q1 : 0 < w (20 + 4 * o + 2)
  · rw [if_pos q1] at hy ⊢
    have e := en_bad (N := N) m hN S hy (by omega)
    rw [show cd 1 = -100000003 from rfl] at e
    obtain ⟨w', c', a', e1, S1, r⟩ := l_en_r (N := N) m hN S hy (by omega) (x3 := w 2) (x12 := 1) rfl
    refine ⟨w', c', a', ?_, zST_mono S1 (by omega), r⟩
    simp only [to_bz, to_nz, to_cz, to_iz]
    simp (disch := omega) only [e, e1, bz_t, nz_t, cz_T, cz_t, iz_T, iz_F, iz_y, iz_n, not_true_eq_false, not_false_eq_true, true_and, and_true, w32_e, w64_e, mset_e, mset_n, up_e, up_n, if_y, if_n, Int.add_zero, mk_1_m2, mk_1_0, mk_1_1, mk_1_2, mk_1_3, mk_1_4, mk_1_5, mk_1_6, mk_2_m2, mk_2_0, mk_2_1, mk_2_2, mk_2_3, mk_2_4, mk_2_5, mk_2_6, mk_2_7, mk_2_8, mk_2_9, mk_2_10, mk_3_m2, mk_3_0, mk_3_1, mk_3_2, mk_3_3, mk_3_4, mk_3_5, mk_4_m2, mk_4_m1, mk_5_m2, mk_5_m1, mk_11_m2, mk_11_m1, mk_42_m2, mk_42_m1, mk_73_m2, mk_73_0, mk_73_1, mk_73_2, mk_74_m2, mk_74_m1, mk_572_m2, mk_572_m1, mk_715_m2, mk_715_m1, mk_717_m2, mk_717_m1, mk_718_m2, mk_718_m1, mk_716_m2, mk_716_0, mk_716_1, mk_716_2, mk_716_3, mk_716_4, mk_719_m2, mk_74_at, mk_572_at, mk_715_at, mk_717_at, mk_718_at, mk_4_at, mk_5_at, mk_11_at, mk_42_at, mk_O_k, mk_O_0, mk_O_1, mk_O_2, mk_O_3, mk_L_k, mk_L_0, mk_L_1, mk_L_2, mk_L_3, mk_L_4, mk_L_5, mk_L_6, mk_L_7, mk_L_8, mk_L_9, mk_L_10, mk_X_k, mk_X_0, mk_X_1, mk_X_2, mk_X_3, mk_X_4, mk_75_k, mk_573_k, r_1_6, r_73_1, r_73_2, r_716_1, r_716_2, r_716_3, r_715, r_717, r_718, s_O0, s_O1, s_O2, s_O3, s_L0, s_L1, s_L2, s_L3, s_L4, s_L5, s_L6, s_L7, s_L8, s_L9, s_L10, s_X0, s_X1, s_X2, s_X3, s_X4, s_2_4, s_2_5, s_2_6, s_2_7, s_2_8, s_2_9, s_2_10, s_3_1, s_3_2, s_3_3, s_3_4, s_3_5, s_4]
  · rw [if_neg q1] at hy ⊢
    by_cases q2 : w 2 = 30
    · rw [if_pos q2] at hy
      have e := en_bad (N := N) m hN S hy (by omega)
      rw [show cd 5 = -100000003 from rfl] at e
      obtain ⟨w', c', a', e1, S1, r⟩ := l_en_r (N := N) m hN S hy (by omega) (x3 := w 2) (x12 := 0) (by rw [if_pos rfl, if_pos q2])
      refine ⟨w', c', a', ?_, zST_mono S1 (by omega), r⟩
      simp only [to_bz, to_nz, to_cz, to_iz]
      simp (disch := omega) only [e, e1, bz_t, nz_t, cz_T, cz_t, iz_T, iz_F, iz_y, iz_n, not_true_eq_false, not_false_eq_true, true_and, and_true, w32_e, w64_e, mset_e, mset_n, up_e, up_n, if_y, if_n, Int.add_zero, mk_1_m2, mk_1_0, mk_1_1, mk_1_2, mk_1_3, mk_1_4, mk_1_5, mk_1_6, mk_2_m2, mk_2_0, mk_2_1, mk_2_2, mk_2_3, mk_2_4, mk_2_5, mk_2_6, mk_2_7, mk_2_8, mk_2_9, mk_2_10, mk_3_m2, mk_3_0, mk_3_1, mk_3_2, mk_3_3, mk_3_4, mk_3_5, mk_4_m2, mk_4_m1, mk_5_m2, mk_5_m1, mk_11_m2, mk_11_m1, mk_42_m2, mk_42_m1, mk_73_m2, mk_73_0, mk_73_1, mk_73_2, mk_74_m2, mk_74_m1, mk_572_m2, mk_572_m1, mk_715_m2, mk_715_m1, mk_717_m2, mk_717_m1, mk_718_m2, mk_718_m1, mk_716_m2, mk_716_0, mk_716_1, mk_716_2, mk_716_3, mk_716_4, mk_719_m2, mk_74_at, mk_572_at, mk_715_at, mk_717_at, mk_718_at, mk_4_at, mk_5_at, mk_11_at, mk_42_at, mk_O_k, mk_O_0, mk_O_1, mk_O_2, mk_O_3, mk_L_k, mk_L_0, mk_L_1, mk_L_2, mk_L_3, mk_L_4, mk_L_5, mk_L_6, mk_L_7, mk_L_8, mk_L_9, mk_L_10, mk_X_k, mk_X_0, mk_X_1, mk_X_2, mk_X_3, mk_X_4, mk_75_k, mk_573_k, r_1_6, r_73_1, r_73_2, r_716_1, r_716_2, r_716_3, r_715, r_717, r_718, s_O0, s_O1, s_O2, s_O3, s_L0, s_L1, s_L2, s_L3, s_L4, s_L5, s_L6, s_L7, s_L8, s_L9, s_L10, s_X0, s_X1, s_X2, s_X3, s_X4, s_2_4, s_2_5, s_2_6, s_2_7, s_2_8, s_2_9, s_2_10, s_3_1, s_3_2, s_3_3, s_3_4, s_3_5, s_4]
    · rw [if_neg q2] at hy
      by_cases q3 : (us w o + x * w (14 + kd) / 1000) * w 7 / 100 ≤ w (20 + 4 * o + 1)
      · rw [if_pos q3] at hy ⊢
        have e := en_good (N := N) m hN S hy
        have S' := zST_ok S (show K ≤ K + 1 ∧ K + 1 ≤ 60000 by omega) (JV_En S.1 hK (by omega) hy)
        have e2 : dEn w o kd q x 2 = w 2 + 1 := by unfold dEn; simp (disch := omega) only [up_n, up_e]
        have eo : ∀ i, i ≠ 2 → i < 40 → dEn w o kd q x i = w i := by
          intro i i0 i1; unfold dEn; simp (disch := omega) only [up_n]
        have d0 : dEn w o kd q x (40 + 11 * w 2) = o := by unfold dEn; simp (disch := omega) only [up_n, up_e]
        have d1 : dEn w o kd q x (40 + 11 * w 2 + 1) = kd := by unfold dEn; simp (disch := omega) only [up_n, up_e]
        have d2 : dEn w o kd q x (40 + 11 * w 2 + 2) = q := by unfold dEn; simp (disch := omega) only [up_n, up_e]
        have d3 : dEn w o kd q x (40 + 11 * w 2 + 3) = x := by unfold dEn; simp (disch := omega) only [up_n, up_e]
        have d4 : dEn w o kd q x (40 + 11 * w 2 + 4) = w 0 := by unfold dEn; simp (disch := omega) only [up_n, up_e]
        have d5 : dEn w o kd q x (40 + 11 * w 2 + 5) = w 0 + w 5 := by unfold dEn; simp (disch := omega) only [up_n, up_e]
        have d6 : dEn w o kd q x (40 + 11 * w 2 + 6) = x * w (14 + kd) / 1000 := by unfold dEn; simp (disch := omega) only [up_n, up_e]
        have d7 : dEn w o kd q x (40 + 11 * w 2 + 7) = 0 := by unfold dEn; simp (disch := omega) only [up_n, up_e]
        have f0 := eo 0 (by omega) (by omega)
        have f5 := eo 5 (by omega) (by omega)
        have f1 := eo 1 (by omega) (by omega)
        have JS := S'.1
        generalize dEn w o kd q x = u at *
        have I' := JS.1.1
        have zl : 0 ≤ w 2 ∧ w 2 < u 2 := by omega
        generalize hc9 : uc c ((a 73 1 + a 73 2) % 7 + 1) w = c1 at *
        have l0 := q_lot_0 (N := N) (c := c1) m (a := apA a) I' zl
        have l1 := q_lot_1 (N := N) (c := c1) m (a := apA a) I' zl
        have l2 := q_lot_2 (N := N) (c := c1) m (a := apA a) I' zl
        have l3 := q_lot_3 (N := N) (c := c1) m (a := apA a) I' zl
        have l4 := q_lot_4 (N := N) (c := c1) m (a := apA a) I' zl
        have l5 := q_lot_5 (N := N) (c := c1) m (a := apA a) I' zl
        have l6 := q_lot_6 (N := N) (c := c1) m (a := apA a) I' zl
        have l7 := q_lot_7 (N := N) (c := c1) m (a := apA a) I' zl
        have lu : un u (w 2) = q := by unfold un; omega
        rw [d0] at l0; rw [d1] at l1; rw [d2] at l2; rw [d3] at l3; rw [d4] at l4; rw [d5] at l5; rw [d6] at l6; rw [lu] at l7
        have c0 := q_count_0 (N := N) (c := c1) m (a := apA a) I'
        have c6 := q_count_6 (N := N) (c := c1) m (a := apA a) I'
        rw [f0] at c0
        rw [f5] at c6
        have y1 : yEn u o 6 1 0 = -1 := by unfold yEn; rw [if_pos (show 0 ≤ o ∧ o < u 1 by omega), if_neg (by omega)]
        have x1 := en_bad (N := N) m hN S' y1 (by omega)
        have S2 := act_er S' u (show (-1 : Int) ≤ 6 by omega)
        have y2 : yEn u o 0 0 0 = -2 := by unfold yEn; rw [if_pos (show 0 ≤ o ∧ o < u 1 by omega), if_pos (by omega), if_neg (by omega)]
        have x2 := en_bad (N := N) m hN S2 y2 (by omega)
        have S3 := act_er S2 u (show (-2 : Int) ≤ 6 by omega)
        have y3 : yEn u o 0 1 10000001 = -2 := by unfold yEn; rw [if_pos (show 0 ≤ o ∧ o < u 1 by omega), if_pos (by omega), if_pos (by omega), if_neg (by omega)]
        have x3 := en_bad (N := N) m hN S3 y3 (by omega)
        have S4 := act_er S3 u (show (-2 : Int) ≤ 6 by omega)
        rw [show cd (-1) = -100000001 from rfl] at x1
        rw [show cd (-2) = -100000002 from rfl] at x2 x3
        refine ⟨_, _, _, ?_, S4, ?_, ?_⟩
        · simp only [to_bz, to_nz, to_cz, to_iz]
          simp (disch := omega) only [e, l0, l1, l2, l3, l4, l5, l6, l7, c0, c6, x1, x2, x3, bz_t, nz_t, cz_T, cz_t, iz_T, iz_F, iz_y, iz_n, not_true_eq_false, not_false_eq_true, true_and, and_true, w32_e, w64_e, mset_e, mset_n, up_e, up_n, if_y, if_n, Int.add_zero, mk_1_m2, mk_1_0, mk_1_1, mk_1_2, mk_1_3, mk_1_4, mk_1_5, mk_1_6, mk_2_m2, mk_2_0, mk_2_1, mk_2_2, mk_2_3, mk_2_4, mk_2_5, mk_2_6, mk_2_7, mk_2_8, mk_2_9, mk_2_10, mk_3_m2, mk_3_0, mk_3_1, mk_3_2, mk_3_3, mk_3_4, mk_3_5, mk_4_m2, mk_4_m1, mk_5_m2, mk_5_m1, mk_11_m2, mk_11_m1, mk_42_m2, mk_42_m1, mk_73_m2, mk_73_0, mk_73_1, mk_73_2, mk_74_m2, mk_74_m1, mk_572_m2, mk_572_m1, mk_715_m2, mk_715_m1, mk_717_m2, mk_717_m1, mk_718_m2, mk_718_m1, mk_716_m2, mk_716_0, mk_716_1, mk_716_2, mk_716_3, mk_716_4, mk_719_m2, mk_74_at, mk_572_at, mk_715_at, mk_717_at, mk_718_at, mk_4_at, mk_5_at, mk_11_at, mk_42_at, mk_O_k, mk_O_0, mk_O_1, mk_O_2, mk_O_3, mk_L_k, mk_L_0, mk_L_1, mk_L_2, mk_L_3, mk_L_4, mk_L_5, mk_L_6, mk_L_7, mk_L_8, mk_L_9, mk_L_10, mk_X_k, mk_X_0, mk_X_1, mk_X_2, mk_X_3, mk_X_4, mk_75_k, mk_573_k, r_1_6, r_73_1, r_73_2, r_716_1, r_716_2, r_716_3, r_715, r_717, r_718, s_O0, s_O1, s_O2, s_O3, s_L0, s_L1, s_L2, s_L3, s_L4, s_L5, s_L6, s_L7, s_L8, s_L9, s_L10, s_X0, s_X1, s_X2, s_X3, s_X4, s_2_4, s_2_5, s_2_6, s_2_7, s_2_8, s_2_9, s_2_10, s_3_1, s_3_2, s_3_3, s_3_4, s_3_5, s_4]
        · rw [uc9 S3, uc9 S2, uc9 S', ← hc9, uc9 S]
        · rw [rb_7, rb_7, rb_7]; exact apA_7
      · rw [if_neg q3] at hy ⊢
        have e := en_bad (N := N) m hN S hy (by omega)
        rw [show cd 2 = -100000003 from rfl] at e
        obtain ⟨w', c', a', e1, S1, r⟩ := l_en_r (N := N) m hN S hy (by omega) (x3 := w 2) (x12 := 0) (by rw [if_pos rfl, if_neg q2])
        refine ⟨w', c', a', ?_, zST_mono S1 (by omega), r⟩
        simp only [to_bz, to_nz, to_cz, to_iz]
        simp (disch := omega) only [e, e1, bz_t, nz_t, cz_T, cz_t, iz_T, iz_F, iz_y, iz_n, not_true_eq_false, not_false_eq_true, true_and, and_true, w32_e, w64_e, mset_e, mset_n, up_e, up_n, if_y, if_n, Int.add_zero, mk_1_m2, mk_1_0, mk_1_1, mk_1_2, mk_1_3, mk_1_4, mk_1_5, mk_1_6, mk_2_m2, mk_2_0, mk_2_1, mk_2_2, mk_2_3, mk_2_4, mk_2_5, mk_2_6, mk_2_7, mk_2_8, mk_2_9, mk_2_10, mk_3_m2, mk_3_0, mk_3_1, mk_3_2, mk_3_3, mk_3_4, mk_3_5, mk_4_m2, mk_4_m1, mk_5_m2, mk_5_m1, mk_11_m2, mk_11_m1, mk_42_m2, mk_42_m1, mk_73_m2, mk_73_0, mk_73_1, mk_73_2, mk_74_m2, mk_74_m1, mk_572_m2, mk_572_m1, mk_715_m2, mk_715_m1, mk_717_m2, mk_717_m1, mk_718_m2, mk_718_m1, mk_716_m2, mk_716_0, mk_716_1, mk_716_2, mk_716_3, mk_716_4, mk_719_m2, mk_74_at, mk_572_at, mk_715_at, mk_717_at, mk_718_at, mk_4_at, mk_5_at, mk_11_at, mk_42_at, mk_O_k, mk_O_0, mk_O_1, mk_O_2, mk_O_3, mk_L_k, mk_L_0, mk_L_1, mk_L_2, mk_L_3, mk_L_4, mk_L_5, mk_L_6, mk_L_7, mk_L_8, mk_L_9, mk_L_10, mk_X_k, mk_X_0, mk_X_1, mk_X_2, mk_X_3, mk_X_4, mk_75_k, mk_573_k, r_1_6, r_73_1, r_73_2, r_716_1, r_716_2, r_716_3, r_715, r_717, r_718, s_O0, s_O1, s_O2, s_O3, s_L0, s_L1, s_L2, s_L3, s_L4, s_L5, s_L6, s_L7, s_L8, s_L9, s_L10, s_X0, s_X1, s_X2, s_X3, s_X4, s_2_4, s_2_5, s_2_6, s_2_7, s_2_8, s_2_9, s_2_10, s_3_1, s_3_2, s_3_3, s_3_4, s_3_5, s_4]
theorem l_en105 (hN : 5000 ≤ N) (S : zST K w c a) (hK : K + 1 ≤ 60000) {o kd q y n : Int} (z1 : 0 ≤ o ∧ o < w 1) (z2 : 0 ≤ kd ∧ kd ≤ 5) (z3 : 1 ≤ q ∧ q ≤ 2001) (z4 : 1 ≤ n ∧ n ≤ 3000000) :
    nO (K + 1) (f_L_enters_b105 N 1 (w 2) o kd q y n (mk w c m a)) c m a := by
  have I := S.1.1.1
  have g := I.hd; unfold HEAD at g
  have ow := I.own (o := o) (by omega); unfold OWN at ow
  have t := I.usT o
  have rt := I.rt (k := kd) (by omega)
  have lb := lw_b y (n := n) (by omega)
  have lq := q_low (N := N) (g := y) (n := n) (by omega)
  generalize lw y n = x at *
  obtain ⟨w', c', a', e, r⟩ := l_en190 (N := N) m hN S hK z1 z2 z3 (x := x) (by omega)
  refine ⟨w', c', a', ?_, r⟩
  have rk := q_rate (N := N) (c := c) m (a := a) I z2
  have o1 := q_owner_1 (N := N) (c := c) m (a := a) I z1
  have o2 := q_owner_2 (N := N) (c := c) m (a := a) I z1
  have o3 := q_owner_3 (N := N) (c := c) m (a := a) hN I z1
  have c8 := q_count_8 (N := N) (c := c) m (a := a) I
  have p1 := mul_le (show 0 ≤ x ∧ x ≤ 3000000 by omega) rt
  have e1 : Int.tdiv (x * w (14 + kd)) 1000 = x * w (14 + kd) / 1000 := Int.tdiv_eq_ediv_of_nonneg p1.1
  have d1 : 0 ≤ x * w (14 + kd) / 1000 ∧ x * w (14 + kd) / 1000 ≤ 3000000 := by omega
  generalize x * w (14 + kd) / 1000 = du at *
  have p3 := mul_le (show 0 ≤ us w o + du ∧ us w o + du ≤ 310000000 by omega) (show 0 ≤ w 7 ∧ w 7 ≤ 100 by omega)
  have e3 : Int.tdiv ((us w o + du) * w 7) 100 = (us w o + du) * w 7 / 100 := Int.tdiv_eq_ediv_of_nonneg p3.1
  unfold f_L_enters_b105 f_L_enters_b171
  by_cases q1 : (us w o + du) * w 7 / 100 ≤ w (20 + 4 * o + 1)
  · rw [if_pos q1] at e
    by_cases q2 : 0 < w (20 + 4 * o + 2)
    · rw [if_pos q2] at e
      simp only [to_bz, to_nz, to_cz, to_iz]
      simp (disch := omega) only [lq, rk, e1, o3, c8, e3, o1, o2, e, bz_t, nz_t, cz_T, cz_t, iz_T, iz_F, iz_y, iz_n, not_true_eq_false, not_false_eq_true, true_and, and_true, w32_e, w64_e, mset_e, mset_n, up_e, up_n, if_y, if_n, Int.add_zero, mk_1_m2, mk_1_0, mk_1_1, mk_1_2, mk_1_3, mk_1_4, mk_1_5, mk_1_6, mk_2_m2, mk_2_0, mk_2_1, mk_2_2, mk_2_3, mk_2_4, mk_2_5, mk_2_6, mk_2_7, mk_2_8, mk_2_9, mk_2_10, mk_3_m2, mk_3_0, mk_3_1, mk_3_2, mk_3_3, mk_3_4, mk_3_5, mk_4_m2, mk_4_m1, mk_5_m2, mk_5_m1, mk_11_m2, mk_11_m1, mk_42_m2, mk_42_m1, mk_73_m2, mk_73_0, mk_73_1, mk_73_2, mk_74_m2, mk_74_m1, mk_572_m2, mk_572_m1, mk_715_m2, mk_715_m1, mk_717_m2, mk_717_m1, mk_718_m2, mk_718_m1, mk_716_m2, mk_716_0, mk_716_1, mk_716_2, mk_716_3, mk_716_4, mk_719_m2, mk_74_at, mk_572_at, mk_715_at, mk_717_at, mk_718_at, mk_4_at, mk_5_at, mk_11_at, mk_42_at, mk_O_k, mk_O_0, mk_O_1, mk_O_2, mk_O_3, mk_L_k, mk_L_0, mk_L_1, mk_L_2, mk_L_3, mk_L_4, mk_L_5, mk_L_6, mk_L_7, mk_L_8, mk_L_9, mk_L_10, mk_X_k, mk_X_0, mk_X_1, mk_X_2, mk_X_3, mk_X_4, mk_75_k, mk_573_k, r_1_6, r_73_1, r_73_2, r_716_1, r_716_2, r_716_3, r_715, r_717, r_718, s_O0, s_O1, s_O2, s_O3, s_L0, s_L1, s_L2, s_L3, s_L4, s_L5, s_L6, s_L7, s_L8, s_L9, s_L10, s_X0, s_X1, s_X2, s_X3, s_X4, s_2_4, s_2_5, s_2_6, s_2_7, s_2_8, s_2_9, s_2_10, s_3_1, s_3_2, s_3_3, s_3_4, s_3_5, s_4]
    · rw [if_neg q2] at e
      simp only [to_bz, to_nz, to_cz, to_iz]
      simp (disch := omega) only [lq, rk, e1, o3, c8, e3, o1, o2, e, bz_t, nz_t, cz_T, cz_t, iz_T, iz_F, iz_y, iz_n, not_true_eq_false, not_false_eq_true, true_and, and_true, w32_e, w64_e, mset_e, mset_n, up_e, up_n, if_y, if_n, Int.add_zero, mk_1_m2, mk_1_0, mk_1_1, mk_1_2, mk_1_3, mk_1_4, mk_1_5, mk_1_6, mk_2_m2, mk_2_0, mk_2_1, mk_2_2, mk_2_3, mk_2_4, mk_2_5, mk_2_6, mk_2_7, mk_2_8, mk_2_9, mk_2_10, mk_3_m2, mk_3_0, mk_3_1, mk_3_2, mk_3_3, mk_3_4, mk_3_5, mk_4_m2, mk_4_m1, mk_5_m2, mk_5_m1, mk_11_m2, mk_11_m1, mk_42_m2, mk_42_m1, mk_73_m2, mk_73_0, mk_73_1, mk_73_2, mk_74_m2, mk_74_m1, mk_572_m2, mk_572_m1, mk_715_m2, mk_715_m1, mk_717_m2, mk_717_m1, mk_718_m2, mk_718_m1, mk_716_m2, mk_716_0, mk_716_1, mk_716_2, mk_716_3, mk_716_4, mk_719_m2, mk_74_at, mk_572_at, mk_715_at, mk_717_at, mk_718_at, mk_4_at, mk_5_at, mk_11_at, mk_42_at, mk_O_k, mk_O_0, mk_O_1, mk_O_2, mk_O_3, mk_L_k, mk_L_0, mk_L_1, mk_L_2, mk_L_3, mk_L_4, mk_L_5, mk_L_6, mk_L_7, mk_L_8, mk_L_9, mk_L_10, mk_X_k, mk_X_0, mk_X_1, mk_X_2, mk_X_3, mk_X_4, mk_75_k, mk_573_k, r_1_6, r_73_1, r_73_2, r_716_1, r_716_2, r_716_3, r_715, r_717, r_718, s_O0, s_O1, s_O2, s_O3, s_L0, s_L1, s_L2, s_L3, s_L4, s_L5, s_L6, s_L7, s_L8, s_L9, s_L10, s_X0, s_X1, s_X2, s_X3, s_X4, s_2_4, s_2_5, s_2_6, s_2_7, s_2_8, s_2_9, s_2_10, s_3_1, s_3_2, s_3_3, s_3_4, s_3_5, s_4]
  · rw [if_neg q1] at e
    by_cases q2 : 0 < w (20 + 4 * o + 2)
    · rw [if_pos q2] at e
      simp only [to_bz, to_nz, to_cz, to_iz]
      simp (disch := omega) only [lq, rk, e1, o3, c8, e3, o1, o2, e, bz_t, nz_t, cz_T, cz_t, iz_T, iz_F, iz_y, iz_n, not_true_eq_false, not_false_eq_true, true_and, and_true, w32_e, w64_e, mset_e, mset_n, up_e, up_n, if_y, if_n, Int.add_zero, mk_1_m2, mk_1_0, mk_1_1, mk_1_2, mk_1_3, mk_1_4, mk_1_5, mk_1_6, mk_2_m2, mk_2_0, mk_2_1, mk_2_2, mk_2_3, mk_2_4, mk_2_5, mk_2_6, mk_2_7, mk_2_8, mk_2_9, mk_2_10, mk_3_m2, mk_3_0, mk_3_1, mk_3_2, mk_3_3, mk_3_4, mk_3_5, mk_4_m2, mk_4_m1, mk_5_m2, mk_5_m1, mk_11_m2, mk_11_m1, mk_42_m2, mk_42_m1, mk_73_m2, mk_73_0, mk_73_1, mk_73_2, mk_74_m2, mk_74_m1, mk_572_m2, mk_572_m1, mk_715_m2, mk_715_m1, mk_717_m2, mk_717_m1, mk_718_m2, mk_718_m1, mk_716_m2, mk_716_0, mk_716_1, mk_716_2, mk_716_3, mk_716_4, mk_719_m2, mk_74_at, mk_572_at, mk_715_at, mk_717_at, mk_718_at, mk_4_at, mk_5_at, mk_11_at, mk_42_at, mk_O_k, mk_O_0, mk_O_1, mk_O_2, mk_O_3, mk_L_k, mk_L_0, mk_L_1, mk_L_2, mk_L_3, mk_L_4, mk_L_5, mk_L_6, mk_L_7, mk_L_8, mk_L_9, mk_L_10, mk_X_k, mk_X_0, mk_X_1, mk_X_2, mk_X_3, mk_X_4, mk_75_k, mk_573_k, r_1_6, r_73_1, r_73_2, r_716_1, r_716_2, r_716_3, r_715, r_717, r_718, s_O0, s_O1, s_O2, s_O3, s_L0, s_L1, s_L2, s_L3, s_L4, s_L5, s_L6, s_L7, s_L8, s_L9, s_L10, s_X0, s_X1, s_X2, s_X3, s_X4, s_2_4, s_2_5, s_2_6, s_2_7, s_2_8, s_2_9, s_2_10, s_3_1, s_3_2, s_3_3, s_3_4, s_3_5, s_4]
    · rw [if_neg q2] at e
      simp only [to_bz, to_nz, to_cz, to_iz]
      simp (disch := omega) only [lq, rk, e1, o3, c8, e3, o1, o2, e, bz_t, nz_t, cz_T, cz_t, iz_T, iz_F, iz_y, iz_n, not_true_eq_false, not_false_eq_true, true_and, and_true, w32_e, w64_e, mset_e, mset_n, up_e, up_n, if_y, if_n, Int.add_zero, mk_1_m2, mk_1_0, mk_1_1, mk_1_2, mk_1_3, mk_1_4, mk_1_5, mk_1_6, mk_2_m2, mk_2_0, mk_2_1, mk_2_2, mk_2_3, mk_2_4, mk_2_5, mk_2_6, mk_2_7, mk_2_8, mk_2_9, mk_2_10, mk_3_m2, mk_3_0, mk_3_1, mk_3_2, mk_3_3, mk_3_4, mk_3_5, mk_4_m2, mk_4_m1, mk_5_m2, mk_5_m1, mk_11_m2, mk_11_m1, mk_42_m2, mk_42_m1, mk_73_m2, mk_73_0, mk_73_1, mk_73_2, mk_74_m2, mk_74_m1, mk_572_m2, mk_572_m1, mk_715_m2, mk_715_m1, mk_717_m2, mk_717_m1, mk_718_m2, mk_718_m1, mk_716_m2, mk_716_0, mk_716_1, mk_716_2, mk_716_3, mk_716_4, mk_719_m2, mk_74_at, mk_572_at, mk_715_at, mk_717_at, mk_718_at, mk_4_at, mk_5_at, mk_11_at, mk_42_at, mk_O_k, mk_O_0, mk_O_1, mk_O_2, mk_O_3, mk_L_k, mk_L_0, mk_L_1, mk_L_2, mk_L_3, mk_L_4, mk_L_5, mk_L_6, mk_L_7, mk_L_8, mk_L_9, mk_L_10, mk_X_k, mk_X_0, mk_X_1, mk_X_2, mk_X_3, mk_X_4, mk_75_k, mk_573_k, r_1_6, r_73_1, r_73_2, r_716_1, r_716_2, r_716_3, r_715, r_717, r_718, s_O0, s_O1, s_O2, s_O3, s_L0, s_L1, s_L2, s_L3, s_L4, s_L5, s_L6, s_L7, s_L8, s_L9, s_L10, s_X0, s_X1, s_X2, s_X3, s_X4, s_2_4, s_2_5, s_2_6, s_2_7, s_2_8, s_2_9, s_2_10, s_3_1, s_3_2, s_3_3, s_3_4, s_3_5, s_4]
theorem l_en81 (hN : 5000 ≤ N) (S : zST K w c a) (hK : K + 1 ≤ 60000) {o kd y1 y2 x1 x2 : Int} (z1 : 0 ≤ o ∧ o < w 1) (z2 : 0 ≤ kd ∧ kd ≤ 5) (z4 : 1 ≤ y2 ∧ y2 ≤ 2000) :
    nO (K + 1) (f_L_enters_b81 N 1 x1 x2 (w 2) o kd 1 y1 y2 (mk w c m a)) c m a := by
  have lb := lw_b y1 (n := y2) (by omega)
  have lq := q_low (N := N) (g := y1) (n := y2) (by omega)
  generalize lw y1 y2 = v at *
  unfold f_L_enters_b81
  by_cases q : o_and x1 64 = 0
  · obtain ⟨w', c', a', e, r⟩ := l_en105 (N := N) m hN S hK z1 z2 (q := 1 + v) (y := o_shr x2 3) (n := 20000) (by omega) (by omega)
    refine ⟨w', c', a', ?_, r⟩
    simp only [to_bz, to_nz, to_cz, to_iz]
    simp (disch := omega) only [lq, q, e, bz_t, nz_t, cz_T, cz_t, iz_T, iz_F, iz_y, iz_n, not_true_eq_false, not_false_eq_true, true_and, and_true, w32_e, w64_e, mset_e, mset_n, up_e, up_n, if_y, if_n, Int.add_zero, mk_1_m2, mk_1_0, mk_1_1, mk_1_2, mk_1_3, mk_1_4, mk_1_5, mk_1_6, mk_2_m2, mk_2_0, mk_2_1, mk_2_2, mk_2_3, mk_2_4, mk_2_5, mk_2_6, mk_2_7, mk_2_8, mk_2_9, mk_2_10, mk_3_m2, mk_3_0, mk_3_1, mk_3_2, mk_3_3, mk_3_4, mk_3_5, mk_4_m2, mk_4_m1, mk_5_m2, mk_5_m1, mk_11_m2, mk_11_m1, mk_42_m2, mk_42_m1, mk_73_m2, mk_73_0, mk_73_1, mk_73_2, mk_74_m2, mk_74_m1, mk_572_m2, mk_572_m1, mk_715_m2, mk_715_m1, mk_717_m2, mk_717_m1, mk_718_m2, mk_718_m1, mk_716_m2, mk_716_0, mk_716_1, mk_716_2, mk_716_3, mk_716_4, mk_719_m2, mk_74_at, mk_572_at, mk_715_at, mk_717_at, mk_718_at, mk_4_at, mk_5_at, mk_11_at, mk_42_at, mk_O_k, mk_O_0, mk_O_1, mk_O_2, mk_O_3, mk_L_k, mk_L_0, mk_L_1, mk_L_2, mk_L_3, mk_L_4, mk_L_5, mk_L_6, mk_L_7, mk_L_8, mk_L_9, mk_L_10, mk_X_k, mk_X_0, mk_X_1, mk_X_2, mk_X_3, mk_X_4, mk_75_k, mk_573_k, r_1_6, r_73_1, r_73_2, r_716_1, r_716_2, r_716_3, r_715, r_717, r_718, s_O0, s_O1, s_O2, s_O3, s_L0, s_L1, s_L2, s_L3, s_L4, s_L5, s_L6, s_L7, s_L8, s_L9, s_L10, s_X0, s_X1, s_X2, s_X3, s_X4, s_2_4, s_2_5, s_2_6, s_2_7, s_2_8, s_2_9, s_2_10, s_3_1, s_3_2, s_3_3, s_3_4, s_3_5, s_4]
  · obtain ⟨w', c', a', e, r⟩ := l_en105 (N := N) m hN S hK z1 z2 (q := 1 + v) (y := o_shr x2 3) (n := 3000000) (by omega) (by omega)
    refine ⟨w', c', a', ?_, r⟩
    simp only [to_bz, to_nz, to_cz, to_iz]
    simp (disch := omega) only [lq, q, e, bz_t, nz_t, cz_T, cz_t, iz_T, iz_F, iz_y, iz_n, not_true_eq_false, not_false_eq_true, true_and, and_true, w32_e, w64_e, mset_e, mset_n, up_e, up_n, if_y, if_n, Int.add_zero, mk_1_m2, mk_1_0, mk_1_1, mk_1_2, mk_1_3, mk_1_4, mk_1_5, mk_1_6, mk_2_m2, mk_2_0, mk_2_1, mk_2_2, mk_2_3, mk_2_4, mk_2_5, mk_2_6, mk_2_7, mk_2_8, mk_2_9, mk_2_10, mk_3_m2, mk_3_0, mk_3_1, mk_3_2, mk_3_3, mk_3_4, mk_3_5, mk_4_m2, mk_4_m1, mk_5_m2, mk_5_m1, mk_11_m2, mk_11_m1, mk_42_m2, mk_42_m1, mk_73_m2, mk_73_0, mk_73_1, mk_73_2, mk_74_m2, mk_74_m1, mk_572_m2, mk_572_m1, mk_715_m2, mk_715_m1, mk_717_m2, mk_717_m1, mk_718_m2, mk_718_m1, mk_716_m2, mk_716_0, mk_716_1, mk_716_2, mk_716_3, mk_716_4, mk_719_m2, mk_74_at, mk_572_at, mk_715_at, mk_717_at, mk_718_at, mk_4_at, mk_5_at, mk_11_at, mk_42_at, mk_O_k, mk_O_0, mk_O_1, mk_O_2, mk_O_3, mk_L_k, mk_L_0, mk_L_1, mk_L_2, mk_L_3, mk_L_4, mk_L_5, mk_L_6, mk_L_7, mk_L_8, mk_L_9, mk_L_10, mk_X_k, mk_X_0, mk_X_1, mk_X_2, mk_X_3, mk_X_4, mk_75_k, mk_573_k, r_1_6, r_73_1, r_73_2, r_716_1, r_716_2, r_716_3, r_715, r_717, r_718, s_O0, s_O1, s_O2, s_O3, s_L0, s_L1, s_L2, s_L3, s_L4, s_L5, s_L6, s_L7, s_L8, s_L9, s_L10, s_X0, s_X1, s_X2, s_X3, s_X4, s_2_4, s_2_5, s_2_6, s_2_7, s_2_8, s_2_9, s_2_10, s_3_1, s_3_2, s_3_3, s_3_4, s_3_5, s_4]
theorem q_enters (hN : 5000 ≤ N) (S : zST K w c a) (hK : K + 1 ≤ 60000) (x1 x2 : Int) : nO (K + 1) (f_L_enters N 1 x1 x2 (mk w c m a)) c m a := by
  have hk := zST_K S
  have I := S.1.1.1
  have g := I.hd; unfold HEAD at g
  have c1 := q_count_1 (N := N) (c := c) m (a := a) I
  have c2 := q_count_2 (N := N) (c := c) m (a := a) I
  unfold f_L_enters
  by_cases q : w 1 = 0
  · have y1 : yEn w 0 0 1 0 = -1 := by unfold yEn; rw [if_neg (by omega)]
    have e1 := en_bad (N := N) m hN S y1 (by omega)
    rw [show cd (-1) = -100000001 from rfl] at e1
    have S2 := act_er S w (show (-1 : Int) ≤ 6 by omega)
    have e2 := x_deposit_u (N := N) m S2 (o := 0) (x := 1) (by omega)
    refine ⟨_, _, _, ?_, zST_mono S2 (by omega), uc9 S, rb_7 _⟩
    simp only [to_bz, to_nz, to_cz, to_iz]
    simp (disch := omega) only [c1, c2, e1, e2, bz_t, nz_t, cz_T, cz_t, iz_T, iz_F, iz_y, iz_n, not_true_eq_false, not_false_eq_true, true_and, and_true, w32_e, w64_e, mset_e, mset_n, up_e, up_n, if_y, if_n, Int.add_zero, mk_1_m2, mk_1_0, mk_1_1, mk_1_2, mk_1_3, mk_1_4, mk_1_5, mk_1_6, mk_2_m2, mk_2_0, mk_2_1, mk_2_2, mk_2_3, mk_2_4, mk_2_5, mk_2_6, mk_2_7, mk_2_8, mk_2_9, mk_2_10, mk_3_m2, mk_3_0, mk_3_1, mk_3_2, mk_3_3, mk_3_4, mk_3_5, mk_4_m2, mk_4_m1, mk_5_m2, mk_5_m1, mk_11_m2, mk_11_m1, mk_42_m2, mk_42_m1, mk_73_m2, mk_73_0, mk_73_1, mk_73_2, mk_74_m2, mk_74_m1, mk_572_m2, mk_572_m1, mk_715_m2, mk_715_m1, mk_717_m2, mk_717_m1, mk_718_m2, mk_718_m1, mk_716_m2, mk_716_0, mk_716_1, mk_716_2, mk_716_3, mk_716_4, mk_719_m2, mk_74_at, mk_572_at, mk_715_at, mk_717_at, mk_718_at, mk_4_at, mk_5_at, mk_11_at, mk_42_at, mk_O_k, mk_O_0, mk_O_1, mk_O_2, mk_O_3, mk_L_k, mk_L_0, mk_L_1, mk_L_2, mk_L_3, mk_L_4, mk_L_5, mk_L_6, mk_L_7, mk_L_8, mk_L_9, mk_L_10, mk_X_k, mk_X_0, mk_X_1, mk_X_2, mk_X_3, mk_X_4, mk_75_k, mk_573_k, r_1_6, r_73_1, r_73_2, r_716_1, r_716_2, r_716_3, r_715, r_717, r_718, s_O0, s_O1, s_O2, s_O3, s_L0, s_L1, s_L2, s_L3, s_L4, s_L5, s_L6, s_L7, s_L8, s_L9, s_L10, s_X0, s_X1, s_X2, s_X3, s_X4, s_2_4, s_2_5, s_2_6, s_2_7, s_2_8, s_2_9, s_2_10, s_3_1, s_3_2, s_3_3, s_3_4, s_3_5, s_4]
  · have lb := lw_b x1 (n := w 1) (by omega)
    have lb2 := lw_b (o_shr x1 3) (n := 6) (by omega)
    have lq := q_low (N := N) (g := x1) (n := w 1) (by omega)
    have lq2 := q_low (N := N) (g := o_shr x1 3) (n := 6) (by omega)
    generalize lw x1 (w 1) = o at *
    generalize lw (o_shr x1 3) 6 = kd at *
    by_cases q2 : o_and x2 1 = 0
    · obtain ⟨w', c', a', e, r⟩ := l_en81 (N := N) m hN S hK (o := o) (kd := kd) (y1 := x2) (y2 := 30) (x1 := x1) (x2 := x2) (by omega) (by omega) (by omega)
      refine ⟨w', c', a', ?_, r⟩
      simp only [to_bz, to_nz, to_cz, to_iz]
      simp (disch := omega) only [c1, c2, lq, lq2, q2, e, bz_t, nz_t, cz_T, cz_t, iz_T, iz_F, iz_y, iz_n, not_true_eq_false, not_false_eq_true, true_and, and_true, w32_e, w64_e, mset_e, mset_n, up_e, up_n, if_y, if_n, Int.add_zero, mk_1_m2, mk_1_0, mk_1_1, mk_1_2, mk_1_3, mk_1_4, mk_1_5, mk_1_6, mk_2_m2, mk_2_0, mk_2_1, mk_2_2, mk_2_3, mk_2_4, mk_2_5, mk_2_6, mk_2_7, mk_2_8, mk_2_9, mk_2_10, mk_3_m2, mk_3_0, mk_3_1, mk_3_2, mk_3_3, mk_3_4, mk_3_5, mk_4_m2, mk_4_m1, mk_5_m2, mk_5_m1, mk_11_m2, mk_11_m1, mk_42_m2, mk_42_m1, mk_73_m2, mk_73_0, mk_73_1, mk_73_2, mk_74_m2, mk_74_m1, mk_572_m2, mk_572_m1, mk_715_m2, mk_715_m1, mk_717_m2, mk_717_m1, mk_718_m2, mk_718_m1, mk_716_m2, mk_716_0, mk_716_1, mk_716_2, mk_716_3, mk_716_4, mk_719_m2, mk_74_at, mk_572_at, mk_715_at, mk_717_at, mk_718_at, mk_4_at, mk_5_at, mk_11_at, mk_42_at, mk_O_k, mk_O_0, mk_O_1, mk_O_2, mk_O_3, mk_L_k, mk_L_0, mk_L_1, mk_L_2, mk_L_3, mk_L_4, mk_L_5, mk_L_6, mk_L_7, mk_L_8, mk_L_9, mk_L_10, mk_X_k, mk_X_0, mk_X_1, mk_X_2, mk_X_3, mk_X_4, mk_75_k, mk_573_k, r_1_6, r_73_1, r_73_2, r_716_1, r_716_2, r_716_3, r_715, r_717, r_718, s_O0, s_O1, s_O2, s_O3, s_L0, s_L1, s_L2, s_L3, s_L4, s_L5, s_L6, s_L7, s_L8, s_L9, s_L10, s_X0, s_X1, s_X2, s_X3, s_X4, s_2_4, s_2_5, s_2_6, s_2_7, s_2_8, s_2_9, s_2_10, s_3_1, s_3_2, s_3_3, s_3_4, s_3_5, s_4]
    · obtain ⟨w', c', a', e, r⟩ := l_en81 (N := N) m hN S hK (o := o) (kd := kd) (y1 := x2) (y2 := 2000) (x1 := x1) (x2 := x2) (by omega) (by omega) (by omega)
      refine ⟨w', c', a', ?_, r⟩
      simp only [to_bz, to_nz, to_cz, to_iz]
      simp (disch := omega) only [c1, c2, lq, lq2, q2, e, bz_t, nz_t, cz_T, cz_t, iz_T, iz_F, iz_y, iz_n, not_true_eq_false, not_false_eq_true, true_and, and_true, w32_e, w64_e, mset_e, mset_n, up_e, up_n, if_y, if_n, Int.add_zero, mk_1_m2, mk_1_0, mk_1_1, mk_1_2, mk_1_3, mk_1_4, mk_1_5, mk_1_6, mk_2_m2, mk_2_0, mk_2_1, mk_2_2, mk_2_3, mk_2_4, mk_2_5, mk_2_6, mk_2_7, mk_2_8, mk_2_9, mk_2_10, mk_3_m2, mk_3_0, mk_3_1, mk_3_2, mk_3_3, mk_3_4, mk_3_5, mk_4_m2, mk_4_m1, mk_5_m2, mk_5_m1, mk_11_m2, mk_11_m1, mk_42_m2, mk_42_m1, mk_73_m2, mk_73_0, mk_73_1, mk_73_2, mk_74_m2, mk_74_m1, mk_572_m2, mk_572_m1, mk_715_m2, mk_715_m1, mk_717_m2, mk_717_m1, mk_718_m2, mk_718_m1, mk_716_m2, mk_716_0, mk_716_1, mk_716_2, mk_716_3, mk_716_4, mk_719_m2, mk_74_at, mk_572_at, mk_715_at, mk_717_at, mk_718_at, mk_4_at, mk_5_at, mk_11_at, mk_42_at, mk_O_k, mk_O_0, mk_O_1, mk_O_2, mk_O_3, mk_L_k, mk_L_0, mk_L_1, mk_L_2, mk_L_3, mk_L_4, mk_L_5, mk_L_6, mk_L_7, mk_L_8, mk_L_9, mk_L_10, mk_X_k, mk_X_0, mk_X_1, mk_X_2, mk_X_3, mk_X_4, mk_75_k, mk_573_k, r_1_6, r_73_1, r_73_2, r_716_1, r_716_2, r_716_3, r_715, r_717, r_718, s_O0, s_O1, s_O2, s_O3, s_L0, s_L1, s_L2, s_L3, s_L4, s_L5, s_L6, s_L7, s_L8, s_L9, s_L10, s_X0, s_X1, s_X2, s_X3, s_X4, s_2_4, s_2_5, s_2_6, s_2_7, s_2_8, s_2_9, s_2_10, s_3_1, s_3_2, s_3_3, s_3_4, s_3_5, s_4]
end ENTERS
