section MOVES
variable {N : Nat} {c : Int → Int → Int} (m : Int → Int) {a : Mm} {w : Int → Int} {K K' : Int}
theorem re_good (hN : 5000 ≤ N) (S : zST K w c a) {l q : Int} (y : yRe w l q = 0) : f_X7_release N 1 l q (mk w c m a) = some (dt w l (w (40 + 11 * l + 7)) q, mk (dRe w l q) (uc c ((a 73 1 + a 73 2) % 7 + 1) w) m (apA a)) ∧ 0 ≤ dt w l (w (40 + 11 * l + 7)) q := by
  have e := x_release N c m a hN S.2.1.1 S.2.1.2.1 S.1.1.1 l q
  have n : 0 ≤ dt w l (w (40 + 11 * l + 7)) q := (S.1.1.1.sub (by unfold yRe at y; split at y <;> assumption)).1
  unfold an rw0 rb at e
  rw [y] at e
  rw [if_pos rfl, if_pos rfl, if_neg (show ¬ (1 : Int) ≤ 0 by omega), if_neg (by omega)] at e
  exact ⟨e, n⟩
theorem re_bad (hN : 5000 ≤ N) (S : zST K w c a) {l q y : Int} (h : yRe w l q = y) (h0 : y ≠ 0) : f_X7_release N 1 l q (mk w c m a) = some (cd y, mk w (uc c ((a 73 1 + a 73 2) % 7 + 1) w) m (rb y a)) := by
  have e := x_release N c m a hN S.2.1.1 S.2.1.2.1 S.1.1.1 l q
  have n := cd_n h0
  unfold an rw0 at e
  rw [h] at e
  rw [if_neg h0, if_neg h0, if_pos n] at e
  exact e
theorem sa_good (hN : 5000 ≤ N) (S : zST K w c a) {l q : Int} (y : ySa w l q = 0) : f_X7_sample N 1 l q (mk w c m a) = some (sd w l q, mk (dSa w l q) (uc c ((a 73 1 + a 73 2) % 7 + 1) w) m (apA a)) ∧ 0 ≤ sd w l q := by
  have e := x_sample N c m a hN S.2.1.1 S.2.1.2.1 S.1.1.1 l q
  have n : 0 ≤ sd w l q := sd_0 S.1.1.1 y
  unfold an rw0 rb at e
  rw [y] at e
  rw [if_pos rfl, if_pos rfl, if_neg (show ¬ (1 : Int) ≤ 0 by omega), if_neg (by omega)] at e
  exact ⟨e, n⟩
theorem sa_bad (hN : 5000 ≤ N) (S : zST K w c a) {l q y : Int} (h : ySa w l q = y) (h0 : y ≠ 0) : f_X7_sample N 1 l q (mk w c m a) = some (cd y, mk w (uc c ((a 73 1 + a 73 2) % 7 + 1) w) m (rb y a)) := by
  have e := x_sample N c m a hN S.2.1.1 S.2.1.2.1 S.1.1.1 l q
  have n := cd_n h0
  unfold an rw0 at e
  rw [h] at e
  rw [if_neg h0, if_neg h0, if_pos n] at e
  exact e
theorem xp_good (hN : 5000 ≤ N) (S : zST K w c a) {l q : Int} (y : yXp w l q = 0) : f_X7_export N 1 l q (mk w c m a) = some (w 3, mk (dXp w l q) (uc c ((a 73 1 + a 73 2) % 7 + 1) w) m (apA a)) ∧ 0 ≤ w 3 := by
  have e := x_export N c m a hN S.2.1.1 S.2.1.2.1 S.1.1.1 l q
  have n : 0 ≤ w 3 := by have g := S.1.1.1.hd; unfold HEAD at g; omega
  unfold an rw0 rb at e
  rw [y] at e
  rw [if_pos rfl, if_pos rfl, if_neg (show ¬ (1 : Int) ≤ 0 by omega), if_neg (by omega)] at e
  exact ⟨e, n⟩
theorem xp_bad (hN : 5000 ≤ N) (S : zST K w c a) {l q y : Int} (h : yXp w l q = y) (h0 : y ≠ 0) : f_X7_export N 1 l q (mk w c m a) = some (cd y, mk w (uc c ((a 73 1 + a 73 2) % 7 + 1) w) m (rb y a)) := by
  have e := x_export N c m a hN S.2.1.1 S.2.1.2.1 S.1.1.1 l q
  have n := cd_n h0
  unfold an rw0 at e
  rw [h] at e
  rw [if_neg h0, if_neg h0, if_pos n] at e
  exact e
theorem de_good (hN : 5000 ≤ N) (S : zST K w c a) {l q : Int} (y : yDe w l q = 0) : f_X7_destroy N 1 l q (mk w c m a) = some (dt w l (w (40 + 11 * l + 7)) q, mk (dDe w l q) (uc c ((a 73 1 + a 73 2) % 7 + 1) w) m (apA a)) ∧ 0 ≤ dt w l (w (40 + 11 * l + 7)) q := by
  have e := x_destroy N c m a hN S.2.1.1 S.2.1.2.1 S.1.1.1 l q
  have n : 0 ≤ dt w l (w (40 + 11 * l + 7)) q := (S.1.1.1.sub (by unfold yDe at y; split at y <;> assumption)).1
  unfold an rw0 rb at e
  rw [y] at e
  rw [if_pos rfl, if_pos rfl, if_neg (show ¬ (1 : Int) ≤ 0 by omega), if_neg (by omega)] at e
  exact ⟨e, n⟩
theorem de_bad (hN : 5000 ≤ N) (S : zST K w c a) {l q y : Int} (h : yDe w l q = y) (h0 : y ≠ 0) : f_X7_destroy N 1 l q (mk w c m a) = some (cd y, mk w (uc c ((a 73 1 + a 73 2) % 7 + 1) w) m (rb y a)) := by
  have e := x_destroy N c m a hN S.2.1.1 S.2.1.2.1 S.1.1.1 l q
  have n := cd_n h0
  unfold an rw0 at e
  rw [h] at e
  rw [if_neg h0, if_neg h0, if_pos n] at e
  exact e
theorem gi_good (hN : 5000 ≤ N) (S : zST K w c a) {l o : Int} (y : yGi w l o = 0) : f_X7_give N 1 l o (mk w c m a) = some (w (40 + 11 * l), mk (dGi w l o) (uc c ((a 73 1 + a 73 2) % 7 + 1) w) m (apA a)) ∧ 0 ≤ w (40 + 11 * l) := by
  have e := x_give N c m a hN S.2.1.1 S.2.1.2.1 S.1.1.1 l o
  have n : 0 ≤ w (40 + 11 * l) := by have g := S.1.1.1.lot (yGi_0 y).1; unfold LOT at g; omega
  unfold an rw0 rb at e
  rw [y] at e
  rw [if_pos rfl, if_pos rfl, if_neg (show ¬ (1 : Int) ≤ 0 by omega), if_neg (by omega)] at e
  exact ⟨e, n⟩
theorem gi_bad (hN : 5000 ≤ N) (S : zST K w c a) {l o y : Int} (h : yGi w l o = y) (h0 : y ≠ 0) : f_X7_give N 1 l o (mk w c m a) = some (cd y, mk w (uc c ((a 73 1 + a 73 2) % 7 + 1) w) m (rb y a)) := by
  have e := x_give N c m a hN S.2.1.1 S.2.1.2.1 S.1.1.1 l o
  have n := cd_n h0
  unfold an rw0 at e
  rw [h] at e
  rw [if_neg h0, if_neg h0, if_pos n] at e
  exact e
theorem pr_good (hN : 5000 ≤ N) (S : zST K w c a) {l : Int} (y : yPr w l = 0) : f_X7_prove N 1 l (mk w c m a) = some (w (370 + 5 * l + 2), mk (dPr w l) (uc c ((a 73 1 + a 73 2) % 7 + 1) w) m (apA a)) ∧ 0 ≤ w (370 + 5 * l + 2) := by
  have e := x_prove N c m a hN S.2.1.1 S.2.1.2.1 S.1.1.1 l
  have n : 0 ≤ w (370 + 5 * l + 2) := by have g := S.1.1.1.xp (e := l) (by unfold yPr at y; split at y; assumption; omega); unfold EXP at g; omega
  unfold an rw0 rb at e
  rw [y] at e
  rw [if_pos rfl, if_pos rfl, if_neg (show ¬ (1 : Int) ≤ 0 by omega), if_neg (by omega)] at e
  exact ⟨e, n⟩
theorem pr_bad (hN : 5000 ≤ N) (S : zST K w c a) {l y : Int} (h : yPr w l = y) (h0 : y ≠ 0) : f_X7_prove N 1 l (mk w c m a) = some (cd y, mk w (uc c ((a 73 1 + a 73 2) % 7 + 1) w) m (rb y a)) := by
  have e := x_prove N c m a hN S.2.1.1 S.2.1.2.1 S.1.1.1 l
  have n := cd_n h0
  unfold an rw0 at e
  rw [h] at e
  rw [if_neg h0, if_neg h0, if_pos n] at e
  exact e
/-- the end of a move that was done -/
theorem mv_ok {u : Int → Int} (hN : 5000 ≤ N) (S : zST K w c a) (hK : K + 1 ≤ 60000) (J : JV (K + 1) u) {x r bc bs : Int} (hr : 0 ≤ r) : nO (K + 1) (f_L_moves_b962 N 1 x (DG w) (a 73 2) r bc bs (mk u (uc c ((a 73 1 + a 73 2) % 7 + 1) w) m (apA a))) c m a := by
  have hk := zST_K S
  have h1 := S.2.1.1
  have h2 := S.2.1.2.1
  have S' := zST_ok S (show K ≤ K + 1 ∧ K + 1 ≤ 60000 by omega) J
  obtain ⟨s, s1, s2, s3, s4, s5⟩ := back_ok (N := N) m hN S hK J
  have dg := q_digest (N := N) (c := uc c ((a 73 1 + a 73 2) % 7 + 1) w) m (a := mset (apA a) 73 2 s) hN S.1.1.1
  have c12 := q_count_12 (N := N) (c := uc c ((a 73 1 + a 73 2) % 7 + 1) w) m (a := apA a) (w := u)
  have q9 := uc9 S
  have k : apA a 73 2 = if a 73 2 = 6 then 6 else a 73 2 + 1 := by
    rcases apA_73 h1 h2 with ⟨g1, g2, g3⟩ | ⟨g1, g2, g3⟩
    · rw [if_pos g1, g3]
    · rw [if_neg (by omega), g3]
  by_cases q : o_and (o_shr x 12) 3 = 0
  · refine ⟨_, _, _, ?_, s5, q9, by rw [mset_n (by omega)]; exact apA_7⟩
    unfold f_L_moves_b962 f_L_moves_b1010
    by_cases q2 : a 73 2 = 6
    · rw [if_pos q2] at k
      simp only [to_bz, to_nz, to_cz, to_iz]
      simp (disch := omega) only [c12, q, s4, dg, bz_t, nz_t, cz_T, cz_t, iz_T, iz_F, iz_y, iz_n, not_true_eq_false, not_false_eq_true, true_and, and_true, w32_e, w64_e, mset_e, mset_n, up_e, up_n, if_y, if_n, Int.add_zero, mk_1_m2, mk_1_0, mk_1_1, mk_1_2, mk_1_3, mk_1_4, mk_1_5, mk_1_6, mk_2_m2, mk_2_0, mk_2_1, mk_2_2, mk_2_3, mk_2_4, mk_2_5, mk_2_6, mk_2_7, mk_2_8, mk_2_9, mk_2_10, mk_3_m2, mk_3_0, mk_3_1, mk_3_2, mk_3_3, mk_3_4, mk_3_5, mk_4_m2, mk_4_m1, mk_5_m2, mk_5_m1, mk_11_m2, mk_11_m1, mk_42_m2, mk_42_m1, mk_73_m2, mk_73_0, mk_73_1, mk_73_2, mk_74_m2, mk_74_m1, mk_572_m2, mk_572_m1, mk_715_m2, mk_715_m1, mk_717_m2, mk_717_m1, mk_718_m2, mk_718_m1, mk_716_m2, mk_716_0, mk_716_1, mk_716_2, mk_716_3, mk_716_4, mk_719_m2, mk_74_at, mk_572_at, mk_715_at, mk_717_at, mk_718_at, mk_4_at, mk_5_at, mk_11_at, mk_42_at, mk_O_k, mk_O_0, mk_O_1, mk_O_2, mk_O_3, mk_L_k, mk_L_0, mk_L_1, mk_L_2, mk_L_3, mk_L_4, mk_L_5, mk_L_6, mk_L_7, mk_L_8, mk_L_9, mk_L_10, mk_X_k, mk_X_0, mk_X_1, mk_X_2, mk_X_3, mk_X_4, mk_75_k, mk_573_k, r_1_6, r_73_1, r_73_2, r_716_1, r_716_2, r_716_3, r_715, r_717, r_718, s_O0, s_O1, s_O2, s_O3, s_L0, s_L1, s_L2, s_L3, s_L4, s_L5, s_L6, s_L7, s_L8, s_L9, s_L10, s_X0, s_X1, s_X2, s_X3, s_X4, s_2_4, s_2_5, s_2_6, s_2_7, s_2_8, s_2_9, s_2_10, s_3_1, s_3_2, s_3_3, s_3_4, s_3_5, s_4]
    · rw [if_neg q2] at k
      simp only [to_bz, to_nz, to_cz, to_iz]
      simp (disch := omega) only [c12, q, s4, dg, bz_t, nz_t, cz_T, cz_t, iz_T, iz_F, iz_y, iz_n, not_true_eq_false, not_false_eq_true, true_and, and_true, w32_e, w64_e, mset_e, mset_n, up_e, up_n, if_y, if_n, Int.add_zero, mk_1_m2, mk_1_0, mk_1_1, mk_1_2, mk_1_3, mk_1_4, mk_1_5, mk_1_6, mk_2_m2, mk_2_0, mk_2_1, mk_2_2, mk_2_3, mk_2_4, mk_2_5, mk_2_6, mk_2_7, mk_2_8, mk_2_9, mk_2_10, mk_3_m2, mk_3_0, mk_3_1, mk_3_2, mk_3_3, mk_3_4, mk_3_5, mk_4_m2, mk_4_m1, mk_5_m2, mk_5_m1, mk_11_m2, mk_11_m1, mk_42_m2, mk_42_m1, mk_73_m2, mk_73_0, mk_73_1, mk_73_2, mk_74_m2, mk_74_m1, mk_572_m2, mk_572_m1, mk_715_m2, mk_715_m1, mk_717_m2, mk_717_m1, mk_718_m2, mk_718_m1, mk_716_m2, mk_716_0, mk_716_1, mk_716_2, mk_716_3, mk_716_4, mk_719_m2, mk_74_at, mk_572_at, mk_715_at, mk_717_at, mk_718_at, mk_4_at, mk_5_at, mk_11_at, mk_42_at, mk_O_k, mk_O_0, mk_O_1, mk_O_2, mk_O_3, mk_L_k, mk_L_0, mk_L_1, mk_L_2, mk_L_3, mk_L_4, mk_L_5, mk_L_6, mk_L_7, mk_L_8, mk_L_9, mk_L_10, mk_X_k, mk_X_0, mk_X_1, mk_X_2, mk_X_3, mk_X_4, mk_75_k, mk_573_k, r_1_6, r_73_1, r_73_2, r_716_1, r_716_2, r_716_3, r_715, r_717, r_718, s_O0, s_O1, s_O2, s_O3, s_L0, s_L1, s_L2, s_L3, s_L4, s_L5, s_L6, s_L7, s_L8, s_L9, s_L10, s_X0, s_X1, s_X2, s_X3, s_X4, s_2_4, s_2_5, s_2_6, s_2_7, s_2_8, s_2_9, s_2_10, s_3_1, s_3_2, s_3_3, s_3_4, s_3_5, s_4]
  · refine ⟨_, _, _, ?_, S', q9, apA_7⟩
    unfold f_L_moves_b962 f_L_moves_b1010
    by_cases q2 : a 73 2 = 6
    · rw [if_pos q2] at k
      simp only [to_bz, to_nz, to_cz, to_iz]
      simp (disch := omega) only [c12, q, bz_t, nz_t, cz_T, cz_t, iz_T, iz_F, iz_y, iz_n, not_true_eq_false, not_false_eq_true, true_and, and_true, w32_e, w64_e, mset_e, mset_n, up_e, up_n, if_y, if_n, Int.add_zero, mk_1_m2, mk_1_0, mk_1_1, mk_1_2, mk_1_3, mk_1_4, mk_1_5, mk_1_6, mk_2_m2, mk_2_0, mk_2_1, mk_2_2, mk_2_3, mk_2_4, mk_2_5, mk_2_6, mk_2_7, mk_2_8, mk_2_9, mk_2_10, mk_3_m2, mk_3_0, mk_3_1, mk_3_2, mk_3_3, mk_3_4, mk_3_5, mk_4_m2, mk_4_m1, mk_5_m2, mk_5_m1, mk_11_m2, mk_11_m1, mk_42_m2, mk_42_m1, mk_73_m2, mk_73_0, mk_73_1, mk_73_2, mk_74_m2, mk_74_m1, mk_572_m2, mk_572_m1, mk_715_m2, mk_715_m1, mk_717_m2, mk_717_m1, mk_718_m2, mk_718_m1, mk_716_m2, mk_716_0, mk_716_1, mk_716_2, mk_716_3, mk_716_4, mk_719_m2, mk_74_at, mk_572_at, mk_715_at, mk_717_at, mk_718_at, mk_4_at, mk_5_at, mk_11_at, mk_42_at, mk_O_k, mk_O_0, mk_O_1, mk_O_2, mk_O_3, mk_L_k, mk_L_0, mk_L_1, mk_L_2, mk_L_3, mk_L_4, mk_L_5, mk_L_6, mk_L_7, mk_L_8, mk_L_9, mk_L_10, mk_X_k, mk_X_0, mk_X_1, mk_X_2, mk_X_3, mk_X_4, mk_75_k, mk_573_k, r_1_6, r_73_1, r_73_2, r_716_1, r_716_2, r_716_3, r_715, r_717, r_718, s_O0, s_O1, s_O2, s_O3, s_L0, s_L1, s_L2, s_L3, s_L4, s_L5, s_L6, s_L7, s_L8, s_L9, s_L10, s_X0, s_X1, s_X2, s_X3, s_X4, s_2_4, s_2_5, s_2_6, s_2_7, s_2_8, s_2_9, s_2_10, s_3_1, s_3_2, s_3_3, s_3_4, s_3_5, s_4]
    · rw [if_neg q2] at k
      simp only [to_bz, to_nz, to_cz, to_iz]
      simp (disch := omega) only [c12, q, bz_t, nz_t, cz_T, cz_t, iz_T, iz_F, iz_y, iz_n, not_true_eq_false, not_false_eq_true, true_and, and_true, w32_e, w64_e, mset_e, mset_n, up_e, up_n, if_y, if_n, Int.add_zero, mk_1_m2, mk_1_0, mk_1_1, mk_1_2, mk_1_3, mk_1_4, mk_1_5, mk_1_6, mk_2_m2, mk_2_0, mk_2_1, mk_2_2, mk_2_3, mk_2_4, mk_2_5, mk_2_6, mk_2_7, mk_2_8, mk_2_9, mk_2_10, mk_3_m2, mk_3_0, mk_3_1, mk_3_2, mk_3_3, mk_3_4, mk_3_5, mk_4_m2, mk_4_m1, mk_5_m2, mk_5_m1, mk_11_m2, mk_11_m1, mk_42_m2, mk_42_m1, mk_73_m2, mk_73_0, mk_73_1, mk_73_2, mk_74_m2, mk_74_m1, mk_572_m2, mk_572_m1, mk_715_m2, mk_715_m1, mk_717_m2, mk_717_m1, mk_718_m2, mk_718_m1, mk_716_m2, mk_716_0, mk_716_1, mk_716_2, mk_716_3, mk_716_4, mk_719_m2, mk_74_at, mk_572_at, mk_715_at, mk_717_at, mk_718_at, mk_4_at, mk_5_at, mk_11_at, mk_42_at, mk_O_k, mk_O_0, mk_O_1, mk_O_2, mk_O_3, mk_L_k, mk_L_0, mk_L_1, mk_L_2, mk_L_3, mk_L_4, mk_L_5, mk_L_6, mk_L_7, mk_L_8, mk_L_9, mk_L_10, mk_X_k, mk_X_0, mk_X_1, mk_X_2, mk_X_3, mk_X_4, mk_75_k, mk_573_k, r_1_6, r_73_1, r_73_2, r_716_1, r_716_2, r_716_3, r_715, r_717, r_718, s_O0, s_O1, s_O2, s_O3, s_L0, s_L1, s_L2, s_L3, s_L4, s_L5, s_L6, s_L7, s_L8, s_L9, s_L10, s_X0, s_X1, s_X2, s_X3, s_X4, s_2_4, s_2_5, s_2_6, s_2_7, s_2_8, s_2_9, s_2_10, s_3_1, s_3_2, s_3_3, s_3_4, s_3_5, s_4]
theorem mv_no (hN : 5000 ≤ N) (S : zST K w c a) (hK : K + 1 ≤ 60000) {x y r bc bs : Int} (hy : y ≤ 6) (hr : r < 0) : nO (K + 1) (f_L_moves_b962 N 1 x (DG w) (a 73 2) r bc bs (mk w (uc c ((a 73 1 + a 73 2) % 7 + 1) w) m (rb y a))) c m a := by
  have hk := zST_K S
  have h2 := S.2.1.2.1
  have dg := q_digest (N := N) (c := uc c ((a 73 1 + a 73 2) % 7 + 1) w) m (a := rb y a) hN S.1.1.1
  have c12 := q_count_12 (N := N) (c := uc c ((a 73 1 + a 73 2) % 7 + 1) w) m (a := rb y a) (w := w)
  rw [rb_73] at c12
  refine ⟨_, _, _, ?_, zST_mono (act_er S w hy) (by omega), uc9 S, rb_7 y⟩
  unfold f_L_moves_b962
  simp only [to_bz, to_nz, to_cz, to_iz]
  simp (disch := omega) only [c12, dg, bz_t, nz_t, cz_T, cz_t, iz_T, iz_F, iz_y, iz_n, not_true_eq_false, not_false_eq_true, true_and, and_true, w32_e, w64_e, mset_e, mset_n, up_e, up_n, if_y, if_n, Int.add_zero, mk_1_m2, mk_1_0, mk_1_1, mk_1_2, mk_1_3, mk_1_4, mk_1_5, mk_1_6, mk_2_m2, mk_2_0, mk_2_1, mk_2_2, mk_2_3, mk_2_4, mk_2_5, mk_2_6, mk_2_7, mk_2_8, mk_2_9, mk_2_10, mk_3_m2, mk_3_0, mk_3_1, mk_3_2, mk_3_3, mk_3_4, mk_3_5, mk_4_m2, mk_4_m1, mk_5_m2, mk_5_m1, mk_11_m2, mk_11_m1, mk_42_m2, mk_42_m1, mk_73_m2, mk_73_0, mk_73_1, mk_73_2, mk_74_m2, mk_74_m1, mk_572_m2, mk_572_m1, mk_715_m2, mk_715_m1, mk_717_m2, mk_717_m1, mk_718_m2, mk_718_m1, mk_716_m2, mk_716_0, mk_716_1, mk_716_2, mk_716_3, mk_716_4, mk_719_m2, mk_74_at, mk_572_at, mk_715_at, mk_717_at, mk_718_at, mk_4_at, mk_5_at, mk_11_at, mk_42_at, mk_O_k, mk_O_0, mk_O_1, mk_O_2, mk_O_3, mk_L_k, mk_L_0, mk_L_1, mk_L_2, mk_L_3, mk_L_4, mk_L_5, mk_L_6, mk_L_7, mk_L_8, mk_L_9, mk_L_10, mk_X_k, mk_X_0, mk_X_1, mk_X_2, mk_X_3, mk_X_4, mk_75_k, mk_573_k, r_1_6, r_73_1, r_73_2, r_716_1, r_716_2, r_716_3, r_715, r_717, r_718, s_O0, s_O1, s_O2, s_O3, s_L0, s_L1, s_L2, s_L3, s_L4, s_L5, s_L6, s_L7, s_L8, s_L9, s_L10, s_X0, s_X1, s_X2, s_X3, s_X4, s_2_4, s_2_5, s_2_6, s_2_7, s_2_8, s_2_9, s_2_10, s_3_1, s_3_2, s_3_3, s_3_4, s_3_5, s_4]
theorem us_gi (I : IA K w) {l o : Int} (z1 : 0 ≤ l ∧ l < w 2) (z3 : w (40 + 11 * l) ≠ o) : us (dGi w l o) o = us w o + su w l := by
  have e : ∀ i, i ≠ 40 + 11 * l → dGi w l o i = w i := fun i hi => up_n hi
  have e0 : dGi w l o (40 + 11 * l) = o := up_e _ _ _
  have g := I.hd; unfold HEAD at g
  unfold us
  rw [e 2 (by omega)]
  have s := sm_1 (f := usf (dGi w l o) o) (g := usf w o) (n := (w 2).toNat) (j := l) (by omega) (fun i hi hn => by
    unfold usf su
    rw [e (40 + 11 * i) (by omega), e (40 + 11 * i + 6) (by omega), e (40 + 11 * i + 8) (by omega), e (40 + 11 * i + 9) (by omega)])
  rw [s]
  have f1 : usf (dGi w l o) o l = su w l := by
    unfold usf su
    rw [if_pos e0, e (40 + 11 * l + 6) (by omega), e (40 + 11 * l + 8) (by omega), e (40 + 11 * l + 9) (by omega)]
  have f2 : usf w o l = 0 := if_neg z3
  rw [f1, f2]; omega
/-- what is answered by one sort of act, the rest of the law's text behind it -/
theorem mv_re (hN : 5000 ≤ N) (S : zST K w c a) (hK : K + 1 ≤ 60000) {x l q bc bs : Int} (z1 : 0 ≤ l ∧ l < w 2) (z2 : 1 ≤ q ∧ q ≤ un w l + 1) : nO (K + 1) (f_L_moves_b134 N 1 0 x l (un w l) q bc bs (mk w c m a)) c m a := by
  have hk := zST_K S
  have I := S.1.1.1
  have g := I.hd; unfold HEAD at g
  have lo := I.lot z1; unfold LOT at lo
  have ow := I.own (o := w (40 + 11 * l)) (by omega); unfold OWN at ow
  have qb := S.1.2.2.2 l z1
  have un1 : un w l = w (40 + 11 * l + 2) - w (40 + 11 * l + 7) := rfl
  have h2 := S.2.1.2.1
  have et : w (40 + 11 * l + 2) - un w l = w (40 + 11 * l + 7) := by omega
  have p1 := mul_le (show 0 ≤ w (40 + 11 * l + 6) ∧ w (40 + 11 * l + 6) ≤ 10000000 by omega) (show 0 ≤ w (40 + 11 * l + 7) ∧ w (40 + 11 * l + 7) ≤ 1000000 by omega)
  have p2 := mul_le (show 0 ≤ w (40 + 11 * l + 6) ∧ w (40 + 11 * l + 6) ≤ 10000000 by omega) (show 0 ≤ w (40 + 11 * l + 7) + q ∧ w (40 + 11 * l + 7) + q ≤ 2000000 by omega)
  have e1 : Int.tdiv (w (40 + 11 * l + 6) * w (40 + 11 * l + 7)) (w (40 + 11 * l + 2)) = w (40 + 11 * l + 6) * w (40 + 11 * l + 7) / w (40 + 11 * l + 2) := Int.tdiv_eq_ediv_of_nonneg p1.1
  have e2 : Int.tdiv (w (40 + 11 * l + 6) * (w (40 + 11 * l + 7) + q)) (w (40 + 11 * l + 2)) = w (40 + 11 * l + 6) * (w (40 + 11 * l + 7) + q) / w (40 + 11 * l + 2) := Int.tdiv_eq_ediv_of_nonneg p2.1
  have v1 := div_b p1 (show 0 < w (40 + 11 * l + 2) by omega)
  have v2 := div_b p2 (show 0 < w (40 + 11 * l + 2) by omega)
  have ed : w (40 + 11 * l + 6) * (w (40 + 11 * l + 7) + q) / w (40 + 11 * l + 2) - w (40 + 11 * l + 6) * w (40 + 11 * l + 7) / w (40 + 11 * l + 2) = dt w l (w (40 + 11 * l + 7)) q := rfl
  have l0 := q_lot_0 (N := N) (c := c) m (a := a) I z1
  have l2 := q_lot_2 (N := N) (c := c) m (a := a) I z1
  have l6 := q_lot_6 (N := N) (c := c) m (a := a) I z1
  have o0 := q_owner_0 (N := N) (c := c) m (a := a) I (o := w (40 + 11 * l)) (by omega)
  have dg := q_digest (N := N) (c := c) m (a := a) hN I
  have c12 := q_count_12 (N := N) (c := c) m (a := a) (w := w)
  have y0 : yRe w l q = if un w l < q then 4 else if w (20 + 4 * w (40 + 11 * l)) < dt w l (w (40 + 11 * l + 7)) q then 3 else 0 := by
    unfold yRe yUn
    rw [if_pos z1, if_pos (show 1 ≤ q ∧ q ≤ 1000000 by omega)]
    by_cases q1 : un w l < q
    · rw [if_pos q1, if_neg (by omega), if_pos q1]
    · rw [if_neg q1, if_pos rfl, if_neg q1]
  unfold f_L_moves_b134
  by_cases q1 : un w l < q
  · rw [if_pos q1] at y0
    have e := re_bad (N := N) m hN S y0 (by omega)
    rw [show cd 4 = -100000003 from rfl] at e
    have c11 := q_count_11 (N := N) (c := uc c ((a 73 1 + a 73 2) % 7 + 1) w) m (a := rb 4 a) (w := w)
    rw [rb_16 (by omega)] at c11
    obtain ⟨w', c', a', f, r⟩ := mv_no (N := N) m hN S hK (x := x) (y := 4) (r := -100000003) (bc := bc) (bs := bs) (by omega) (by omega)
    refine ⟨w', c', a', ?_, r⟩
    simp only [to_bz, to_nz, to_cz, to_iz]
    simp (disch := omega) only [l0, l2, l6, o0, dg, c12, et, e1, e2, ed, e, c11, f, bz_t, nz_t, cz_T, cz_t, iz_T, iz_F, iz_y, iz_n, not_true_eq_false, not_false_eq_true, true_and, and_true, w32_e, w64_e, mset_e, mset_n, up_e, up_n, if_y, if_n, Int.add_zero, mk_1_m2, mk_1_0, mk_1_1, mk_1_2, mk_1_3, mk_1_4, mk_1_5, mk_1_6, mk_2_m2, mk_2_0, mk_2_1, mk_2_2, mk_2_3, mk_2_4, mk_2_5, mk_2_6, mk_2_7, mk_2_8, mk_2_9, mk_2_10, mk_3_m2, mk_3_0, mk_3_1, mk_3_2, mk_3_3, mk_3_4, mk_3_5, mk_4_m2, mk_4_m1, mk_5_m2, mk_5_m1, mk_11_m2, mk_11_m1, mk_42_m2, mk_42_m1, mk_73_m2, mk_73_0, mk_73_1, mk_73_2, mk_74_m2, mk_74_m1, mk_572_m2, mk_572_m1, mk_715_m2, mk_715_m1, mk_717_m2, mk_717_m1, mk_718_m2, mk_718_m1, mk_716_m2, mk_716_0, mk_716_1, mk_716_2, mk_716_3, mk_716_4, mk_719_m2, mk_74_at, mk_572_at, mk_715_at, mk_717_at, mk_718_at, mk_4_at, mk_5_at, mk_11_at, mk_42_at, mk_O_k, mk_O_0, mk_O_1, mk_O_2, mk_O_3, mk_L_k, mk_L_0, mk_L_1, mk_L_2, mk_L_3, mk_L_4, mk_L_5, mk_L_6, mk_L_7, mk_L_8, mk_L_9, mk_L_10, mk_X_k, mk_X_0, mk_X_1, mk_X_2, mk_X_3, mk_X_4, mk_75_k, mk_573_k, r_1_6, r_73_1, r_73_2, r_716_1, r_716_2, r_716_3, r_715, r_717, r_718, s_O0, s_O1, s_O2, s_O3, s_L0, s_L1, s_L2, s_L3, s_L4, s_L5, s_L6, s_L7, s_L8, s_L9, s_L10, s_X0, s_X1, s_X2, s_X3, s_X4, s_2_4, s_2_5, s_2_6, s_2_7, s_2_8, s_2_9, s_2_10, s_3_1, s_3_2, s_3_3, s_3_4, s_3_5, s_4]
  · rw [if_neg q1] at y0
    by_cases q2 : w (20 + 4 * w (40 + 11 * l)) < dt w l (w (40 + 11 * l + 7)) q
    · rw [if_pos q2] at y0
      have e := re_bad (N := N) m hN S y0 (by omega)
      rw [show cd 3 = -100000003 from rfl] at e
      have c11 := q_count_11 (N := N) (c := uc c ((a 73 1 + a 73 2) % 7 + 1) w) m (a := rb 3 a) (w := w)
      rw [rb_16 (by omega)] at c11
      obtain ⟨w', c', a', f, r⟩ := mv_no (N := N) m hN S hK (x := x) (y := 3) (r := -100000003) (bc := bc) (bs := bs) (by omega) (by omega)
      refine ⟨w', c', a', ?_, r⟩
      simp only [to_bz, to_nz, to_cz, to_iz]
      simp (disch := omega) only [l0, l2, l6, o0, dg, c12, et, e1, e2, ed, e, c11, f, bz_t, nz_t, cz_T, cz_t, iz_T, iz_F, iz_y, iz_n, not_true_eq_false, not_false_eq_true, true_and, and_true, w32_e, w64_e, mset_e, mset_n, up_e, up_n, if_y, if_n, Int.add_zero, mk_1_m2, mk_1_0, mk_1_1, mk_1_2, mk_1_3, mk_1_4, mk_1_5, mk_1_6, mk_2_m2, mk_2_0, mk_2_1, mk_2_2, mk_2_3, mk_2_4, mk_2_5, mk_2_6, mk_2_7, mk_2_8, mk_2_9, mk_2_10, mk_3_m2, mk_3_0, mk_3_1, mk_3_2, mk_3_3, mk_3_4, mk_3_5, mk_4_m2, mk_4_m1, mk_5_m2, mk_5_m1, mk_11_m2, mk_11_m1, mk_42_m2, mk_42_m1, mk_73_m2, mk_73_0, mk_73_1, mk_73_2, mk_74_m2, mk_74_m1, mk_572_m2, mk_572_m1, mk_715_m2, mk_715_m1, mk_717_m2, mk_717_m1, mk_718_m2, mk_718_m1, mk_716_m2, mk_716_0, mk_716_1, mk_716_2, mk_716_3, mk_716_4, mk_719_m2, mk_74_at, mk_572_at, mk_715_at, mk_717_at, mk_718_at, mk_4_at, mk_5_at, mk_11_at, mk_42_at, mk_O_k, mk_O_0, mk_O_1, mk_O_2, mk_O_3, mk_L_k, mk_L_0, mk_L_1, mk_L_2, mk_L_3, mk_L_4, mk_L_5, mk_L_6, mk_L_7, mk_L_8, mk_L_9, mk_L_10, mk_X_k, mk_X_0, mk_X_1, mk_X_2, mk_X_3, mk_X_4, mk_75_k, mk_573_k, r_1_6, r_73_1, r_73_2, r_716_1, r_716_2, r_716_3, r_715, r_717, r_718, s_O0, s_O1, s_O2, s_O3, s_L0, s_L1, s_L2, s_L3, s_L4, s_L5, s_L6, s_L7, s_L8, s_L9, s_L10, s_X0, s_X1, s_X2, s_X3, s_X4, s_2_4, s_2_5, s_2_6, s_2_7, s_2_8, s_2_9, s_2_10, s_3_1, s_3_2, s_3_3, s_3_4, s_3_5, s_4]
    · rw [if_neg q2] at y0
      obtain ⟨e, rn⟩ := re_good (N := N) m hN S y0
      have J := JV_Re S.1 hK y0
      obtain ⟨w', c', a', f, r⟩ := mv_ok (N := N) m hN S hK J (x := x) (bc := bc) (bs := bs) rn
      have u1 : dRe w l q 1 = w 1 := by unfold dRe; simp (disch := omega) only [up_n]
      have u0 : dRe w l q (20 + 4 * w (40 + 11 * l)) = w (20 + 4 * w (40 + 11 * l)) - dt w l (w (40 + 11 * l + 7)) q := by unfold dRe; simp (disch := omega) only [up_n, up_e]
      have o2 := q_owner_0 (N := N) (c := uc c ((a 73 1 + a 73 2) % 7 + 1) w) m (a := apA a) J.1.1 (o := w (40 + 11 * l)) (by omega)
      rw [u0] at o2
      refine ⟨w', c', a', ?_, r⟩
      simp only [to_bz, to_nz, to_cz, to_iz]
      simp (disch := omega) only [l0, l2, l6, o0, dg, c12, et, e1, e2, ed, e, o2, f, bz_t, nz_t, cz_T, cz_t, iz_T, iz_F, iz_y, iz_n, not_true_eq_false, not_false_eq_true, true_and, and_true, w32_e, w64_e, mset_e, mset_n, up_e, up_n, if_y, if_n, Int.add_zero, mk_1_m2, mk_1_0, mk_1_1, mk_1_2, mk_1_3, mk_1_4, mk_1_5, mk_1_6, mk_2_m2, mk_2_0, mk_2_1, mk_2_2, mk_2_3, mk_2_4, mk_2_5, mk_2_6, mk_2_7, mk_2_8, mk_2_9, mk_2_10, mk_3_m2, mk_3_0, mk_3_1, mk_3_2, mk_3_3, mk_3_4, mk_3_5, mk_4_m2, mk_4_m1, mk_5_m2, mk_5_m1, mk_11_m2, mk_11_m1, mk_42_m2, mk_42_m1, mk_73_m2, mk_73_0, mk_73_1, mk_73_2, mk_74_m2, mk_74_m1, mk_572_m2, mk_572_m1, mk_715_m2, mk_715_m1, mk_717_m2, mk_717_m1, mk_718_m2, mk_718_m1, mk_716_m2, mk_716_0, mk_716_1, mk_716_2, mk_716_3, mk_716_4, mk_719_m2, mk_74_at, mk_572_at, mk_715_at, mk_717_at, mk_718_at, mk_4_at, mk_5_at, mk_11_at, mk_42_at, mk_O_k, mk_O_0, mk_O_1, mk_O_2, mk_O_3, mk_L_k, mk_L_0, mk_L_1, mk_L_2, mk_L_3, mk_L_4, mk_L_5, mk_L_6, mk_L_7, mk_L_8, mk_L_9, mk_L_10, mk_X_k, mk_X_0, mk_X_1, mk_X_2, mk_X_3, mk_X_4, mk_75_k, mk_573_k, r_1_6, r_73_1, r_73_2, r_716_1, r_716_2, r_716_3, r_715, r_717, r_718, s_O0, s_O1, s_O2, s_O3, s_L0, s_L1, s_L2, s_L3, s_L4, s_L5, s_L6, s_L7, s_L8, s_L9, s_L10, s_X0, s_X1, s_X2, s_X3, s_X4, s_2_4, s_2_5, s_2_6, s_2_7, s_2_8, s_2_9, s_2_10, s_3_1, s_3_2, s_3_3, s_3_4, s_3_5, s_4]
theorem mv_de (hN : 5000 ≤ N) (S : zST K w c a) (hK : K + 1 ≤ 60000) {x l q bc bs : Int} (z1 : 0 ≤ l ∧ l < w 2) (z2 : 1 ≤ q ∧ q ≤ un w l + 1) : nO (K + 1) (f_L_moves_b134 N 1 3 x l (un w l) q bc bs (mk w c m a)) c m a := by
  have hk := zST_K S
  have I := S.1.1.1
  have g := I.hd; unfold HEAD at g
  have lo := I.lot z1; unfold LOT at lo
  have ow := I.own (o := w (40 + 11 * l)) (by omega); unfold OWN at ow
  have qb := S.1.2.2.2 l z1
  have un1 : un w l = w (40 + 11 * l + 2) - w (40 + 11 * l + 7) := rfl
  have h2 := S.2.1.2.1
  have et : w (40 + 11 * l + 2) - un w l = w (40 + 11 * l + 7) := by omega
  have p1 := mul_le (show 0 ≤ w (40 + 11 * l + 6) ∧ w (40 + 11 * l + 6) ≤ 10000000 by omega) (show 0 ≤ w (40 + 11 * l + 7) ∧ w (40 + 11 * l + 7) ≤ 1000000 by omega)
  have p2 := mul_le (show 0 ≤ w (40 + 11 * l + 6) ∧ w (40 + 11 * l + 6) ≤ 10000000 by omega) (show 0 ≤ w (40 + 11 * l + 7) + q ∧ w (40 + 11 * l + 7) + q ≤ 2000000 by omega)
  have e1 : Int.tdiv (w (40 + 11 * l + 6) * w (40 + 11 * l + 7)) (w (40 + 11 * l + 2)) = w (40 + 11 * l + 6) * w (40 + 11 * l + 7) / w (40 + 11 * l + 2) := Int.tdiv_eq_ediv_of_nonneg p1.1
  have e2 : Int.tdiv (w (40 + 11 * l + 6) * (w (40 + 11 * l + 7) + q)) (w (40 + 11 * l + 2)) = w (40 + 11 * l + 6) * (w (40 + 11 * l + 7) + q) / w (40 + 11 * l + 2) := Int.tdiv_eq_ediv_of_nonneg p2.1
  have v1 := div_b p1 (show 0 < w (40 + 11 * l + 2) by omega)
  have v2 := div_b p2 (show 0 < w (40 + 11 * l + 2) by omega)
  have ed : w (40 + 11 * l + 6) * (w (40 + 11 * l + 7) + q) / w (40 + 11 * l + 2) - w (40 + 11 * l + 6) * w (40 + 11 * l + 7) / w (40 + 11 * l + 2) = dt w l (w (40 + 11 * l + 7)) q := rfl
  have l0 := q_lot_0 (N := N) (c := c) m (a := a) I z1
  have l2 := q_lot_2 (N := N) (c := c) m (a := a) I z1
  have l6 := q_lot_6 (N := N) (c := c) m (a := a) I z1
  have o0 := q_owner_0 (N := N) (c := c) m (a := a) I (o := w (40 + 11 * l)) (by omega)
  have dg := q_digest (N := N) (c := c) m (a := a) hN I
  have c12 := q_count_12 (N := N) (c := c) m (a := a) (w := w)
  have y0 : yDe w l q = if un w l < q then 4 else if w (20 + 4 * w (40 + 11 * l)) < q * w 9 then 3 else 0 := by
    unfold yDe yUn
    rw [if_pos z1, if_pos (show 1 ≤ q ∧ q ≤ 1000000 by omega)]
    by_cases q1 : un w l < q
    · rw [if_pos q1, if_neg (by omega), if_pos q1]
    · rw [if_neg q1, if_pos rfl, if_neg q1]
  have c10 := fun (u : Int → Int) (K : Int) (I : IA K u) (c : Int → Int → Int) (a : Mm) => q_count_10 (N := N) (c := c) m (a := a) I
  have pc := mul_le (show 0 ≤ w 9 ∧ w 9 ≤ 1000 by omega) (show 0 ≤ q ∧ q ≤ 1000000 by omega)
  have ec : q * w 9 = w 9 * q := Int.mul_comm _ _
  rw [ec] at y0
  unfold f_L_moves_b134
  by_cases q1 : un w l < q
  · rw [if_pos q1] at y0
    have e := de_bad (N := N) m hN S y0 (by omega)
    rw [show cd 4 = -100000003 from rfl] at e
    have c11 := q_count_11 (N := N) (c := uc c ((a 73 1 + a 73 2) % 7 + 1) w) m (a := rb 4 a) (w := w)
    rw [rb_16 (by omega)] at c11
    have c10 := c10 w K I (uc c ((a 73 1 + a 73 2) % 7 + 1) w) (rb 4 a)
    obtain ⟨w', c', a', f, r⟩ := mv_no (N := N) m hN S hK (x := x) (y := 4) (r := -100000003) (bc := bc) (bs := bs) (by omega) (by omega)
    refine ⟨w', c', a', ?_, r⟩
    unfold f_L_moves_b776
    simp only [to_bz, to_nz, to_cz, to_iz]
    simp (disch := omega) only [l0, l2, l6, o0, dg, c12, et, e1, e2, ed, e, c10, c11, f, bz_t, nz_t, cz_T, cz_t, iz_T, iz_F, iz_y, iz_n, not_true_eq_false, not_false_eq_true, true_and, and_true, w32_e, w64_e, mset_e, mset_n, up_e, up_n, if_y, if_n, Int.add_zero, mk_1_m2, mk_1_0, mk_1_1, mk_1_2, mk_1_3, mk_1_4, mk_1_5, mk_1_6, mk_2_m2, mk_2_0, mk_2_1, mk_2_2, mk_2_3, mk_2_4, mk_2_5, mk_2_6, mk_2_7, mk_2_8, mk_2_9, mk_2_10, mk_3_m2, mk_3_0, mk_3_1, mk_3_2, mk_3_3, mk_3_4, mk_3_5, mk_4_m2, mk_4_m1, mk_5_m2, mk_5_m1, mk_11_m2, mk_11_m1, mk_42_m2, mk_42_m1, mk_73_m2, mk_73_0, mk_73_1, mk_73_2, mk_74_m2, mk_74_m1, mk_572_m2, mk_572_m1, mk_715_m2, mk_715_m1, mk_717_m2, mk_717_m1, mk_718_m2, mk_718_m1, mk_716_m2, mk_716_0, mk_716_1, mk_716_2, mk_716_3, mk_716_4, mk_719_m2, mk_74_at, mk_572_at, mk_715_at, mk_717_at, mk_718_at, mk_4_at, mk_5_at, mk_11_at, mk_42_at, mk_O_k, mk_O_0, mk_O_1, mk_O_2, mk_O_3, mk_L_k, mk_L_0, mk_L_1, mk_L_2, mk_L_3, mk_L_4, mk_L_5, mk_L_6, mk_L_7, mk_L_8, mk_L_9, mk_L_10, mk_X_k, mk_X_0, mk_X_1, mk_X_2, mk_X_3, mk_X_4, mk_75_k, mk_573_k, r_1_6, r_73_1, r_73_2, r_716_1, r_716_2, r_716_3, r_715, r_717, r_718, s_O0, s_O1, s_O2, s_O3, s_L0, s_L1, s_L2, s_L3, s_L4, s_L5, s_L6, s_L7, s_L8, s_L9, s_L10, s_X0, s_X1, s_X2, s_X3, s_X4, s_2_4, s_2_5, s_2_6, s_2_7, s_2_8, s_2_9, s_2_10, s_3_1, s_3_2, s_3_3, s_3_4, s_3_5, s_4]
  · rw [if_neg q1] at y0
    by_cases q2 : w (20 + 4 * w (40 + 11 * l)) < w 9 * q
    · rw [if_pos q2] at y0
      have e := de_bad (N := N) m hN S y0 (by omega)
      rw [show cd 3 = -100000003 from rfl] at e
      have c11 := q_count_11 (N := N) (c := uc c ((a 73 1 + a 73 2) % 7 + 1) w) m (a := rb 3 a) (w := w)
      rw [rb_16 (by omega)] at c11
      have c10 := c10 w K I (uc c ((a 73 1 + a 73 2) % 7 + 1) w) (rb 3 a)
      obtain ⟨w', c', a', f, r⟩ := mv_no (N := N) m hN S hK (x := x) (y := 3) (r := -100000003) (bc := bc) (bs := bs) (by omega) (by omega)
      refine ⟨w', c', a', ?_, r⟩
      unfold f_L_moves_b776
      simp only [to_bz, to_nz, to_cz, to_iz]
      simp (disch := omega) only [l0, l2, l6, o0, dg, c12, et, e1, e2, ed, e, c10, c11, f, bz_t, nz_t, cz_T, cz_t, iz_T, iz_F, iz_y, iz_n, not_true_eq_false, not_false_eq_true, true_and, and_true, w32_e, w64_e, mset_e, mset_n, up_e, up_n, if_y, if_n, Int.add_zero, mk_1_m2, mk_1_0, mk_1_1, mk_1_2, mk_1_3, mk_1_4, mk_1_5, mk_1_6, mk_2_m2, mk_2_0, mk_2_1, mk_2_2, mk_2_3, mk_2_4, mk_2_5, mk_2_6, mk_2_7, mk_2_8, mk_2_9, mk_2_10, mk_3_m2, mk_3_0, mk_3_1, mk_3_2, mk_3_3, mk_3_4, mk_3_5, mk_4_m2, mk_4_m1, mk_5_m2, mk_5_m1, mk_11_m2, mk_11_m1, mk_42_m2, mk_42_m1, mk_73_m2, mk_73_0, mk_73_1, mk_73_2, mk_74_m2, mk_74_m1, mk_572_m2, mk_572_m1, mk_715_m2, mk_715_m1, mk_717_m2, mk_717_m1, mk_718_m2, mk_718_m1, mk_716_m2, mk_716_0, mk_716_1, mk_716_2, mk_716_3, mk_716_4, mk_719_m2, mk_74_at, mk_572_at, mk_715_at, mk_717_at, mk_718_at, mk_4_at, mk_5_at, mk_11_at, mk_42_at, mk_O_k, mk_O_0, mk_O_1, mk_O_2, mk_O_3, mk_L_k, mk_L_0, mk_L_1, mk_L_2, mk_L_3, mk_L_4, mk_L_5, mk_L_6, mk_L_7, mk_L_8, mk_L_9, mk_L_10, mk_X_k, mk_X_0, mk_X_1, mk_X_2, mk_X_3, mk_X_4, mk_75_k, mk_573_k, r_1_6, r_73_1, r_73_2, r_716_1, r_716_2, r_716_3, r_715, r_717, r_718, s_O0, s_O1, s_O2, s_O3, s_L0, s_L1, s_L2, s_L3, s_L4, s_L5, s_L6, s_L7, s_L8, s_L9, s_L10, s_X0, s_X1, s_X2, s_X3, s_X4, s_2_4, s_2_5, s_2_6, s_2_7, s_2_8, s_2_9, s_2_10, s_3_1, s_3_2, s_3_3, s_3_4, s_3_5, s_4]
    · rw [if_neg q2] at y0
      obtain ⟨e, rn⟩ := de_good (N := N) m hN S y0
      have J := JV_De S.1 hK y0
      obtain ⟨w', c', a', f, r⟩ := mv_ok (N := N) m hN S hK J (x := x) (bc := bc) (bs := bs) rn
      have u1 : dDe w l q 1 = w 1 := by unfold dDe; simp (disch := omega) only [up_n]
      have u9 : dDe w l q 9 = w 9 := by unfold dDe; simp (disch := omega) only [up_n]
      have u0 : dDe w l q (20 + 4 * w (40 + 11 * l)) = w (20 + 4 * w (40 + 11 * l)) - w 9 * q := by rw [← ec]; unfold dDe; simp (disch := omega) only [up_n, up_e]
      have o2 := q_owner_0 (N := N) (c := uc c ((a 73 1 + a 73 2) % 7 + 1) w) m (a := apA a) J.1.1 (o := w (40 + 11 * l)) (by omega)
      have c10 := c10 (dDe w l q) (K + 1) J.1.1 (uc c ((a 73 1 + a 73 2) % 7 + 1) w) (apA a)
      rw [u9] at c10
      rw [u0] at o2
      refine ⟨w', c', a', ?_, r⟩
      unfold f_L_moves_b776
      simp only [to_bz, to_nz, to_cz, to_iz]
      simp (disch := omega) only [l0, l2, l6, o0, dg, c12, et, e1, e2, ed, e, c10, o2, f, bz_t, nz_t, cz_T, cz_t, iz_T, iz_F, iz_y, iz_n, not_true_eq_false, not_false_eq_true, true_and, and_true, w32_e, w64_e, mset_e, mset_n, up_e, up_n, if_y, if_n, Int.add_zero, mk_1_m2, mk_1_0, mk_1_1, mk_1_2, mk_1_3, mk_1_4, mk_1_5, mk_1_6, mk_2_m2, mk_2_0, mk_2_1, mk_2_2, mk_2_3, mk_2_4, mk_2_5, mk_2_6, mk_2_7, mk_2_8, mk_2_9, mk_2_10, mk_3_m2, mk_3_0, mk_3_1, mk_3_2, mk_3_3, mk_3_4, mk_3_5, mk_4_m2, mk_4_m1, mk_5_m2, mk_5_m1, mk_11_m2, mk_11_m1, mk_42_m2, mk_42_m1, mk_73_m2, mk_73_0, mk_73_1, mk_73_2, mk_74_m2, mk_74_m1, mk_572_m2, mk_572_m1, mk_715_m2, mk_715_m1, mk_717_m2, mk_717_m1, mk_718_m2, mk_718_m1, mk_716_m2, mk_716_0, mk_716_1, mk_716_2, mk_716_3, mk_716_4, mk_719_m2, mk_74_at, mk_572_at, mk_715_at, mk_717_at, mk_718_at, mk_4_at, mk_5_at, mk_11_at, mk_42_at, mk_O_k, mk_O_0, mk_O_1, mk_O_2, mk_O_3, mk_L_k, mk_L_0, mk_L_1, mk_L_2, mk_L_3, mk_L_4, mk_L_5, mk_L_6, mk_L_7, mk_L_8, mk_L_9, mk_L_10, mk_X_k, mk_X_0, mk_X_1, mk_X_2, mk_X_3, mk_X_4, mk_75_k, mk_573_k, r_1_6, r_73_1, r_73_2, r_716_1, r_716_2, r_716_3, r_715, r_717, r_718, s_O0, s_O1, s_O2, s_O3, s_L0, s_L1, s_L2, s_L3, s_L4, s_L5, s_L6, s_L7, s_L8, s_L9, s_L10, s_X0, s_X1, s_X2, s_X3, s_X4, s_2_4, s_2_5, s_2_6, s_2_7, s_2_8, s_2_9, s_2_10, s_3_1, s_3_2, s_3_3, s_3_4, s_3_5, s_4]
theorem mv_xp (hN : 5000 ≤ N) (S : zST K w c a) (hK : K + 1 ≤ 60000) {x l q bc bs : Int} (z1 : 0 ≤ l ∧ l < w 2) (z2 : 1 ≤ q ∧ q ≤ un w l + 1) : nO (K + 1) (f_L_moves_b134 N 1 2 x l (un w l) q bc bs (mk w c m a)) c m a := by
  have hk := zST_K S
  have I := S.1.1.1
  have g := I.hd; unfold HEAD at g
  have lo := I.lot z1; unfold LOT at lo
  have ow := I.own (o := w (40 + 11 * l)) (by omega); unfold OWN at ow
  have qb := S.1.2.2.2 l z1
  have un1 : un w l = w (40 + 11 * l + 2) - w (40 + 11 * l + 7) := rfl
  have h2 := S.2.1.2.1
  have et : w (40 + 11 * l + 2) - un w l = w (40 + 11 * l + 7) := by omega
  have p1 := mul_le (show 0 ≤ w (40 + 11 * l + 6) ∧ w (40 + 11 * l + 6) ≤ 10000000 by omega) (show 0 ≤ w (40 + 11 * l + 7) ∧ w (40 + 11 * l + 7) ≤ 1000000 by omega)
  have p2 := mul_le (show 0 ≤ w (40 + 11 * l + 6) ∧ w (40 + 11 * l + 6) ≤ 10000000 by omega) (show 0 ≤ w (40 + 11 * l + 7) + q ∧ w (40 + 11 * l + 7) + q ≤ 2000000 by omega)
  have e1 : Int.tdiv (w (40 + 11 * l + 6) * w (40 + 11 * l + 7)) (w (40 + 11 * l + 2)) = w (40 + 11 * l + 6) * w (40 + 11 * l + 7) / w (40 + 11 * l + 2) := Int.tdiv_eq_ediv_of_nonneg p1.1
  have e2 : Int.tdiv (w (40 + 11 * l + 6) * (w (40 + 11 * l + 7) + q)) (w (40 + 11 * l + 2)) = w (40 + 11 * l + 6) * (w (40 + 11 * l + 7) + q) / w (40 + 11 * l + 2) := Int.tdiv_eq_ediv_of_nonneg p2.1
  have v1 := div_b p1 (show 0 < w (40 + 11 * l + 2) by omega)
  have v2 := div_b p2 (show 0 < w (40 + 11 * l + 2) by omega)
  have ed : w (40 + 11 * l + 6) * (w (40 + 11 * l + 7) + q) / w (40 + 11 * l + 2) - w (40 + 11 * l + 6) * w (40 + 11 * l + 7) / w (40 + 11 * l + 2) = dt w l (w (40 + 11 * l + 7)) q := rfl
  have l0 := q_lot_0 (N := N) (c := c) m (a := a) I z1
  have l2 := q_lot_2 (N := N) (c := c) m (a := a) I z1
  have l6 := q_lot_6 (N := N) (c := c) m (a := a) I z1
  have o0 := q_owner_0 (N := N) (c := c) m (a := a) I (o := w (40 + 11 * l)) (by omega)
  have dg := q_digest (N := N) (c := c) m (a := a) hN I
  have c12 := q_count_12 (N := N) (c := c) m (a := a) (w := w)
  have y0 : yXp w l q = if un w l < q then 4 else if w 3 = 30 then 5 else 0 := by
    unfold yXp yUn
    rw [if_pos z1, if_pos (show 1 ≤ q ∧ q ≤ 1000000 by omega)]
    by_cases q1 : un w l < q
    · rw [if_pos q1, if_neg (by omega), if_pos q1]
    · rw [if_neg q1, if_pos rfl, if_neg q1]
  have c3 := q_count_3 (N := N) (c := c) m (a := a) I
  unfold f_L_moves_b134
  by_cases q1 : un w l < q
  · rw [if_pos q1] at y0
    have e := xp_bad (N := N) m hN S y0 (by omega)
    rw [show cd 4 = -100000003 from rfl] at e
    have c11 := q_count_11 (N := N) (c := uc c ((a 73 1 + a 73 2) % 7 + 1) w) m (a := rb 4 a) (w := w)
    rw [rb_16 (by omega)] at c11
    obtain ⟨w', c', a', f, r⟩ := mv_no (N := N) m hN S hK (x := x) (y := 4) (r := -100000003) (bc := bc) (bs := bs) (by omega) (by omega)
    refine ⟨w', c', a', ?_, r⟩
    unfold f_L_moves_b663
    simp only [to_bz, to_nz, to_cz, to_iz]
    simp (disch := omega) only [l0, l2, l6, o0, dg, c12, et, e1, e2, ed, c3, e, c11, f, bz_t, nz_t, cz_T, cz_t, iz_T, iz_F, iz_y, iz_n, not_true_eq_false, not_false_eq_true, true_and, and_true, w32_e, w64_e, mset_e, mset_n, up_e, up_n, if_y, if_n, Int.add_zero, mk_1_m2, mk_1_0, mk_1_1, mk_1_2, mk_1_3, mk_1_4, mk_1_5, mk_1_6, mk_2_m2, mk_2_0, mk_2_1, mk_2_2, mk_2_3, mk_2_4, mk_2_5, mk_2_6, mk_2_7, mk_2_8, mk_2_9, mk_2_10, mk_3_m2, mk_3_0, mk_3_1, mk_3_2, mk_3_3, mk_3_4, mk_3_5, mk_4_m2, mk_4_m1, mk_5_m2, mk_5_m1, mk_11_m2, mk_11_m1, mk_42_m2, mk_42_m1, mk_73_m2, mk_73_0, mk_73_1, mk_73_2, mk_74_m2, mk_74_m1, mk_572_m2, mk_572_m1, mk_715_m2, mk_715_m1, mk_717_m2, mk_717_m1, mk_718_m2, mk_718_m1, mk_716_m2, mk_716_0, mk_716_1, mk_716_2, mk_716_3, mk_716_4, mk_719_m2, mk_74_at, mk_572_at, mk_715_at, mk_717_at, mk_718_at, mk_4_at, mk_5_at, mk_11_at, mk_42_at, mk_O_k, mk_O_0, mk_O_1, mk_O_2, mk_O_3, mk_L_k, mk_L_0, mk_L_1, mk_L_2, mk_L_3, mk_L_4, mk_L_5, mk_L_6, mk_L_7, mk_L_8, mk_L_9, mk_L_10, mk_X_k, mk_X_0, mk_X_1, mk_X_2, mk_X_3, mk_X_4, mk_75_k, mk_573_k, r_1_6, r_73_1, r_73_2, r_716_1, r_716_2, r_716_3, r_715, r_717, r_718, s_O0, s_O1, s_O2, s_O3, s_L0, s_L1, s_L2, s_L3, s_L4, s_L5, s_L6, s_L7, s_L8, s_L9, s_L10, s_X0, s_X1, s_X2, s_X3, s_X4, s_2_4, s_2_5, s_2_6, s_2_7, s_2_8, s_2_9, s_2_10, s_3_1, s_3_2, s_3_3, s_3_4, s_3_5, s_4]
  · rw [if_neg q1] at y0
    by_cases q2 : w 3 = 30
    · rw [if_pos q2] at y0
      have e := xp_bad (N := N) m hN S y0 (by omega)
      rw [show cd 5 = -100000003 from rfl] at e
      have c11 := q_count_11 (N := N) (c := uc c ((a 73 1 + a 73 2) % 7 + 1) w) m (a := rb 5 a) (w := w)
      rw [rb_16 (by omega)] at c11
      obtain ⟨w', c', a', f, r⟩ := mv_no (N := N) m hN S hK (x := x) (y := 5) (r := -100000003) (bc := bc) (bs := bs) (by omega) (by omega)
      refine ⟨w', c', a', ?_, r⟩
      unfold f_L_moves_b663
      simp only [to_bz, to_nz, to_cz, to_iz]
      simp (disch := omega) only [l0, l2, l6, o0, dg, c12, et, e1, e2, ed, c3, e, c11, f, bz_t, nz_t, cz_T, cz_t, iz_T, iz_F, iz_y, iz_n, not_true_eq_false, not_false_eq_true, true_and, and_true, w32_e, w64_e, mset_e, mset_n, up_e, up_n, if_y, if_n, Int.add_zero, mk_1_m2, mk_1_0, mk_1_1, mk_1_2, mk_1_3, mk_1_4, mk_1_5, mk_1_6, mk_2_m2, mk_2_0, mk_2_1, mk_2_2, mk_2_3, mk_2_4, mk_2_5, mk_2_6, mk_2_7, mk_2_8, mk_2_9, mk_2_10, mk_3_m2, mk_3_0, mk_3_1, mk_3_2, mk_3_3, mk_3_4, mk_3_5, mk_4_m2, mk_4_m1, mk_5_m2, mk_5_m1, mk_11_m2, mk_11_m1, mk_42_m2, mk_42_m1, mk_73_m2, mk_73_0, mk_73_1, mk_73_2, mk_74_m2, mk_74_m1, mk_572_m2, mk_572_m1, mk_715_m2, mk_715_m1, mk_717_m2, mk_717_m1, mk_718_m2, mk_718_m1, mk_716_m2, mk_716_0, mk_716_1, mk_716_2, mk_716_3, mk_716_4, mk_719_m2, mk_74_at, mk_572_at, mk_715_at, mk_717_at, mk_718_at, mk_4_at, mk_5_at, mk_11_at, mk_42_at, mk_O_k, mk_O_0, mk_O_1, mk_O_2, mk_O_3, mk_L_k, mk_L_0, mk_L_1, mk_L_2, mk_L_3, mk_L_4, mk_L_5, mk_L_6, mk_L_7, mk_L_8, mk_L_9, mk_L_10, mk_X_k, mk_X_0, mk_X_1, mk_X_2, mk_X_3, mk_X_4, mk_75_k, mk_573_k, r_1_6, r_73_1, r_73_2, r_716_1, r_716_2, r_716_3, r_715, r_717, r_718, s_O0, s_O1, s_O2, s_O3, s_L0, s_L1, s_L2, s_L3, s_L4, s_L5, s_L6, s_L7, s_L8, s_L9, s_L10, s_X0, s_X1, s_X2, s_X3, s_X4, s_2_4, s_2_5, s_2_6, s_2_7, s_2_8, s_2_9, s_2_10, s_3_1, s_3_2, s_3_3, s_3_4, s_3_5, s_4]
    · rw [if_neg q2] at y0
      obtain ⟨e, rn⟩ := xp_good (N := N) m hN S y0
      have J := JV_Xp S.1 hK y0
      obtain ⟨w', c', a', f, r⟩ := mv_ok (N := N) m hN S hK J (x := x) (bc := bc) (bs := bs) rn
      have u3 : dXp w l q 3 = w 3 + 1 := by unfold dXp; simp (disch := omega) only [up_n, up_e]
      have u0 : dXp w l q 0 = w 0 := by unfold dXp; simp (disch := omega) only [up_n]
      have u6 : dXp w l q 6 = w 6 := by unfold dXp; simp (disch := omega) only [up_n]
      have f1 : dXp w l q (370 + 5 * w 3 + 1) = q := by unfold dXp; simp (disch := omega) only [up_n, up_e]
      have f2 : dXp w l q (370 + 5 * w 3 + 2) = dt w l (w (40 + 11 * l + 7)) q := by unfold dXp; simp (disch := omega) only [up_n, up_e]
      have f3 : dXp w l q (370 + 5 * w 3 + 3) = w 0 + w 6 := by unfold dXp; simp (disch := omega) only [up_n, up_e]
      have k1 := q_exported_1 (N := N) (c := uc c ((a 73 1 + a 73 2) % 7 + 1) w) m (a := apA a) J.1.1 (l := w 3) (by omega)
      have k2 := q_exported_2 (N := N) (c := uc c ((a 73 1 + a 73 2) % 7 + 1) w) m (a := apA a) J.1.1 (l := w 3) (by omega)
      have k3 := q_exported_3 (N := N) (c := uc c ((a 73 1 + a 73 2) % 7 + 1) w) m (a := apA a) J.1.1 (l := w 3) (by omega)
      have c0 := q_count_0 (N := N) (c := uc c ((a 73 1 + a 73 2) % 7 + 1) w) m (a := apA a) J.1.1
      have c7 := q_count_7 (N := N) (c := uc c ((a 73 1 + a 73 2) % 7 + 1) w) m (a := apA a) J.1.1
      rw [f1] at k1; rw [f2] at k2; rw [f3] at k3; rw [u0] at c0; rw [u6] at c7
      refine ⟨w', c', a', ?_, r⟩
      unfold f_L_moves_b663
      simp only [to_bz, to_nz, to_cz, to_iz]
      simp (disch := omega) only [l0, l2, l6, o0, dg, c12, et, e1, e2, ed, c3, e, k1, k2, k3, c0, c7, f, bz_t, nz_t, cz_T, cz_t, iz_T, iz_F, iz_y, iz_n, not_true_eq_false, not_false_eq_true, true_and, and_true, w32_e, w64_e, mset_e, mset_n, up_e, up_n, if_y, if_n, Int.add_zero, mk_1_m2, mk_1_0, mk_1_1, mk_1_2, mk_1_3, mk_1_4, mk_1_5, mk_1_6, mk_2_m2, mk_2_0, mk_2_1, mk_2_2, mk_2_3, mk_2_4, mk_2_5, mk_2_6, mk_2_7, mk_2_8, mk_2_9, mk_2_10, mk_3_m2, mk_3_0, mk_3_1, mk_3_2, mk_3_3, mk_3_4, mk_3_5, mk_4_m2, mk_4_m1, mk_5_m2, mk_5_m1, mk_11_m2, mk_11_m1, mk_42_m2, mk_42_m1, mk_73_m2, mk_73_0, mk_73_1, mk_73_2, mk_74_m2, mk_74_m1, mk_572_m2, mk_572_m1, mk_715_m2, mk_715_m1, mk_717_m2, mk_717_m1, mk_718_m2, mk_718_m1, mk_716_m2, mk_716_0, mk_716_1, mk_716_2, mk_716_3, mk_716_4, mk_719_m2, mk_74_at, mk_572_at, mk_715_at, mk_717_at, mk_718_at, mk_4_at, mk_5_at, mk_11_at, mk_42_at, mk_O_k, mk_O_0, mk_O_1, mk_O_2, mk_O_3, mk_L_k, mk_L_0, mk_L_1, mk_L_2, mk_L_3, mk_L_4, mk_L_5, mk_L_6, mk_L_7, mk_L_8, mk_L_9, mk_L_10, mk_X_k, mk_X_0, mk_X_1, mk_X_2, mk_X_3, mk_X_4, mk_75_k, mk_573_k, r_1_6, r_73_1, r_73_2, r_716_1, r_716_2, r_716_3, r_715, r_717, r_718, s_O0, s_O1, s_O2, s_O3, s_L0, s_L1, s_L2, s_L3, s_L4, s_L5, s_L6, s_L7, s_L8, s_L9, s_L10, s_X0, s_X1, s_X2, s_X3, s_X4, s_2_4, s_2_5, s_2_6, s_2_7, s_2_8, s_2_9, s_2_10, s_3_1, s_3_2, s_3_3, s_3_4, s_3_5, s_4]
theorem mv_sa (hN : 5000 ≤ N) (S : zST K w c a) (hK : K + 1 ≤ 60000) {x l q bc bs : Int} (z1 : 0 ≤ l ∧ l < w 2) (z2 : 1 ≤ q ∧ q ≤ un w l + 1) : nO (K + 1) (f_L_moves_b134 N 1 1 x l (un w l) q bc bs (mk w c m a)) c m a := by
  have hk := zST_K S
  have I := S.1.1.1
  have g := I.hd; unfold HEAD at g
  have lo := I.lot z1; unfold LOT at lo
  have ow := I.own (o := w (40 + 11 * l)) (by omega); unfold OWN at ow
  have qb := S.1.2.2.2 l z1
  have un1 : un w l = w (40 + 11 * l + 2) - w (40 + 11 * l + 7) := rfl
  have h2 := S.2.1.2.1
  have et : w (40 + 11 * l + 2) - un w l = w (40 + 11 * l + 7) := by omega
  have p1 := mul_le (show 0 ≤ w (40 + 11 * l + 6) ∧ w (40 + 11 * l + 6) ≤ 10000000 by omega) (show 0 ≤ w (40 + 11 * l + 7) ∧ w (40 + 11 * l + 7) ≤ 1000000 by omega)
  have p2 := mul_le (show 0 ≤ w (40 + 11 * l + 6) ∧ w (40 + 11 * l + 6) ≤ 10000000 by omega) (show 0 ≤ w (40 + 11 * l + 7) + q ∧ w (40 + 11 * l + 7) + q ≤ 2000000 by omega)
  have e1 : Int.tdiv (w (40 + 11 * l + 6) * w (40 + 11 * l + 7)) (w (40 + 11 * l + 2)) = w (40 + 11 * l + 6) * w (40 + 11 * l + 7) / w (40 + 11 * l + 2) := Int.tdiv_eq_ediv_of_nonneg p1.1
  have e2 : Int.tdiv (w (40 + 11 * l + 6) * (w (40 + 11 * l + 7) + q)) (w (40 + 11 * l + 2)) = w (40 + 11 * l + 6) * (w (40 + 11 * l + 7) + q) / w (40 + 11 * l + 2) := Int.tdiv_eq_ediv_of_nonneg p2.1
  have v1 := div_b p1 (show 0 < w (40 + 11 * l + 2) by omega)
  have v2 := div_b p2 (show 0 < w (40 + 11 * l + 2) by omega)
  have ed : w (40 + 11 * l + 6) * (w (40 + 11 * l + 7) + q) / w (40 + 11 * l + 2) - w (40 + 11 * l + 6) * w (40 + 11 * l + 7) / w (40 + 11 * l + 2) = dt w l (w (40 + 11 * l + 7)) q := rfl
  have l0 := q_lot_0 (N := N) (c := c) m (a := a) I z1
  have l2 := q_lot_2 (N := N) (c := c) m (a := a) I z1
  have l6 := q_lot_6 (N := N) (c := c) m (a := a) I z1
  have o0 := q_owner_0 (N := N) (c := c) m (a := a) I (o := w (40 + 11 * l)) (by omega)
  have dg := q_digest (N := N) (c := c) m (a := a) hN I
  have c12 := q_count_12 (N := N) (c := c) m (a := a) (w := w)
  have y0 : ySa w l q = if un w l < q then 4 else if w (20 + 4 * w (40 + 11 * l)) < dt w l (w (40 + 11 * l + 7) + fr w l q) (q - fr w l q) then 3 else 0 := by
    unfold ySa yUn
    rw [if_pos z1, if_pos (show 1 ≤ q ∧ q ≤ 1000000 by omega)]
    by_cases q1 : un w l < q
    · rw [if_pos q1, if_neg (by omega), if_pos q1]
    · rw [if_neg q1, if_pos rfl, if_neg q1]
  have c9 := q_count_9 (N := N) (c := c) m (a := a) I
  have l10 := q_lot_10 (N := N) (c := c) m (a := a) I z1
  have l11 := q_lot_11 (N := N) (c := c) m (a := a) I z1
  have p3 := mul_le (show 0 ≤ w (40 + 11 * l + 2) ∧ w (40 + 11 * l + 2) ≤ 1000000 by omega) (show 0 ≤ w 8 ∧ w 8 ≤ 1000 by omega)
  have e3 : Int.tdiv (w (40 + 11 * l + 2) * w 8) 1000 = w (40 + 11 * l + 2) * w 8 / 1000 := Int.tdiv_eq_ediv_of_nonneg p3.1
  have v3 := div_b p3 (show (0 : Int) < 1000 by omega)
  unfold f_L_moves_b134
  by_cases q1 : un w l < q
  · rw [if_pos q1] at y0
    have e := sa_bad (N := N) m hN S y0 (by omega)
    rw [show cd 4 = -100000003 from rfl] at e
    have c11 := q_count_11 (N := N) (c := uc c ((a 73 1 + a 73 2) % 7 + 1) w) m (a := rb 4 a) (w := w)
    rw [rb_16 (by omega)] at c11
    obtain ⟨w', c', a', f, r⟩ := mv_no (N := N) m hN S hK (x := x) (y := 4) (r := -100000003) (bc := bc) (bs := bs) (by omega) (by omega)
    refine ⟨w', c', a', ?_, r⟩
    unfold f_L_moves_b435 f_L_moves_b527
    simp only [to_bz, to_nz, to_cz, to_iz]
    simp (disch := omega) only [l0, l2, l6, o0, dg, c12, et, e1, e2, ed, c9, l10, l11, e3, e, c11, f, bz_t, nz_t, cz_T, cz_t, iz_T, iz_F, iz_y, iz_n, not_true_eq_false, not_false_eq_true, true_and, and_true, w32_e, w64_e, mset_e, mset_n, up_e, up_n, if_y, if_n, Int.add_zero, mk_1_m2, mk_1_0, mk_1_1, mk_1_2, mk_1_3, mk_1_4, mk_1_5, mk_1_6, mk_2_m2, mk_2_0, mk_2_1, mk_2_2, mk_2_3, mk_2_4, mk_2_5, mk_2_6, mk_2_7, mk_2_8, mk_2_9, mk_2_10, mk_3_m2, mk_3_0, mk_3_1, mk_3_2, mk_3_3, mk_3_4, mk_3_5, mk_4_m2, mk_4_m1, mk_5_m2, mk_5_m1, mk_11_m2, mk_11_m1, mk_42_m2, mk_42_m1, mk_73_m2, mk_73_0, mk_73_1, mk_73_2, mk_74_m2, mk_74_m1, mk_572_m2, mk_572_m1, mk_715_m2, mk_715_m1, mk_717_m2, mk_717_m1, mk_718_m2, mk_718_m1, mk_716_m2, mk_716_0, mk_716_1, mk_716_2, mk_716_3, mk_716_4, mk_719_m2, mk_74_at, mk_572_at, mk_715_at, mk_717_at, mk_718_at, mk_4_at, mk_5_at, mk_11_at, mk_42_at, mk_O_k, mk_O_0, mk_O_1, mk_O_2, mk_O_3, mk_L_k, mk_L_0, mk_L_1, mk_L_2, mk_L_3, mk_L_4, mk_L_5, mk_L_6, mk_L_7, mk_L_8, mk_L_9, mk_L_10, mk_X_k, mk_X_0, mk_X_1, mk_X_2, mk_X_3, mk_X_4, mk_75_k, mk_573_k, r_1_6, r_73_1, r_73_2, r_716_1, r_716_2, r_716_3, r_715, r_717, r_718, s_O0, s_O1, s_O2, s_O3, s_L0, s_L1, s_L2, s_L3, s_L4, s_L5, s_L6, s_L7, s_L8, s_L9, s_L10, s_X0, s_X1, s_X2, s_X3, s_X4, s_2_4, s_2_5, s_2_6, s_2_7, s_2_8, s_2_9, s_2_10, s_3_1, s_3_2, s_3_3, s_3_4, s_3_5, s_4]
  · rw [if_neg q1] at y0
    by_cases q2 : w (20 + 4 * w (40 + 11 * l)) < dt w l (w (40 + 11 * l + 7) + fr w l q) (q - fr w l q)
    · rw [if_pos q2] at y0
      have e := sa_bad (N := N) m hN S y0 (by omega)
      rw [show cd 3 = -100000003 from rfl] at e
      have c11 := q_count_11 (N := N) (c := uc c ((a 73 1 + a 73 2) % 7 + 1) w) m (a := rb 3 a) (w := w)
      rw [rb_16 (by omega)] at c11
      obtain ⟨w', c', a', f, r⟩ := mv_no (N := N) m hN S hK (x := x) (y := 3) (r := -100000003) (bc := bc) (bs := bs) (by omega) (by omega)
      refine ⟨w', c', a', ?_, r⟩
      unfold f_L_moves_b435 f_L_moves_b527
      simp only [to_bz, to_nz, to_cz, to_iz]
      simp (disch := omega) only [l0, l2, l6, o0, dg, c12, et, e1, e2, ed, c9, l10, l11, e3, e, c11, f, bz_t, nz_t, cz_T, cz_t, iz_T, iz_F, iz_y, iz_n, not_true_eq_false, not_false_eq_true, true_and, and_true, w32_e, w64_e, mset_e, mset_n, up_e, up_n, if_y, if_n, Int.add_zero, mk_1_m2, mk_1_0, mk_1_1, mk_1_2, mk_1_3, mk_1_4, mk_1_5, mk_1_6, mk_2_m2, mk_2_0, mk_2_1, mk_2_2, mk_2_3, mk_2_4, mk_2_5, mk_2_6, mk_2_7, mk_2_8, mk_2_9, mk_2_10, mk_3_m2, mk_3_0, mk_3_1, mk_3_2, mk_3_3, mk_3_4, mk_3_5, mk_4_m2, mk_4_m1, mk_5_m2, mk_5_m1, mk_11_m2, mk_11_m1, mk_42_m2, mk_42_m1, mk_73_m2, mk_73_0, mk_73_1, mk_73_2, mk_74_m2, mk_74_m1, mk_572_m2, mk_572_m1, mk_715_m2, mk_715_m1, mk_717_m2, mk_717_m1, mk_718_m2, mk_718_m1, mk_716_m2, mk_716_0, mk_716_1, mk_716_2, mk_716_3, mk_716_4, mk_719_m2, mk_74_at, mk_572_at, mk_715_at, mk_717_at, mk_718_at, mk_4_at, mk_5_at, mk_11_at, mk_42_at, mk_O_k, mk_O_0, mk_O_1, mk_O_2, mk_O_3, mk_L_k, mk_L_0, mk_L_1, mk_L_2, mk_L_3, mk_L_4, mk_L_5, mk_L_6, mk_L_7, mk_L_8, mk_L_9, mk_L_10, mk_X_k, mk_X_0, mk_X_1, mk_X_2, mk_X_3, mk_X_4, mk_75_k, mk_573_k, r_1_6, r_73_1, r_73_2, r_716_1, r_716_2, r_716_3, r_715, r_717, r_718, s_O0, s_O1, s_O2, s_O3, s_L0, s_L1, s_L2, s_L3, s_L4, s_L5, s_L6, s_L7, s_L8, s_L9, s_L10, s_X0, s_X1, s_X2, s_X3, s_X4, s_2_4, s_2_5, s_2_6, s_2_7, s_2_8, s_2_9, s_2_10, s_3_1, s_3_2, s_3_3, s_3_4, s_3_5, s_4]
    · rw [if_neg q2] at y0
      obtain ⟨e, rn⟩ := sa_good (N := N) m hN S y0
      have J := JV_Sa S.1 hK y0
      obtain ⟨w', c', a', f, r⟩ := mv_ok (N := N) m hN S hK J (x := x) (bc := bc) (bs := bs) rn
      have u1 : dSa w l q 1 = w 1 := by unfold dSa; simp (disch := omega) only [up_n]
      have u2 : dSa w l q 2 = w 2 := by unfold dSa; simp (disch := omega) only [up_n]
      have u0 : dSa w l q (20 + 4 * w (40 + 11 * l)) = w (20 + 4 * w (40 + 11 * l)) - sd w l q := by unfold dSa; simp (disch := omega) only [up_n, up_e]
      have u10 : dSa w l q (40 + 11 * l + 10) = w (40 + 11 * l + 10) + q := by unfold dSa; simp (disch := omega) only [up_n, up_e]
      have u9 : dSa w l q (40 + 11 * l + 9) = w (40 + 11 * l + 9) + dt w l (w (40 + 11 * l + 7)) (fr w l q) := by unfold dSa; simp (disch := omega) only [up_n, up_e]
      have o2 := q_owner_0 (N := N) (c := uc c ((a 73 1 + a 73 2) % 7 + 1) w) m (a := apA a) J.1.1 (o := w (40 + 11 * l)) (by omega)
      have k10 := q_lot_10 (N := N) (c := uc c ((a 73 1 + a 73 2) % 7 + 1) w) m (a := apA a) J.1.1 (l := l) (by omega)
      have k11 := q_lot_11 (N := N) (c := uc c ((a 73 1 + a 73 2) % 7 + 1) w) m (a := apA a) J.1.1 (l := l) (by omega)
      rw [u0] at o2; rw [u9] at k10; rw [u10] at k11
      have sp := dt_split w l (w (40 + 11 * l + 7)) (fr w l q) q
      have sdd : sd w l q = dt w l (w (40 + 11 * l + 7) + fr w l q) (q - fr w l q) := rfl
      have fb := fr_b w l q (by omega)
      have dn := dt_b (w := w) (l := l) (t := w (40 + 11 * l + 7)) (q := fr w l q) (by omega) (by omega) (by omega) (by omega) (by omega)
      have dm := dt_b (w := w) (l := l) (t := w (40 + 11 * l + 7) + fr w l q) (q := q - fr w l q) (by omega) (by omega) (by omega) (by omega) (by omega)
      have f1 : q ≤ w (40 + 11 * l + 2) * w 8 / 1000 - w (40 + 11 * l + 10) → sd w l q = 0 := fun z => by
        have ef : fr w l q = q := by unfold fr; rw [if_neg (by omega), if_neg (by omega)]
        rw [sdd, ef, show q - q = 0 by omega]
        unfold dt
        rw [Int.add_zero]; omega
      have f2 : w (40 + 11 * l + 2) * w 8 / 1000 - w (40 + 11 * l + 10) ≤ 0 → sd w l q = dt w l (w (40 + 11 * l + 7)) q := fun z => by
        have ef : fr w l q = 0 := by
          unfold fr
          by_cases q4 : w (40 + 11 * l + 2) * w 8 / 1000 - w (40 + 11 * l + 10) < 0
          · rw [if_pos q4]
          · rw [if_neg q4, if_pos (by omega)]; omega
        rw [sdd, ef, Int.add_zero, Int.sub_zero]
      refine ⟨w', c', a', ?_, r⟩
      rw [← sdd] at sp dm
      generalize dt w l (w (40 + 11 * l + 7)) (fr w l q) = df at *
      unfold f_L_moves_b435 f_L_moves_b492 f_L_moves_b508 f_L_moves_b527
      by_cases q5 : w (40 + 11 * l + 2) * w 8 / 1000 - w (40 + 11 * l + 10) < q
      · by_cases q6 : 0 < w (40 + 11 * l + 2) * w 8 / 1000 - w (40 + 11 * l + 10)
        · generalize sd w l q = s at *
          simp only [to_bz, to_nz, to_cz, to_iz]
          simp (disch := omega) only [l0, l2, l6, o0, dg, c12, et, e1, e2, ed, c9, l10, l11, e3, e, k10, k11, o2, f, bz_t, nz_t, cz_T, cz_t, iz_T, iz_F, iz_y, iz_n, not_true_eq_false, not_false_eq_true, true_and, and_true, w32_e, w64_e, mset_e, mset_n, up_e, up_n, if_y, if_n, Int.add_zero, mk_1_m2, mk_1_0, mk_1_1, mk_1_2, mk_1_3, mk_1_4, mk_1_5, mk_1_6, mk_2_m2, mk_2_0, mk_2_1, mk_2_2, mk_2_3, mk_2_4, mk_2_5, mk_2_6, mk_2_7, mk_2_8, mk_2_9, mk_2_10, mk_3_m2, mk_3_0, mk_3_1, mk_3_2, mk_3_3, mk_3_4, mk_3_5, mk_4_m2, mk_4_m1, mk_5_m2, mk_5_m1, mk_11_m2, mk_11_m1, mk_42_m2, mk_42_m1, mk_73_m2, mk_73_0, mk_73_1, mk_73_2, mk_74_m2, mk_74_m1, mk_572_m2, mk_572_m1, mk_715_m2, mk_715_m1, mk_717_m2, mk_717_m1, mk_718_m2, mk_718_m1, mk_716_m2, mk_716_0, mk_716_1, mk_716_2, mk_716_3, mk_716_4, mk_719_m2, mk_74_at, mk_572_at, mk_715_at, mk_717_at, mk_718_at, mk_4_at, mk_5_at, mk_11_at, mk_42_at, mk_O_k, mk_O_0, mk_O_1, mk_O_2, mk_O_3, mk_L_k, mk_L_0, mk_L_1, mk_L_2, mk_L_3, mk_L_4, mk_L_5, mk_L_6, mk_L_7, mk_L_8, mk_L_9, mk_L_10, mk_X_k, mk_X_0, mk_X_1, mk_X_2, mk_X_3, mk_X_4, mk_75_k, mk_573_k, r_1_6, r_73_1, r_73_2, r_716_1, r_716_2, r_716_3, r_715, r_717, r_718, s_O0, s_O1, s_O2, s_O3, s_L0, s_L1, s_L2, s_L3, s_L4, s_L5, s_L6, s_L7, s_L8, s_L9, s_L10, s_X0, s_X1, s_X2, s_X3, s_X4, s_2_4, s_2_5, s_2_6, s_2_7, s_2_8, s_2_9, s_2_10, s_3_1, s_3_2, s_3_3, s_3_4, s_3_5, s_4]
        · have f3 := f2 (by omega)
          generalize sd w l q = s at *
          simp only [to_bz, to_nz, to_cz, to_iz]
          simp (disch := omega) only [l0, l2, l6, o0, dg, c12, et, e1, e2, ed, c9, l10, l11, e3, e, k10, k11, o2, f, bz_t, nz_t, cz_T, cz_t, iz_T, iz_F, iz_y, iz_n, not_true_eq_false, not_false_eq_true, true_and, and_true, w32_e, w64_e, mset_e, mset_n, up_e, up_n, if_y, if_n, Int.add_zero, mk_1_m2, mk_1_0, mk_1_1, mk_1_2, mk_1_3, mk_1_4, mk_1_5, mk_1_6, mk_2_m2, mk_2_0, mk_2_1, mk_2_2, mk_2_3, mk_2_4, mk_2_5, mk_2_6, mk_2_7, mk_2_8, mk_2_9, mk_2_10, mk_3_m2, mk_3_0, mk_3_1, mk_3_2, mk_3_3, mk_3_4, mk_3_5, mk_4_m2, mk_4_m1, mk_5_m2, mk_5_m1, mk_11_m2, mk_11_m1, mk_42_m2, mk_42_m1, mk_73_m2, mk_73_0, mk_73_1, mk_73_2, mk_74_m2, mk_74_m1, mk_572_m2, mk_572_m1, mk_715_m2, mk_715_m1, mk_717_m2, mk_717_m1, mk_718_m2, mk_718_m1, mk_716_m2, mk_716_0, mk_716_1, mk_716_2, mk_716_3, mk_716_4, mk_719_m2, mk_74_at, mk_572_at, mk_715_at, mk_717_at, mk_718_at, mk_4_at, mk_5_at, mk_11_at, mk_42_at, mk_O_k, mk_O_0, mk_O_1, mk_O_2, mk_O_3, mk_L_k, mk_L_0, mk_L_1, mk_L_2, mk_L_3, mk_L_4, mk_L_5, mk_L_6, mk_L_7, mk_L_8, mk_L_9, mk_L_10, mk_X_k, mk_X_0, mk_X_1, mk_X_2, mk_X_3, mk_X_4, mk_75_k, mk_573_k, r_1_6, r_73_1, r_73_2, r_716_1, r_716_2, r_716_3, r_715, r_717, r_718, s_O0, s_O1, s_O2, s_O3, s_L0, s_L1, s_L2, s_L3, s_L4, s_L5, s_L6, s_L7, s_L8, s_L9, s_L10, s_X0, s_X1, s_X2, s_X3, s_X4, s_2_4, s_2_5, s_2_6, s_2_7, s_2_8, s_2_9, s_2_10, s_3_1, s_3_2, s_3_3, s_3_4, s_3_5, s_4]
      · have f3 := f1 (by omega)
        generalize sd w l q = s at *
        simp only [to_bz, to_nz, to_cz, to_iz]
        simp (disch := omega) only [l0, l2, l6, o0, dg, c12, et, e1, e2, ed, c9, l10, l11, e3, e, k10, k11, o2, f, bz_t, nz_t, cz_T, cz_t, iz_T, iz_F, iz_y, iz_n, not_true_eq_false, not_false_eq_true, true_and, and_true, w32_e, w64_e, mset_e, mset_n, up_e, up_n, if_y, if_n, Int.add_zero, mk_1_m2, mk_1_0, mk_1_1, mk_1_2, mk_1_3, mk_1_4, mk_1_5, mk_1_6, mk_2_m2, mk_2_0, mk_2_1, mk_2_2, mk_2_3, mk_2_4, mk_2_5, mk_2_6, mk_2_7, mk_2_8, mk_2_9, mk_2_10, mk_3_m2, mk_3_0, mk_3_1, mk_3_2, mk_3_3, mk_3_4, mk_3_5, mk_4_m2, mk_4_m1, mk_5_m2, mk_5_m1, mk_11_m2, mk_11_m1, mk_42_m2, mk_42_m1, mk_73_m2, mk_73_0, mk_73_1, mk_73_2, mk_74_m2, mk_74_m1, mk_572_m2, mk_572_m1, mk_715_m2, mk_715_m1, mk_717_m2, mk_717_m1, mk_718_m2, mk_718_m1, mk_716_m2, mk_716_0, mk_716_1, mk_716_2, mk_716_3, mk_716_4, mk_719_m2, mk_74_at, mk_572_at, mk_715_at, mk_717_at, mk_718_at, mk_4_at, mk_5_at, mk_11_at, mk_42_at, mk_O_k, mk_O_0, mk_O_1, mk_O_2, mk_O_3, mk_L_k, mk_L_0, mk_L_1, mk_L_2, mk_L_3, mk_L_4, mk_L_5, mk_L_6, mk_L_7, mk_L_8, mk_L_9, mk_L_10, mk_X_k, mk_X_0, mk_X_1, mk_X_2, mk_X_3, mk_X_4, mk_75_k, mk_573_k, r_1_6, r_73_1, r_73_2, r_716_1, r_716_2, r_716_3, r_715, r_717, r_718, s_O0, s_O1, s_O2, s_O3, s_L0, s_L1, s_L2, s_L3, s_L4, s_L5, s_L6, s_L7, s_L8, s_L9, s_L10, s_X0, s_X1, s_X2, s_X3, s_X4, s_2_4, s_2_5, s_2_6, s_2_7, s_2_8, s_2_9, s_2_10, s_3_1, s_3_2, s_3_3, s_3_4, s_3_5, s_4]
theorem mv_gi0 (hN : 5000 ≤ N) (S : zST K w c a) (hK : K + 1 ≤ 60000) {x l o bc bs : Int} (z1 : 0 ≤ l ∧ l < w 2) (z2 : 0 ≤ o ∧ o < w 1) : nO (K + 1) (f_L_moves_b829 N 1 x l (w (40 + 11 * l)) (DG w) (a 73 2) o (us w o + su w l) (if 0 < w (20 + 4 * o + 2) then 1 else 0) bc bs (mk w c m a)) c m a := by
  have hk := zST_K S
  have I := S.1.1.1
  have g := I.hd; unfold HEAD at g
  have lo := I.lot z1; unfold LOT at lo
  have ow := I.own (o := w (40 + 11 * l)) (by omega); unfold OWN at ow
  have qb := S.1.2.2.2 l z1
  have un1 : un w l = w (40 + 11 * l + 2) - w (40 + 11 * l + 7) := rfl
  have h2 := S.2.1.2.1
  have su1 : su w l = w (40 + 11 * l + 6) - w (40 + 11 * l + 8) - w (40 + 11 * l + 9) := rfl
  have t := I.usT o
  have c8 := q_count_8 (N := N) (c := c) m (a := a) I
  have o1 := q_owner_1 (N := N) (c := c) m (a := a) I z2
  have ow2 := I.own (o := o) (by omega); unfold OWN at ow2
  have p1 := mul_le (show 0 ≤ us w o + su w l ∧ us w o + su w l ≤ 310000000 by omega) (show 0 ≤ w 7 ∧ w 7 ≤ 100 by omega)
  have e1 : Int.tdiv ((us w o + su w l) * w 7) 100 = (us w o + su w l) * w 7 / 100 := Int.tdiv_eq_ediv_of_nonneg p1.1
  have hy : yGi w l o = if w (40 + 11 * l) = o then -2 else if 0 < w (20 + 4 * o + 2) then 1 else if (us w o + su w l) * w 7 / 100 ≤ w (20 + 4 * o + 1) then 0 else 2 := by
    unfold yGi
    rw [if_pos z1, if_pos z2]
  unfold f_L_moves_b829
  have two : ∀ v : Int, (v = 0 ∨ v = 1) → ((us w o + su w l) * w 7 / 100 ≤ w (20 + 4 * o + 1) ↔ v = 1) → nO (K + 1) (f_L_moves_b861 N 1 x l (w (40 + 11 * l)) (DG w) (a 73 2) o (us w o + su w l) (if 0 < w (20 + 4 * o + 2) then 1 else 0) v bc bs (mk w c m a)) c m a := by
    intro v hv hv2
    unfold f_L_moves_b861
    by_cases q1 : w (40 + 11 * l) = o
    · rw [if_pos q1] at hy
      have e := gi_bad (N := N) m hN S hy (by omega)
      rw [show cd (-2) = -100000002 from rfl] at e
      obtain ⟨w', c', a', f, r⟩ := mv_no (N := N) m hN S hK (x := x) (y := -2) (r := -100000002) (bc := bc) (bs := bs) (by omega) (by omega)
      refine ⟨w', c', a', ?_, r⟩
      generalize (if 0 < w (20 + 4 * o + 2) then (1 : Int) else 0) = y1 at *
      simp only [to_bz, to_nz, to_cz, to_iz]
      simp (disch := omega) only [e, f, bz_t, nz_t, cz_T, cz_t, iz_T, iz_F, iz_y, iz_n, not_true_eq_false, not_false_eq_true, true_and, and_true, w32_e, w64_e, mset_e, mset_n, up_e, up_n, if_y, if_n, Int.add_zero, mk_1_m2, mk_1_0, mk_1_1, mk_1_2, mk_1_3, mk_1_4, mk_1_5, mk_1_6, mk_2_m2, mk_2_0, mk_2_1, mk_2_2, mk_2_3, mk_2_4, mk_2_5, mk_2_6, mk_2_7, mk_2_8, mk_2_9, mk_2_10, mk_3_m2, mk_3_0, mk_3_1, mk_3_2, mk_3_3, mk_3_4, mk_3_5, mk_4_m2, mk_4_m1, mk_5_m2, mk_5_m1, mk_11_m2, mk_11_m1, mk_42_m2, mk_42_m1, mk_73_m2, mk_73_0, mk_73_1, mk_73_2, mk_74_m2, mk_74_m1, mk_572_m2, mk_572_m1, mk_715_m2, mk_715_m1, mk_717_m2, mk_717_m1, mk_718_m2, mk_718_m1, mk_716_m2, mk_716_0, mk_716_1, mk_716_2, mk_716_3, mk_716_4, mk_719_m2, mk_74_at, mk_572_at, mk_715_at, mk_717_at, mk_718_at, mk_4_at, mk_5_at, mk_11_at, mk_42_at, mk_O_k, mk_O_0, mk_O_1, mk_O_2, mk_O_3, mk_L_k, mk_L_0, mk_L_1, mk_L_2, mk_L_3, mk_L_4, mk_L_5, mk_L_6, mk_L_7, mk_L_8, mk_L_9, mk_L_10, mk_X_k, mk_X_0, mk_X_1, mk_X_2, mk_X_3, mk_X_4, mk_75_k, mk_573_k, r_1_6, r_73_1, r_73_2, r_716_1, r_716_2, r_716_3, r_715, r_717, r_718, s_O0, s_O1, s_O2, s_O3, s_L0, s_L1, s_L2, s_L3, s_L4, s_L5, s_L6, s_L7, s_L8, s_L9, s_L10, s_X0, s_X1, s_X2, s_X3, s_X4, s_2_4, s_2_5, s_2_6, s_2_7, s_2_8, s_2_9, s_2_10, s_3_1, s_3_2, s_3_3, s_3_4, s_3_5, s_4]
    · rw [if_neg q1] at hy
      by_cases q2 : 0 < w (20 + 4 * o + 2)
      · rw [if_pos q2] at hy ⊢
        have e := gi_bad (N := N) m hN S hy (by omega)
        rw [show cd 1 = -100000003 from rfl] at e
        have c11 := q_count_11 (N := N) (c := uc c ((a 73 1 + a 73 2) % 7 + 1) w) m (a := rb 1 a) (w := w)
        rw [rb_16 (by omega)] at c11
        obtain ⟨w', c', a', f, r⟩ := mv_no (N := N) m hN S hK (x := x) (y := 1) (r := -100000003) (bc := bc) (bs := bs) (by omega) (by omega)
        refine ⟨w', c', a', ?_, r⟩
        simp only [to_bz, to_nz, to_cz, to_iz]
        simp (disch := omega) only [e, c11, f, bz_t, nz_t, cz_T, cz_t, iz_T, iz_F, iz_y, iz_n, not_true_eq_false, not_false_eq_true, true_and, and_true, w32_e, w64_e, mset_e, mset_n, up_e, up_n, if_y, if_n, Int.add_zero, mk_1_m2, mk_1_0, mk_1_1, mk_1_2, mk_1_3, mk_1_4, mk_1_5, mk_1_6, mk_2_m2, mk_2_0, mk_2_1, mk_2_2, mk_2_3, mk_2_4, mk_2_5, mk_2_6, mk_2_7, mk_2_8, mk_2_9, mk_2_10, mk_3_m2, mk_3_0, mk_3_1, mk_3_2, mk_3_3, mk_3_4, mk_3_5, mk_4_m2, mk_4_m1, mk_5_m2, mk_5_m1, mk_11_m2, mk_11_m1, mk_42_m2, mk_42_m1, mk_73_m2, mk_73_0, mk_73_1, mk_73_2, mk_74_m2, mk_74_m1, mk_572_m2, mk_572_m1, mk_715_m2, mk_715_m1, mk_717_m2, mk_717_m1, mk_718_m2, mk_718_m1, mk_716_m2, mk_716_0, mk_716_1, mk_716_2, mk_716_3, mk_716_4, mk_719_m2, mk_74_at, mk_572_at, mk_715_at, mk_717_at, mk_718_at, mk_4_at, mk_5_at, mk_11_at, mk_42_at, mk_O_k, mk_O_0, mk_O_1, mk_O_2, mk_O_3, mk_L_k, mk_L_0, mk_L_1, mk_L_2, mk_L_3, mk_L_4, mk_L_5, mk_L_6, mk_L_7, mk_L_8, mk_L_9, mk_L_10, mk_X_k, mk_X_0, mk_X_1, mk_X_2, mk_X_3, mk_X_4, mk_75_k, mk_573_k, r_1_6, r_73_1, r_73_2, r_716_1, r_716_2, r_716_3, r_715, r_717, r_718, s_O0, s_O1, s_O2, s_O3, s_L0, s_L1, s_L2, s_L3, s_L4, s_L5, s_L6, s_L7, s_L8, s_L9, s_L10, s_X0, s_X1, s_X2, s_X3, s_X4, s_2_4, s_2_5, s_2_6, s_2_7, s_2_8, s_2_9, s_2_10, s_3_1, s_3_2, s_3_3, s_3_4, s_3_5, s_4]
      · rw [if_neg q2] at hy ⊢
        by_cases q3 : (us w o + su w l) * w 7 / 100 ≤ w (20 + 4 * o + 1)
        · rw [if_pos q3] at hy
          have v1 := hv2.mp q3
          obtain ⟨e, rn⟩ := gi_good (N := N) m hN S hy
          have J := JV_Gi S.1 hK hy
          obtain ⟨w', c', a', f, r⟩ := mv_ok (N := N) m hN S hK J (x := x) (bc := bc) (bs := bs) rn
          have u1 : dGi w l o 1 = w 1 := up_n (by omega)
          have o3 := q_owner_3 (N := N) (c := uc c ((a 73 1 + a 73 2) % 7 + 1) w) m (a := apA a) hN J.1.1 (o := o) (by omega)
          rw [us_gi I z1 q1] at o3
          refine ⟨w', c', a', ?_, r⟩
          simp only [to_bz, to_nz, to_cz, to_iz]
          simp (disch := omega) only [e, o3, f, bz_t, nz_t, cz_T, cz_t, iz_T, iz_F, iz_y, iz_n, not_true_eq_false, not_false_eq_true, true_and, and_true, w32_e, w64_e, mset_e, mset_n, up_e, up_n, if_y, if_n, Int.add_zero, mk_1_m2, mk_1_0, mk_1_1, mk_1_2, mk_1_3, mk_1_4, mk_1_5, mk_1_6, mk_2_m2, mk_2_0, mk_2_1, mk_2_2, mk_2_3, mk_2_4, mk_2_5, mk_2_6, mk_2_7, mk_2_8, mk_2_9, mk_2_10, mk_3_m2, mk_3_0, mk_3_1, mk_3_2, mk_3_3, mk_3_4, mk_3_5, mk_4_m2, mk_4_m1, mk_5_m2, mk_5_m1, mk_11_m2, mk_11_m1, mk_42_m2, mk_42_m1, mk_73_m2, mk_73_0, mk_73_1, mk_73_2, mk_74_m2, mk_74_m1, mk_572_m2, mk_572_m1, mk_715_m2, mk_715_m1, mk_717_m2, mk_717_m1, mk_718_m2, mk_718_m1, mk_716_m2, mk_716_0, mk_716_1, mk_716_2, mk_716_3, mk_716_4, mk_719_m2, mk_74_at, mk_572_at, mk_715_at, mk_717_at, mk_718_at, mk_4_at, mk_5_at, mk_11_at, mk_42_at, mk_O_k, mk_O_0, mk_O_1, mk_O_2, mk_O_3, mk_L_k, mk_L_0, mk_L_1, mk_L_2, mk_L_3, mk_L_4, mk_L_5, mk_L_6, mk_L_7, mk_L_8, mk_L_9, mk_L_10, mk_X_k, mk_X_0, mk_X_1, mk_X_2, mk_X_3, mk_X_4, mk_75_k, mk_573_k, r_1_6, r_73_1, r_73_2, r_716_1, r_716_2, r_716_3, r_715, r_717, r_718, s_O0, s_O1, s_O2, s_O3, s_L0, s_L1, s_L2, s_L3, s_L4, s_L5, s_L6, s_L7, s_L8, s_L9, s_L10, s_X0, s_X1, s_X2, s_X3, s_X4, s_2_4, s_2_5, s_2_6, s_2_7, s_2_8, s_2_9, s_2_10, s_3_1, s_3_2, s_3_3, s_3_4, s_3_5, s_4]
        · rw [if_neg q3] at hy
          have v1 : v = 0 := by rcases hv with hv | hv; exact hv; exact absurd (hv2.mpr hv) q3
          have e := gi_bad (N := N) m hN S hy (by omega)
          rw [show cd 2 = -100000003 from rfl] at e
          have c11 := q_count_11 (N := N) (c := uc c ((a 73 1 + a 73 2) % 7 + 1) w) m (a := rb 2 a) (w := w)
          rw [rb_16 (by omega)] at c11
          obtain ⟨w', c', a', f, r⟩ := mv_no (N := N) m hN S hK (x := x) (y := 2) (r := -100000003) (bc := bc) (bs := bs) (by omega) (by omega)
          refine ⟨w', c', a', ?_, r⟩
          simp only [to_bz, to_nz, to_cz, to_iz]
          simp (disch := omega) only [e, c11, f, bz_t, nz_t, cz_T, cz_t, iz_T, iz_F, iz_y, iz_n, not_true_eq_false, not_false_eq_true, true_and, and_true, w32_e, w64_e, mset_e, mset_n, up_e, up_n, if_y, if_n, Int.add_zero, mk_1_m2, mk_1_0, mk_1_1, mk_1_2, mk_1_3, mk_1_4, mk_1_5, mk_1_6, mk_2_m2, mk_2_0, mk_2_1, mk_2_2, mk_2_3, mk_2_4, mk_2_5, mk_2_6, mk_2_7, mk_2_8, mk_2_9, mk_2_10, mk_3_m2, mk_3_0, mk_3_1, mk_3_2, mk_3_3, mk_3_4, mk_3_5, mk_4_m2, mk_4_m1, mk_5_m2, mk_5_m1, mk_11_m2, mk_11_m1, mk_42_m2, mk_42_m1, mk_73_m2, mk_73_0, mk_73_1, mk_73_2, mk_74_m2, mk_74_m1, mk_572_m2, mk_572_m1, mk_715_m2, mk_715_m1, mk_717_m2, mk_717_m1, mk_718_m2, mk_718_m1, mk_716_m2, mk_716_0, mk_716_1, mk_716_2, mk_716_3, mk_716_4, mk_719_m2, mk_74_at, mk_572_at, mk_715_at, mk_717_at, mk_718_at, mk_4_at, mk_5_at, mk_11_at, mk_42_at, mk_O_k, mk_O_0, mk_O_1, mk_O_2, mk_O_3, mk_L_k, mk_L_0, mk_L_1, mk_L_2, mk_L_3, mk_L_4, mk_L_5, mk_L_6, mk_L_7, mk_L_8, mk_L_9, mk_L_10, mk_X_k, mk_X_0, mk_X_1, mk_X_2, mk_X_3, mk_X_4, mk_75_k, mk_573_k, r_1_6, r_73_1, r_73_2, r_716_1, r_716_2, r_716_3, r_715, r_717, r_718, s_O0, s_O1, s_O2, s_O3, s_L0, s_L1, s_L2, s_L3, s_L4, s_L5, s_L6, s_L7, s_L8, s_L9, s_L10, s_X0, s_X1, s_X2, s_X3, s_X4, s_2_4, s_2_5, s_2_6, s_2_7, s_2_8, s_2_9, s_2_10, s_3_1, s_3_2, s_3_3, s_3_4, s_3_5, s_4]
  generalize (if 0 < w (20 + 4 * o + 2) then (1 : Int) else 0) = y1 at *
  by_cases q3 : (us w o + su w l) * w 7 / 100 ≤ w (20 + 4 * o + 1)
  · obtain ⟨w', c', a', f, r⟩ := two 1 (Or.inr rfl) ⟨fun _ => rfl, fun _ => q3⟩
    refine ⟨w', c', a', ?_, r⟩
    simp only [to_bz, to_nz, to_cz, to_iz]
    simp (disch := omega) only [c8, o1, e1, f, bz_t, nz_t, cz_T, cz_t, iz_T, iz_F, iz_y, iz_n, not_true_eq_false, not_false_eq_true, true_and, and_true, w32_e, w64_e, mset_e, mset_n, up_e, up_n, if_y, if_n, Int.add_zero, mk_1_m2, mk_1_0, mk_1_1, mk_1_2, mk_1_3, mk_1_4, mk_1_5, mk_1_6, mk_2_m2, mk_2_0, mk_2_1, mk_2_2, mk_2_3, mk_2_4, mk_2_5, mk_2_6, mk_2_7, mk_2_8, mk_2_9, mk_2_10, mk_3_m2, mk_3_0, mk_3_1, mk_3_2, mk_3_3, mk_3_4, mk_3_5, mk_4_m2, mk_4_m1, mk_5_m2, mk_5_m1, mk_11_m2, mk_11_m1, mk_42_m2, mk_42_m1, mk_73_m2, mk_73_0, mk_73_1, mk_73_2, mk_74_m2, mk_74_m1, mk_572_m2, mk_572_m1, mk_715_m2, mk_715_m1, mk_717_m2, mk_717_m1, mk_718_m2, mk_718_m1, mk_716_m2, mk_716_0, mk_716_1, mk_716_2, mk_716_3, mk_716_4, mk_719_m2, mk_74_at, mk_572_at, mk_715_at, mk_717_at, mk_718_at, mk_4_at, mk_5_at, mk_11_at, mk_42_at, mk_O_k, mk_O_0, mk_O_1, mk_O_2, mk_O_3, mk_L_k, mk_L_0, mk_L_1, mk_L_2, mk_L_3, mk_L_4, mk_L_5, mk_L_6, mk_L_7, mk_L_8, mk_L_9, mk_L_10, mk_X_k, mk_X_0, mk_X_1, mk_X_2, mk_X_3, mk_X_4, mk_75_k, mk_573_k, r_1_6, r_73_1, r_73_2, r_716_1, r_716_2, r_716_3, r_715, r_717, r_718, s_O0, s_O1, s_O2, s_O3, s_L0, s_L1, s_L2, s_L3, s_L4, s_L5, s_L6, s_L7, s_L8, s_L9, s_L10, s_X0, s_X1, s_X2, s_X3, s_X4, s_2_4, s_2_5, s_2_6, s_2_7, s_2_8, s_2_9, s_2_10, s_3_1, s_3_2, s_3_3, s_3_4, s_3_5, s_4]
  · obtain ⟨w', c', a', f, r⟩ := two 0 (Or.inl rfl) ⟨fun z => absurd z q3, fun z => by omega⟩
    refine ⟨w', c', a', ?_, r⟩
    simp only [to_bz, to_nz, to_cz, to_iz]
    simp (disch := omega) only [c8, o1, e1, f, bz_t, nz_t, cz_T, cz_t, iz_T, iz_F, iz_y, iz_n, not_true_eq_false, not_false_eq_true, true_and, and_true, w32_e, w64_e, mset_e, mset_n, up_e, up_n, if_y, if_n, Int.add_zero, mk_1_m2, mk_1_0, mk_1_1, mk_1_2, mk_1_3, mk_1_4, mk_1_5, mk_1_6, mk_2_m2, mk_2_0, mk_2_1, mk_2_2, mk_2_3, mk_2_4, mk_2_5, mk_2_6, mk_2_7, mk_2_8, mk_2_9, mk_2_10, mk_3_m2, mk_3_0, mk_3_1, mk_3_2, mk_3_3, mk_3_4, mk_3_5, mk_4_m2, mk_4_m1, mk_5_m2, mk_5_m1, mk_11_m2, mk_11_m1, mk_42_m2, mk_42_m1, mk_73_m2, mk_73_0, mk_73_1, mk_73_2, mk_74_m2, mk_74_m1, mk_572_m2, mk_572_m1, mk_715_m2, mk_715_m1, mk_717_m2, mk_717_m1, mk_718_m2, mk_718_m1, mk_716_m2, mk_716_0, mk_716_1, mk_716_2, mk_716_3, mk_716_4, mk_719_m2, mk_74_at, mk_572_at, mk_715_at, mk_717_at, mk_718_at, mk_4_at, mk_5_at, mk_11_at, mk_42_at, mk_O_k, mk_O_0, mk_O_1, mk_O_2, mk_O_3, mk_L_k, mk_L_0, mk_L_1, mk_L_2, mk_L_3, mk_L_4, mk_L_5, mk_L_6, mk_L_7, mk_L_8, mk_L_9, mk_L_10, mk_X_k, mk_X_0, mk_X_1, mk_X_2, mk_X_3, mk_X_4, mk_75_k, mk_573_k, r_1_6, r_73_1, r_73_2, r_716_1, r_716_2, r_716_3, r_715, r_717, r_718, s_O0, s_O1, s_O2, s_O3, s_L0, s_L1, s_L2, s_L3, s_L4, s_L5, s_L6, s_L7, s_L8, s_L9, s_L10, s_X0, s_X1, s_X2, s_X3, s_X4, s_2_4, s_2_5, s_2_6, s_2_7, s_2_8, s_2_9, s_2_10, s_3_1, s_3_2, s_3_3, s_3_4, s_3_5, s_4]
theorem mv_gi (hN : 5000 ≤ N) (S : zST K w c a) (hK : K + 1 ≤ 60000) {s x l q bc bs : Int} (hs : 4 ≤ s) (z1 : 0 ≤ l ∧ l < w 2) (z2 : 1 ≤ q ∧ q ≤ un w l + 1) : nO (K + 1) (f_L_moves_b134 N 1 s x l (un w l) q bc bs (mk w c m a)) c m a := by
  have hk := zST_K S
  have I := S.1.1.1
  have g := I.hd; unfold HEAD at g
  have lo := I.lot z1; unfold LOT at lo
  have ow := I.own (o := w (40 + 11 * l)) (by omega); unfold OWN at ow
  have qb := S.1.2.2.2 l z1
  have un1 : un w l = w (40 + 11 * l + 2) - w (40 + 11 * l + 7) := rfl
  have h2 := S.2.1.2.1
  have et : w (40 + 11 * l + 2) - un w l = w (40 + 11 * l + 7) := by omega
  have p1 := mul_le (show 0 ≤ w (40 + 11 * l + 6) ∧ w (40 + 11 * l + 6) ≤ 10000000 by omega) (show 0 ≤ w (40 + 11 * l + 7) ∧ w (40 + 11 * l + 7) ≤ 1000000 by omega)
  have p2 := mul_le (show 0 ≤ w (40 + 11 * l + 6) ∧ w (40 + 11 * l + 6) ≤ 10000000 by omega) (show 0 ≤ w (40 + 11 * l + 7) + q ∧ w (40 + 11 * l + 7) + q ≤ 2000000 by omega)
  have e1 : Int.tdiv (w (40 + 11 * l + 6) * w (40 + 11 * l + 7)) (w (40 + 11 * l + 2)) = w (40 + 11 * l + 6) * w (40 + 11 * l + 7) / w (40 + 11 * l + 2) := Int.tdiv_eq_ediv_of_nonneg p1.1
  have e2 : Int.tdiv (w (40 + 11 * l + 6) * (w (40 + 11 * l + 7) + q)) (w (40 + 11 * l + 2)) = w (40 + 11 * l + 6) * (w (40 + 11 * l + 7) + q) / w (40 + 11 * l + 2) := Int.tdiv_eq_ediv_of_nonneg p2.1
  have v1 := div_b p1 (show 0 < w (40 + 11 * l + 2) by omega)
  have v2 := div_b p2 (show 0 < w (40 + 11 * l + 2) by omega)
  have ed : w (40 + 11 * l + 6) * (w (40 + 11 * l + 7) + q) / w (40 + 11 * l + 2) - w (40 + 11 * l + 6) * w (40 + 11 * l + 7) / w (40 + 11 * l + 2) = dt w l (w (40 + 11 * l + 7)) q := rfl
  have l0 := q_lot_0 (N := N) (c := c) m (a := a) I z1
  have l2 := q_lot_2 (N := N) (c := c) m (a := a) I z1
  have l6 := q_lot_6 (N := N) (c := c) m (a := a) I z1
  have o0 := q_owner_0 (N := N) (c := c) m (a := a) I (o := w (40 + 11 * l)) (by omega)
  have dg := q_digest (N := N) (c := c) m (a := a) hN I
  have c12 := q_count_12 (N := N) (c := c) m (a := a) (w := w)
  have lb := lw_b (o_shr x 7) (n := w 1) (by omega)
  have lq := q_low (N := N) (g := o_shr x 7) (n := w 1) (by omega)
  have c1 := q_count_1 (N := N) (c := c) m (a := a) I
  have l8 := q_lot_8 (N := N) (c := c) m (a := a) I z1
  generalize lw (o_shr x 7) (w 1) = o at *
  have o3 := q_owner_3 (N := N) (c := c) m (a := a) hN I (o := o) (by omega)
  have o2 := q_owner_2 (N := N) (c := c) m (a := a) I (o := o) (by omega)
  have t := I.usT o
  have su1 : su w l = w (40 + 11 * l + 6) - w (40 + 11 * l + 8) - w (40 + 11 * l + 9) := rfl
  have ow2 := I.own (o := o) (by omega); unfold OWN at ow2
  obtain ⟨w', c', a', f, r⟩ := mv_gi0 (N := N) m hN S hK (x := x) (bc := bc) (bs := bs) z1 (o := o) (by omega)
  refine ⟨w', c', a', ?_, r⟩
  unfold f_L_moves_b134
  by_cases q2 : 0 < w (20 + 4 * o + 2)
  · rw [if_pos q2] at f
    simp only [to_bz, to_nz, to_cz, to_iz]
    simp (disch := omega) only [l0, l2, l6, o0, dg, c12, et, e1, e2, ed, lq, c1, l8, o3, o2, f, bz_t, nz_t, cz_T, cz_t, iz_T, iz_F, iz_y, iz_n, not_true_eq_false, not_false_eq_true, true_and, and_true, w32_e, w64_e, mset_e, mset_n, up_e, up_n, if_y, if_n, Int.add_zero, mk_1_m2, mk_1_0, mk_1_1, mk_1_2, mk_1_3, mk_1_4, mk_1_5, mk_1_6, mk_2_m2, mk_2_0, mk_2_1, mk_2_2, mk_2_3, mk_2_4, mk_2_5, mk_2_6, mk_2_7, mk_2_8, mk_2_9, mk_2_10, mk_3_m2, mk_3_0, mk_3_1, mk_3_2, mk_3_3, mk_3_4, mk_3_5, mk_4_m2, mk_4_m1, mk_5_m2, mk_5_m1, mk_11_m2, mk_11_m1, mk_42_m2, mk_42_m1, mk_73_m2, mk_73_0, mk_73_1, mk_73_2, mk_74_m2, mk_74_m1, mk_572_m2, mk_572_m1, mk_715_m2, mk_715_m1, mk_717_m2, mk_717_m1, mk_718_m2, mk_718_m1, mk_716_m2, mk_716_0, mk_716_1, mk_716_2, mk_716_3, mk_716_4, mk_719_m2, mk_74_at, mk_572_at, mk_715_at, mk_717_at, mk_718_at, mk_4_at, mk_5_at, mk_11_at, mk_42_at, mk_O_k, mk_O_0, mk_O_1, mk_O_2, mk_O_3, mk_L_k, mk_L_0, mk_L_1, mk_L_2, mk_L_3, mk_L_4, mk_L_5, mk_L_6, mk_L_7, mk_L_8, mk_L_9, mk_L_10, mk_X_k, mk_X_0, mk_X_1, mk_X_2, mk_X_3, mk_X_4, mk_75_k, mk_573_k, r_1_6, r_73_1, r_73_2, r_716_1, r_716_2, r_716_3, r_715, r_717, r_718, s_O0, s_O1, s_O2, s_O3, s_L0, s_L1, s_L2, s_L3, s_L4, s_L5, s_L6, s_L7, s_L8, s_L9, s_L10, s_X0, s_X1, s_X2, s_X3, s_X4, s_2_4, s_2_5, s_2_6, s_2_7, s_2_8, s_2_9, s_2_10, s_3_1, s_3_2, s_3_3, s_3_4, s_3_5, s_4]
  · rw [if_neg q2] at f
    simp only [to_bz, to_nz, to_cz, to_iz]
    simp (disch := omega) only [l0, l2, l6, o0, dg, c12, et, e1, e2, ed, lq, c1, l8, o3, o2, f, bz_t, nz_t, cz_T, cz_t, iz_T, iz_F, iz_y, iz_n, not_true_eq_false, not_false_eq_true, true_and, and_true, w32_e, w64_e, mset_e, mset_n, up_e, up_n, if_y, if_n, Int.add_zero, mk_1_m2, mk_1_0, mk_1_1, mk_1_2, mk_1_3, mk_1_4, mk_1_5, mk_1_6, mk_2_m2, mk_2_0, mk_2_1, mk_2_2, mk_2_3, mk_2_4, mk_2_5, mk_2_6, mk_2_7, mk_2_8, mk_2_9, mk_2_10, mk_3_m2, mk_3_0, mk_3_1, mk_3_2, mk_3_3, mk_3_4, mk_3_5, mk_4_m2, mk_4_m1, mk_5_m2, mk_5_m1, mk_11_m2, mk_11_m1, mk_42_m2, mk_42_m1, mk_73_m2, mk_73_0, mk_73_1, mk_73_2, mk_74_m2, mk_74_m1, mk_572_m2, mk_572_m1, mk_715_m2, mk_715_m1, mk_717_m2, mk_717_m1, mk_718_m2, mk_718_m1, mk_716_m2, mk_716_0, mk_716_1, mk_716_2, mk_716_3, mk_716_4, mk_719_m2, mk_74_at, mk_572_at, mk_715_at, mk_717_at, mk_718_at, mk_4_at, mk_5_at, mk_11_at, mk_42_at, mk_O_k, mk_O_0, mk_O_1, mk_O_2, mk_O_3, mk_L_k, mk_L_0, mk_L_1, mk_L_2, mk_L_3, mk_L_4, mk_L_5, mk_L_6, mk_L_7, mk_L_8, mk_L_9, mk_L_10, mk_X_k, mk_X_0, mk_X_1, mk_X_2, mk_X_3, mk_X_4, mk_75_k, mk_573_k, r_1_6, r_73_1, r_73_2, r_716_1, r_716_2, r_716_3, r_715, r_717, r_718, s_O0, s_O1, s_O2, s_O3, s_L0, s_L1, s_L2, s_L3, s_L4, s_L5, s_L6, s_L7, s_L8, s_L9, s_L10, s_X0, s_X1, s_X2, s_X3, s_X4, s_2_4, s_2_5, s_2_6, s_2_7, s_2_8, s_2_9, s_2_10, s_3_1, s_3_2, s_3_3, s_3_4, s_3_5, s_4]
theorem mv_134 (hN : 5000 ≤ N) (S : zST K w c a) (hK : K + 1 ≤ 60000) {s x l q bc bs : Int} (hs : 0 ≤ s) (z1 : 0 ≤ l ∧ l < w 2) (z2 : 1 ≤ q ∧ q ≤ un w l + 1) : nO (K + 1) (f_L_moves_b134 N 1 s x l (un w l) q bc bs (mk w c m a)) c m a := by
  by_cases s0 : s = 0
  · subst s0; exact mv_re m hN S hK z1 z2
  by_cases s1 : s = 1
  · subst s1; exact mv_sa m hN S hK z1 z2
  by_cases s2 : s = 2
  · subst s2; exact mv_xp m hN S hK z1 z2
  by_cases s3 : s = 3
  · subst s3; exact mv_de m hN S hK z1 z2
  · exact mv_gi m hN S hK (by omega) z1 z2
theorem q_moves (hN : 5000 ≤ N) (S : zST K w c a) (hK : K + 1 ≤ 60000) {s : Int} (hs : 0 ≤ s) (x y : Int) : nO (K + 1) (f_L_moves N 1 s x y (mk w c m a)) c m a := by
  have hk := zST_K S
  have I := S.1.1.1
  have g := I.hd; unfold HEAD at g
  have c2 := q_count_2 (N := N) (c := c) m (a := a) I
  unfold f_L_moves
  by_cases q : w 2 = 0
  · have y1 : yRe w 0 1 = -1 := by unfold yRe yUn; rw [if_neg (show ¬ (0 ≤ (0 : Int) ∧ 0 < w 2) by omega), if_neg (by omega)]
    have y2 : ySa w 0 1 = -1 := by unfold ySa yUn; rw [if_neg (show ¬ (0 ≤ (0 : Int) ∧ 0 < w 2) by omega), if_neg (by omega)]
    have y3 : yXp w 0 1 = -1 := by unfold yXp yUn; rw [if_neg (show ¬ (0 ≤ (0 : Int) ∧ 0 < w 2) by omega), if_neg (by omega)]
    have y4 : yDe w 0 1 = -1 := by unfold yDe yUn; rw [if_neg (show ¬ (0 ≤ (0 : Int) ∧ 0 < w 2) by omega), if_neg (by omega)]
    have y5 : yGi w 0 0 = -1 := by unfold yGi; rw [if_neg (show ¬ (0 ≤ (0 : Int) ∧ 0 < w 2) by omega)]
    have e1 := re_bad (N := N) m hN S y1 (by omega)
    have S1 := act_er S w (show (-1 : Int) ≤ 6 by omega)
    have e2 := sa_bad (N := N) m hN S1 y2 (by omega)
    have S2 := act_er S1 w (show (-1 : Int) ≤ 6 by omega)
    have e3 := xp_bad (N := N) m hN S2 y3 (by omega)
    have S3 := act_er S2 w (show (-1 : Int) ≤ 6 by omega)
    have e4 := de_bad (N := N) m hN S3 y4 (by omega)
    have S4 := act_er S3 w (show (-1 : Int) ≤ 6 by omega)
    have e5 := gi_bad (N := N) m hN S4 y5 (by omega)
    have S5 := act_er S4 w (show (-1 : Int) ≤ 6 by omega)
    rw [show cd (-1) = -100000001 from rfl] at e1 e2 e3 e4 e5
    have e6 := fun (c : Int → Int → Int) (a : Mm) => q_docLength_u (N := N) (c := c) m (a := a) I (l := 0) (by omega)
    refine ⟨_, _, _, ?_, zST_mono S5 (by omega), ?_, ?_⟩
    · simp only [to_bz, to_nz, to_cz, to_iz]
      simp (disch := omega) only [c2, q, e1, e2, e3, e4, e5, e6, bz_t, nz_t, cz_T, cz_t, iz_T, iz_F, iz_y, iz_n, not_true_eq_false, not_false_eq_true, true_and, and_true, w32_e, w64_e, mset_e, mset_n, up_e, up_n, if_y, if_n, Int.add_zero, mk_1_m2, mk_1_0, mk_1_1, mk_1_2, mk_1_3, mk_1_4, mk_1_5, mk_1_6, mk_2_m2, mk_2_0, mk_2_1, mk_2_2, mk_2_3, mk_2_4, mk_2_5, mk_2_6, mk_2_7, mk_2_8, mk_2_9, mk_2_10, mk_3_m2, mk_3_0, mk_3_1, mk_3_2, mk_3_3, mk_3_4, mk_3_5, mk_4_m2, mk_4_m1, mk_5_m2, mk_5_m1, mk_11_m2, mk_11_m1, mk_42_m2, mk_42_m1, mk_73_m2, mk_73_0, mk_73_1, mk_73_2, mk_74_m2, mk_74_m1, mk_572_m2, mk_572_m1, mk_715_m2, mk_715_m1, mk_717_m2, mk_717_m1, mk_718_m2, mk_718_m1, mk_716_m2, mk_716_0, mk_716_1, mk_716_2, mk_716_3, mk_716_4, mk_719_m2, mk_74_at, mk_572_at, mk_715_at, mk_717_at, mk_718_at, mk_4_at, mk_5_at, mk_11_at, mk_42_at, mk_O_k, mk_O_0, mk_O_1, mk_O_2, mk_O_3, mk_L_k, mk_L_0, mk_L_1, mk_L_2, mk_L_3, mk_L_4, mk_L_5, mk_L_6, mk_L_7, mk_L_8, mk_L_9, mk_L_10, mk_X_k, mk_X_0, mk_X_1, mk_X_2, mk_X_3, mk_X_4, mk_75_k, mk_573_k, r_1_6, r_73_1, r_73_2, r_716_1, r_716_2, r_716_3, r_715, r_717, r_718, s_O0, s_O1, s_O2, s_O3, s_L0, s_L1, s_L2, s_L3, s_L4, s_L5, s_L6, s_L7, s_L8, s_L9, s_L10, s_X0, s_X1, s_X2, s_X3, s_X4, s_2_4, s_2_5, s_2_6, s_2_7, s_2_8, s_2_9, s_2_10, s_3_1, s_3_2, s_3_3, s_3_4, s_3_5, s_4]
    · rw [uc9 S4, uc9 S3, uc9 S2, uc9 S1, uc9 S]
    · rw [rb_7, rb_7, rb_7, rb_7, rb_7]
  · have lb := lw_b x (n := w 2) (by omega)
    have lq := q_low (N := N) (g := x) (n := w 2) (by omega)
    generalize lw x (w 2) = l at *
    have z1 : 0 ≤ l ∧ l < w 2 := lb
    have l7 := q_lot_7 (N := N) (c := c) m (a := a) I z1
    have lo := I.lot z1; unfold LOT at lo
    have un1 : un w l = w (40 + 11 * l + 2) - w (40 + 11 * l + 7) := rfl
    by_cases q2 : un w l = 0
    · obtain ⟨w', c', a', f, r⟩ := mv_134 (N := N) m hN S hK (s := s) (x := x) (q := 1) (bc := 10) (bs := 2000) hs z1 (by omega)
      refine ⟨w', c', a', ?_, r⟩
      simp only [to_bz, to_nz, to_cz, to_iz]
      simp (disch := omega) only [c2, lq, l7, f, bz_t, nz_t, cz_T, cz_t, iz_T, iz_F, iz_y, iz_n, not_true_eq_false, not_false_eq_true, true_and, and_true, w32_e, w64_e, mset_e, mset_n, up_e, up_n, if_y, if_n, Int.add_zero, mk_1_m2, mk_1_0, mk_1_1, mk_1_2, mk_1_3, mk_1_4, mk_1_5, mk_1_6, mk_2_m2, mk_2_0, mk_2_1, mk_2_2, mk_2_3, mk_2_4, mk_2_5, mk_2_6, mk_2_7, mk_2_8, mk_2_9, mk_2_10, mk_3_m2, mk_3_0, mk_3_1, mk_3_2, mk_3_3, mk_3_4, mk_3_5, mk_4_m2, mk_4_m1, mk_5_m2, mk_5_m1, mk_11_m2, mk_11_m1, mk_42_m2, mk_42_m1, mk_73_m2, mk_73_0, mk_73_1, mk_73_2, mk_74_m2, mk_74_m1, mk_572_m2, mk_572_m1, mk_715_m2, mk_715_m1, mk_717_m2, mk_717_m1, mk_718_m2, mk_718_m1, mk_716_m2, mk_716_0, mk_716_1, mk_716_2, mk_716_3, mk_716_4, mk_719_m2, mk_74_at, mk_572_at, mk_715_at, mk_717_at, mk_718_at, mk_4_at, mk_5_at, mk_11_at, mk_42_at, mk_O_k, mk_O_0, mk_O_1, mk_O_2, mk_O_3, mk_L_k, mk_L_0, mk_L_1, mk_L_2, mk_L_3, mk_L_4, mk_L_5, mk_L_6, mk_L_7, mk_L_8, mk_L_9, mk_L_10, mk_X_k, mk_X_0, mk_X_1, mk_X_2, mk_X_3, mk_X_4, mk_75_k, mk_573_k, r_1_6, r_73_1, r_73_2, r_716_1, r_716_2, r_716_3, r_715, r_717, r_718, s_O0, s_O1, s_O2, s_O3, s_L0, s_L1, s_L2, s_L3, s_L4, s_L5, s_L6, s_L7, s_L8, s_L9, s_L10, s_X0, s_X1, s_X2, s_X3, s_X4, s_2_4, s_2_5, s_2_6, s_2_7, s_2_8, s_2_9, s_2_10, s_3_1, s_3_2, s_3_3, s_3_4, s_3_5, s_4]
    · by_cases q3 : o_and y 7 = 0
      · obtain ⟨w', c', a', f, r⟩ := mv_134 (N := N) m hN S hK (s := s) (x := x) (q := un w l + 1) (bc := 10) (bs := 2000) hs z1 (by omega)
        refine ⟨w', c', a', ?_, r⟩
        simp only [to_bz, to_nz, to_cz, to_iz]
        simp (disch := omega) only [c2, lq, l7, q3, f, bz_t, nz_t, cz_T, cz_t, iz_T, iz_F, iz_y, iz_n, not_true_eq_false, not_false_eq_true, true_and, and_true, w32_e, w64_e, mset_e, mset_n, up_e, up_n, if_y, if_n, Int.add_zero, mk_1_m2, mk_1_0, mk_1_1, mk_1_2, mk_1_3, mk_1_4, mk_1_5, mk_1_6, mk_2_m2, mk_2_0, mk_2_1, mk_2_2, mk_2_3, mk_2_4, mk_2_5, mk_2_6, mk_2_7, mk_2_8, mk_2_9, mk_2_10, mk_3_m2, mk_3_0, mk_3_1, mk_3_2, mk_3_3, mk_3_4, mk_3_5, mk_4_m2, mk_4_m1, mk_5_m2, mk_5_m1, mk_11_m2, mk_11_m1, mk_42_m2, mk_42_m1, mk_73_m2, mk_73_0, mk_73_1, mk_73_2, mk_74_m2, mk_74_m1, mk_572_m2, mk_572_m1, mk_715_m2, mk_715_m1, mk_717_m2, mk_717_m1, mk_718_m2, mk_718_m1, mk_716_m2, mk_716_0, mk_716_1, mk_716_2, mk_716_3, mk_716_4, mk_719_m2, mk_74_at, mk_572_at, mk_715_at, mk_717_at, mk_718_at, mk_4_at, mk_5_at, mk_11_at, mk_42_at, mk_O_k, mk_O_0, mk_O_1, mk_O_2, mk_O_3, mk_L_k, mk_L_0, mk_L_1, mk_L_2, mk_L_3, mk_L_4, mk_L_5, mk_L_6, mk_L_7, mk_L_8, mk_L_9, mk_L_10, mk_X_k, mk_X_0, mk_X_1, mk_X_2, mk_X_3, mk_X_4, mk_75_k, mk_573_k, r_1_6, r_73_1, r_73_2, r_716_1, r_716_2, r_716_3, r_715, r_717, r_718, s_O0, s_O1, s_O2, s_O3, s_L0, s_L1, s_L2, s_L3, s_L4, s_L5, s_L6, s_L7, s_L8, s_L9, s_L10, s_X0, s_X1, s_X2, s_X3, s_X4, s_2_4, s_2_5, s_2_6, s_2_7, s_2_8, s_2_9, s_2_10, s_3_1, s_3_2, s_3_3, s_3_4, s_3_5, s_4]
      · have lb2 := lw_b (o_shr y 3) (n := un w l) (by omega)
        have lq2 := q_low (N := N) (g := o_shr y 3) (n := un w l) (by omega)
        generalize lw (o_shr y 3) (un w l) = v at *
        obtain ⟨w', c', a', f, r⟩ := mv_134 (N := N) m hN S hK (s := s) (x := x) (q := 1 + v) (bc := 10) (bs := 2000) hs z1 (by omega)
        refine ⟨w', c', a', ?_, r⟩
        simp only [to_bz, to_nz, to_cz, to_iz]
        simp (disch := omega) only [c2, lq, l7, q3, lq2, f, bz_t, nz_t, cz_T, cz_t, iz_T, iz_F, iz_y, iz_n, not_true_eq_false, not_false_eq_true, true_and, and_true, w32_e, w64_e, mset_e, mset_n, up_e, up_n, if_y, if_n, Int.add_zero, mk_1_m2, mk_1_0, mk_1_1, mk_1_2, mk_1_3, mk_1_4, mk_1_5, mk_1_6, mk_2_m2, mk_2_0, mk_2_1, mk_2_2, mk_2_3, mk_2_4, mk_2_5, mk_2_6, mk_2_7, mk_2_8, mk_2_9, mk_2_10, mk_3_m2, mk_3_0, mk_3_1, mk_3_2, mk_3_3, mk_3_4, mk_3_5, mk_4_m2, mk_4_m1, mk_5_m2, mk_5_m1, mk_11_m2, mk_11_m1, mk_42_m2, mk_42_m1, mk_73_m2, mk_73_0, mk_73_1, mk_73_2, mk_74_m2, mk_74_m1, mk_572_m2, mk_572_m1, mk_715_m2, mk_715_m1, mk_717_m2, mk_717_m1, mk_718_m2, mk_718_m1, mk_716_m2, mk_716_0, mk_716_1, mk_716_2, mk_716_3, mk_716_4, mk_719_m2, mk_74_at, mk_572_at, mk_715_at, mk_717_at, mk_718_at, mk_4_at, mk_5_at, mk_11_at, mk_42_at, mk_O_k, mk_O_0, mk_O_1, mk_O_2, mk_O_3, mk_L_k, mk_L_0, mk_L_1, mk_L_2, mk_L_3, mk_L_4, mk_L_5, mk_L_6, mk_L_7, mk_L_8, mk_L_9, mk_L_10, mk_X_k, mk_X_0, mk_X_1, mk_X_2, mk_X_3, mk_X_4, mk_75_k, mk_573_k, r_1_6, r_73_1, r_73_2, r_716_1, r_716_2, r_716_3, r_715, r_717, r_718, s_O0, s_O1, s_O2, s_O3, s_L0, s_L1, s_L2, s_L3, s_L4, s_L5, s_L6, s_L7, s_L8, s_L9, s_L10, s_X0, s_X1, s_X2, s_X3, s_X4, s_2_4, s_2_5, s_2_6, s_2_7, s_2_8, s_2_9, s_2_10, s_3_1, s_3_2, s_3_3, s_3_4, s_3_5, s_4]
end MOVES
