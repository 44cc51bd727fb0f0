/-! the law's check of lots -/
section LOTS
variable {N : Nat} {c : Int → Int → Int} (m : Int → Int) {a : Mm} {w : Int → Int} {K : Int}
theorem l_lots_x (hN : 5000 ≤ N) (J : JV K w) (k0 : Int → Int → Int → Int → Int → Int → Mm → Rs) {x1 x3 x5 x7 l : Int} (z1 : 0 ≤ l ∧ l < w 2) (n : Nat) :
    f_L_lots_b84 N k0 (n + 1) 1 x1 x3 x5 x7 l (wt w l 1) (wt w l 2) (w 3) (mk w c m a) = k0 1 x1 x3 x5 x7 (l + 1) (mk w c m a) := by
  have I := J.1.1
  have g := I.hd; unfold HEAD at g
  have lo := I.lot z1; unfold LOT at lo
  have c3 := q_count_3 (N := N) (c := c) m (a := a) I
  have c1 := q_count_1 (N := N) (c := c) m (a := a) I
  have c0 := q_count_0 (N := N) (c := c) m (a := a) I
  have l0 := q_lot_0 (N := N) (c := c) m (a := a) I z1
  have l2 := q_lot_2 (N := N) (c := c) m (a := a) I z1
  have l5 := q_lot_5 (N := N) (c := c) m (a := a) I z1
  have l6 := q_lot_6 (N := N) (c := c) m (a := a) I z1
  have l7 := q_lot_7 (N := N) (c := c) m (a := a) I z1
  have l8 := q_lot_8 (N := N) (c := c) m (a := a) I z1
  have l9 := q_lot_9 (N := N) (c := c) m (a := a) I z1
  have l10 := q_lot_10 (N := N) (c := c) m (a := a) I z1
  have l12 := q_lot_12 (N := N) (c := c) m (a := a) hN I z1
  have l13 := q_lot_13 (N := N) (c := c) m (a := a) I z1
  have su1 : su w l = w (40 + 11 * l + 6) - w (40 + 11 * l + 8) - w (40 + 11 * l + 9) := rfl
  have un1 : un w l = w (40 + 11 * l + 2) - w (40 + 11 * l + 7) := rfl
  have et : w (40 + 11 * l + 2) - un w l = w (40 + 11 * l + 7) := by omega
  have p1 := mul_le (show 0 ≤ w (40 + 11 * l + 6) ∧ w (40 + 11 * l + 6) ≤ 10000000 by omega) (show 0 ≤ w (40 + 11 * l + 7) ∧ w (40 + 11 * l + 7) ≤ 1000000 by omega)
  have e1 : Int.tdiv (w (40 + 11 * l + 6) * w (40 + 11 * l + 7)) (w (40 + 11 * l + 2)) = w (40 + 11 * l + 6) * w (40 + 11 * l + 7) / w (40 + 11 * l + 2) := Int.tdiv_eq_ediv_of_nonneg p1.1
  have q1 := div_b p1 (show 0 < w (40 + 11 * l + 2) by omega)
  have rs1 : rs w l = w (40 + 11 * l + 6) - w (40 + 11 * l + 6) * w (40 + 11 * l + 7) / w (40 + 11 * l + 2) := rfl
  have sue := J.1.suE z1
  have wb := I.wtB l
  have ic := J.2.1 l z1
  rw [f_L_lots_b84]
  by_cases q : un w l ≤ 0
  · unfold f_L_lots_b359
    simp only [to_bz, to_nz, to_cz, to_iz]
    simp (disch := omega) only [c3, c1, c0, l0, l2, l5, l6, l7, l8, l9, l10, l12, l13, et, e1, bz_t, nz_t, cz_T, cz_t, iz_T, iz_F, iz_y, iz_n, not_true_eq_false, not_false_eq_true, true_and, and_true, w32_e, w64_e, mset_e, mset_n, up_e, up_n, if_y, if_n, Int.add_zero, mk_1_m2, mk_1_0, mk_1_1, mk_1_2, mk_1_3, mk_1_4, mk_1_5, mk_1_6, mk_2_m2, mk_2_0, mk_2_1, mk_2_2, mk_2_3, mk_2_4, mk_2_5, mk_2_6, mk_2_7, mk_2_8, mk_2_9, mk_2_10, mk_3_m2, mk_3_0, mk_3_1, mk_3_2, mk_3_3, mk_3_4, mk_3_5, mk_4_m2, mk_4_m1, mk_5_m2, mk_5_m1, mk_11_m2, mk_11_m1, mk_42_m2, mk_42_m1, mk_73_m2, mk_73_0, mk_73_1, mk_73_2, mk_74_m2, mk_74_m1, mk_572_m2, mk_572_m1, mk_715_m2, mk_715_m1, mk_717_m2, mk_717_m1, mk_718_m2, mk_718_m1, mk_716_m2, mk_716_0, mk_716_1, mk_716_2, mk_716_3, mk_716_4, mk_719_m2, mk_74_at, mk_572_at, mk_715_at, mk_717_at, mk_718_at, mk_4_at, mk_5_at, mk_11_at, mk_42_at, mk_O_k, mk_O_0, mk_O_1, mk_O_2, mk_O_3, mk_L_k, mk_L_0, mk_L_1, mk_L_2, mk_L_3, mk_L_4, mk_L_5, mk_L_6, mk_L_7, mk_L_8, mk_L_9, mk_L_10, mk_X_k, mk_X_0, mk_X_1, mk_X_2, mk_X_3, mk_X_4, mk_75_k, mk_573_k, r_1_6, r_73_1, r_73_2, r_716_1, r_716_2, r_716_3, r_715, r_717, r_718, s_O0, s_O1, s_O2, s_O3, s_L0, s_L1, s_L2, s_L3, s_L4, s_L5, s_L6, s_L7, s_L8, s_L9, s_L10, s_X0, s_X1, s_X2, s_X3, s_X4, s_2_4, s_2_5, s_2_6, s_2_7, s_2_8, s_2_9, s_2_10, s_3_1, s_3_2, s_3_3, s_3_4, s_3_5, s_4]
  · have ic2 := ic (by omega)
    unfold f_L_lots_b359
    simp only [to_bz, to_nz, to_cz, to_iz]
    simp (disch := omega) only [c3, c1, c0, l0, l2, l5, l6, l7, l8, l9, l10, l12, l13, et, e1, bz_t, nz_t, cz_T, cz_t, iz_T, iz_F, iz_y, iz_n, not_true_eq_false, not_false_eq_true, true_and, and_true, w32_e, w64_e, mset_e, mset_n, up_e, up_n, if_y, if_n, Int.add_zero, mk_1_m2, mk_1_0, mk_1_1, mk_1_2, mk_1_3, mk_1_4, mk_1_5, mk_1_6, mk_2_m2, mk_2_0, mk_2_1, mk_2_2, mk_2_3, mk_2_4, mk_2_5, mk_2_6, mk_2_7, mk_2_8, mk_2_9, mk_2_10, mk_3_m2, mk_3_0, mk_3_1, mk_3_2, mk_3_3, mk_3_4, mk_3_5, mk_4_m2, mk_4_m1, mk_5_m2, mk_5_m1, mk_11_m2, mk_11_m1, mk_42_m2, mk_42_m1, mk_73_m2, mk_73_0, mk_73_1, mk_73_2, mk_74_m2, mk_74_m1, mk_572_m2, mk_572_m1, mk_715_m2, mk_715_m1, mk_717_m2, mk_717_m1, mk_718_m2, mk_718_m1, mk_716_m2, mk_716_0, mk_716_1, mk_716_2, mk_716_3, mk_716_4, mk_719_m2, mk_74_at, mk_572_at, mk_715_at, mk_717_at, mk_718_at, mk_4_at, mk_5_at, mk_11_at, mk_42_at, mk_O_k, mk_O_0, mk_O_1, mk_O_2, mk_O_3, mk_L_k, mk_L_0, mk_L_1, mk_L_2, mk_L_3, mk_L_4, mk_L_5, mk_L_6, mk_L_7, mk_L_8, mk_L_9, mk_L_10, mk_X_k, mk_X_0, mk_X_1, mk_X_2, mk_X_3, mk_X_4, mk_75_k, mk_573_k, r_1_6, r_73_1, r_73_2, r_716_1, r_716_2, r_716_3, r_715, r_717, r_718, s_O0, s_O1, s_O2, s_O3, s_L0, s_L1, s_L2, s_L3, s_L4, s_L5, s_L6, s_L7, s_L8, s_L9, s_L10, s_X0, s_X1, s_X2, s_X3, s_X4, s_2_4, s_2_5, s_2_6, s_2_7, s_2_8, s_2_9, s_2_10, s_3_1, s_3_2, s_3_3, s_3_4, s_3_5, s_4]
theorem l_lots84 (hN : 5000 ≤ N) (J : JV K w) (k0 : Int → Int → Int → Int → Int → Int → Mm → Rs) {x1 x3 x5 x7 l : Int} (z1 : 0 ≤ l ∧ l < w 2) {cn : Nat} (hc : w 3 = cn) (n : Nat) : ∀ k : Nat, k ≤ cn → cn < n + k →
    f_L_lots_b84 N k0 n 1 x1 x3 x5 x7 l (sm (wtf w l 1) k) (sm (wtf w l 2) k) k (mk w c m a) = k0 1 x1 x3 x5 x7 (l + 1) (mk w c m a) := by
  have I := J.1.1
  have g := I.hd; unfold HEAD at g
  induction n with
  | zero => intro k h1 h2; omega
  | succ n ih =>
    intro k h1 h2
    by_cases e : k = cn
    · subst e
      have r := l_lots_x (N := N) (c := c) m (a := a) hN J k0 (x1 := x1) (x3 := x3) (x5 := x5) (x7 := x7) z1 n
      unfold wt at r
      rw [show (w 3).toNat = k by omega, hc] at r
      exact r
    · have r := ih (k + 1) (by omega) (by omega)
      have hk : 0 ≤ (k : Int) ∧ (k : Int) < w 3 := by omega
      have x := I.xp hk; unfold EXP at x
      have s1 := I.wt1 l (k := k) (by omega)
      have s2 := I.wt2 l (k := k) (by omega)
      have c3 := q_count_3 (N := N) (c := c) m (a := a) I
      have e0 := q_exported_0 (N := N) (c := c) m (a := a) I hk
      have e4 := q_exported_4 (N := N) (c := c) m (a := a) I hk
      have e1 := q_exported_1 (N := N) (c := c) m (a := a) I hk
      have e2 := q_exported_2 (N := N) (c := c) m (a := a) I hk
      rw [show sm (wtf w l 1) (k + 1) = sm (wtf w l 1) k + wtf w l 1 k from rfl, show sm (wtf w l 2) (k + 1) = sm (wtf w l 2) k + wtf w l 2 k from rfl, nc1] at r
      generalize sm (wtf w l 1) k = y1 at *
      generalize sm (wtf w l 2) k = y2 at *
      unfold wtf at r
      rw [f_L_lots_b84]
      by_cases q1 : w (370 + 5 * (k : Int)) = l
      · by_cases q2 : w (370 + 5 * (k : Int) + 4) = 0
        · rw [if_pos ⟨q2, q1⟩, if_pos ⟨q2, q1⟩] at r
          unfold f_L_lots_b121 f_L_lots_b141
          simp only [to_bz, to_nz, to_cz, to_iz]
          simp (disch := omega) only [c3, e0, e4, e1, e2, bz_t, nz_t, cz_T, cz_t, iz_T, iz_F, iz_y, iz_n, not_true_eq_false, not_false_eq_true, true_and, and_true, w32_e, w64_e, mset_e, mset_n, up_e, up_n, if_y, if_n, Int.add_zero, mk_1_m2, mk_1_0, mk_1_1, mk_1_2, mk_1_3, mk_1_4, mk_1_5, mk_1_6, mk_2_m2, mk_2_0, mk_2_1, mk_2_2, mk_2_3, mk_2_4, mk_2_5, mk_2_6, mk_2_7, mk_2_8, mk_2_9, mk_2_10, mk_3_m2, mk_3_0, mk_3_1, mk_3_2, mk_3_3, mk_3_4, mk_3_5, mk_4_m2, mk_4_m1, mk_5_m2, mk_5_m1, mk_11_m2, mk_11_m1, mk_42_m2, mk_42_m1, mk_73_m2, mk_73_0, mk_73_1, mk_73_2, mk_74_m2, mk_74_m1, mk_572_m2, mk_572_m1, mk_715_m2, mk_715_m1, mk_717_m2, mk_717_m1, mk_718_m2, mk_718_m1, mk_716_m2, mk_716_0, mk_716_1, mk_716_2, mk_716_3, mk_716_4, mk_719_m2, mk_74_at, mk_572_at, mk_715_at, mk_717_at, mk_718_at, mk_4_at, mk_5_at, mk_11_at, mk_42_at, mk_O_k, mk_O_0, mk_O_1, mk_O_2, mk_O_3, mk_L_k, mk_L_0, mk_L_1, mk_L_2, mk_L_3, mk_L_4, mk_L_5, mk_L_6, mk_L_7, mk_L_8, mk_L_9, mk_L_10, mk_X_k, mk_X_0, mk_X_1, mk_X_2, mk_X_3, mk_X_4, mk_75_k, mk_573_k, r_1_6, r_73_1, r_73_2, r_716_1, r_716_2, r_716_3, r_715, r_717, r_718, s_O0, s_O1, s_O2, s_O3, s_L0, s_L1, s_L2, s_L3, s_L4, s_L5, s_L6, s_L7, s_L8, s_L9, s_L10, s_X0, s_X1, s_X2, s_X3, s_X4, s_2_4, s_2_5, s_2_6, s_2_7, s_2_8, s_2_9, s_2_10, s_3_1, s_3_2, s_3_3, s_3_4, s_3_5, s_4]
          exact r
        · rw [if_neg (fun z => q2 z.1), if_neg (fun z => q2 z.1), Int.add_zero, Int.add_zero] at r
          unfold f_L_lots_b120 f_L_lots_b121 f_L_lots_b141
          simp only [to_bz, to_nz, to_cz, to_iz]
          simp (disch := omega) only [c3, e0, e4, bz_t, nz_t, cz_T, cz_t, iz_T, iz_F, iz_y, iz_n, not_true_eq_false, not_false_eq_true, true_and, and_true, w32_e, w64_e, mset_e, mset_n, up_e, up_n, if_y, if_n, Int.add_zero, mk_1_m2, mk_1_0, mk_1_1, mk_1_2, mk_1_3, mk_1_4, mk_1_5, mk_1_6, mk_2_m2, mk_2_0, mk_2_1, mk_2_2, mk_2_3, mk_2_4, mk_2_5, mk_2_6, mk_2_7, mk_2_8, mk_2_9, mk_2_10, mk_3_m2, mk_3_0, mk_3_1, mk_3_2, mk_3_3, mk_3_4, mk_3_5, mk_4_m2, mk_4_m1, mk_5_m2, mk_5_m1, mk_11_m2, mk_11_m1, mk_42_m2, mk_42_m1, mk_73_m2, mk_73_0, mk_73_1, mk_73_2, mk_74_m2, mk_74_m1, mk_572_m2, mk_572_m1, mk_715_m2, mk_715_m1, mk_717_m2, mk_717_m1, mk_718_m2, mk_718_m1, mk_716_m2, mk_716_0, mk_716_1, mk_716_2, mk_716_3, mk_716_4, mk_719_m2, mk_74_at, mk_572_at, mk_715_at, mk_717_at, mk_718_at, mk_4_at, mk_5_at, mk_11_at, mk_42_at, mk_O_k, mk_O_0, mk_O_1, mk_O_2, mk_O_3, mk_L_k, mk_L_0, mk_L_1, mk_L_2, mk_L_3, mk_L_4, mk_L_5, mk_L_6, mk_L_7, mk_L_8, mk_L_9, mk_L_10, mk_X_k, mk_X_0, mk_X_1, mk_X_2, mk_X_3, mk_X_4, mk_75_k, mk_573_k, r_1_6, r_73_1, r_73_2, r_716_1, r_716_2, r_716_3, r_715, r_717, r_718, s_O0, s_O1, s_O2, s_O3, s_L0, s_L1, s_L2, s_L3, s_L4, s_L5, s_L6, s_L7, s_L8, s_L9, s_L10, s_X0, s_X1, s_X2, s_X3, s_X4, s_2_4, s_2_5, s_2_6, s_2_7, s_2_8, s_2_9, s_2_10, s_3_1, s_3_2, s_3_3, s_3_4, s_3_5, s_4]
          exact r
      · rw [if_neg (fun z => q1 z.2), if_neg (fun z => q1 z.2), Int.add_zero, Int.add_zero] at r
        unfold f_L_lots_b120 f_L_lots_b121 f_L_lots_b141
        simp only [to_bz, to_nz, to_cz, to_iz]
        simp (disch := omega) only [c3, e0, e4, bz_t, nz_t, cz_T, cz_t, iz_T, iz_F, iz_y, iz_n, not_true_eq_false, not_false_eq_true, true_and, and_true, w32_e, w64_e, mset_e, mset_n, up_e, up_n, if_y, if_n, Int.add_zero, mk_1_m2, mk_1_0, mk_1_1, mk_1_2, mk_1_3, mk_1_4, mk_1_5, mk_1_6, mk_2_m2, mk_2_0, mk_2_1, mk_2_2, mk_2_3, mk_2_4, mk_2_5, mk_2_6, mk_2_7, mk_2_8, mk_2_9, mk_2_10, mk_3_m2, mk_3_0, mk_3_1, mk_3_2, mk_3_3, mk_3_4, mk_3_5, mk_4_m2, mk_4_m1, mk_5_m2, mk_5_m1, mk_11_m2, mk_11_m1, mk_42_m2, mk_42_m1, mk_73_m2, mk_73_0, mk_73_1, mk_73_2, mk_74_m2, mk_74_m1, mk_572_m2, mk_572_m1, mk_715_m2, mk_715_m1, mk_717_m2, mk_717_m1, mk_718_m2, mk_718_m1, mk_716_m2, mk_716_0, mk_716_1, mk_716_2, mk_716_3, mk_716_4, mk_719_m2, mk_74_at, mk_572_at, mk_715_at, mk_717_at, mk_718_at, mk_4_at, mk_5_at, mk_11_at, mk_42_at, mk_O_k, mk_O_0, mk_O_1, mk_O_2, mk_O_3, mk_L_k, mk_L_0, mk_L_1, mk_L_2, mk_L_3, mk_L_4, mk_L_5, mk_L_6, mk_L_7, mk_L_8, mk_L_9, mk_L_10, mk_X_k, mk_X_0, mk_X_1, mk_X_2, mk_X_3, mk_X_4, mk_75_k, mk_573_k, r_1_6, r_73_1, r_73_2, r_716_1, r_716_2, r_716_3, r_715, r_717, r_718, s_O0, s_O1, s_O2, s_O3, s_L0, s_L1, s_L2, s_L3, s_L4, s_L5, s_L6, s_L7, s_L8, s_L9, s_L10, s_X0, s_X1, s_X2, s_X3, s_X4, s_2_4, s_2_5, s_2_6, s_2_7, s_2_8, s_2_9, s_2_10, s_3_1, s_3_2, s_3_3, s_3_4, s_3_5, s_4]
        exact r
theorem l_lots13 (hN : 5000 ≤ N) (J : JV K w) {cn : Nat} (hc : w 2 = cn) (n : Nat) : ∀ k : Nat, k ≤ cn → cn < n + k →
    f_L_lots_b13 N n 1 (sm (paf w 0) k) (sm (paf w 1) k) (sm (paf w 2) k) (sm (paf w 3) k) k (mk w c m a) = some (1, mk w c m a) := by
  have I := J.1.1
  have g := I.hd; unfold HEAD at g
  induction n with
  | zero => intro k h1 h2; omega
  | succ n ih =>
    intro k h1 h2
    rw [f_L_lots_b13]
    have c2 := q_count_2 (N := N) (c := c) m (a := a) I
    by_cases e : k = cn
    · subst e
      have a0 := q_account_0 (N := N) (c := c) m (a := a) hN I
      have a1 := q_account_1 (N := N) (c := c) m (a := a) hN I
      have a2 := q_account_2 (N := N) (c := c) m (a := a) hN I
      have a3 := q_account_3 (N := N) (c := c) m (a := a) hN I
      have a7 := q_account_7 (N := N) (c := c) m (a := a) I
      have lu := q_lot_u (N := N) (c := c) m (a := a) I (l := w 2) (x := 0) (by omega)
      rw [show (w 2).toNat = k by omega] at a0 a1 a2 a3
      simp only [to_bz, to_nz, to_cz, to_iz]
      simp (disch := omega) only [c2, a0, a1, a2, a3, a7, lu, bz_t, nz_t, cz_T, cz_t, iz_T, iz_F, iz_y, iz_n, not_true_eq_false, not_false_eq_true, true_and, and_true, w32_e, w64_e, mset_e, mset_n, up_e, up_n, if_y, if_n, Int.add_zero, mk_1_m2, mk_1_0, mk_1_1, mk_1_2, mk_1_3, mk_1_4, mk_1_5, mk_1_6, mk_2_m2, mk_2_0, mk_2_1, mk_2_2, mk_2_3, mk_2_4, mk_2_5, mk_2_6, mk_2_7, mk_2_8, mk_2_9, mk_2_10, mk_3_m2, mk_3_0, mk_3_1, mk_3_2, mk_3_3, mk_3_4, mk_3_5, mk_4_m2, mk_4_m1, mk_5_m2, mk_5_m1, mk_11_m2, mk_11_m1, mk_42_m2, mk_42_m1, mk_73_m2, mk_73_0, mk_73_1, mk_73_2, mk_74_m2, mk_74_m1, mk_572_m2, mk_572_m1, mk_715_m2, mk_715_m1, mk_717_m2, mk_717_m1, mk_718_m2, mk_718_m1, mk_716_m2, mk_716_0, mk_716_1, mk_716_2, mk_716_3, mk_716_4, mk_719_m2, mk_74_at, mk_572_at, mk_715_at, mk_717_at, mk_718_at, mk_4_at, mk_5_at, mk_11_at, mk_42_at, mk_O_k, mk_O_0, mk_O_1, mk_O_2, mk_O_3, mk_L_k, mk_L_0, mk_L_1, mk_L_2, mk_L_3, mk_L_4, mk_L_5, mk_L_6, mk_L_7, mk_L_8, mk_L_9, mk_L_10, mk_X_k, mk_X_0, mk_X_1, mk_X_2, mk_X_3, mk_X_4, mk_75_k, mk_573_k, r_1_6, r_73_1, r_73_2, r_716_1, r_716_2, r_716_3, r_715, r_717, r_718, s_O0, s_O1, s_O2, s_O3, s_L0, s_L1, s_L2, s_L3, s_L4, s_L5, s_L6, s_L7, s_L8, s_L9, s_L10, s_X0, s_X1, s_X2, s_X3, s_X4, s_2_4, s_2_5, s_2_6, s_2_7, s_2_8, s_2_9, s_2_10, s_3_1, s_3_2, s_3_3, s_3_4, s_3_5, s_4]
    · have r := ih (k + 1) (by omega) (by omega)
      have hk : 0 ≤ (k : Int) ∧ (k : Int) < w 2 := by omega
      have lo := I.lot hk; unfold LOT at lo
      have s0 := sm_b (f := paf w 0) (M := 10000000) (n := cn) (fun i hi => paf_b I 0 (by omega)) h1
      have s1 := sm_b (f := paf w 1) (M := 10000000) (n := cn) (fun i hi => paf_b I 1 (by omega)) h1
      have s2 := sm_b (f := paf w 2) (M := 10000000) (n := cn) (fun i hi => paf_b I 2 (by omega)) h1
      have s3 := sm_b (f := paf w 3) (M := 10000000) (n := cn) (fun i hi => paf_b I 3 (by omega)) h1
      have l6 := q_lot_6 (N := N) (c := c) m (a := a) I hk
      have l8 := q_lot_8 (N := N) (c := c) m (a := a) I hk
      have l9 := q_lot_9 (N := N) (c := c) m (a := a) I hk
      have l10 := q_lot_10 (N := N) (c := c) m (a := a) I hk
      have su1 : su w k = w (40 + 11 * (k : Int) + 6) - w (40 + 11 * (k : Int) + 8) - w (40 + 11 * (k : Int) + 9) := rfl
      rw [show sm (paf w 0) (k + 1) = sm (paf w 0) k + w (40 + 11 * (k : Int) + 6) from rfl, show sm (paf w 1) (k + 1) = sm (paf w 1) k + su w k from rfl, show sm (paf w 2) (k + 1) = sm (paf w 2) k + w (40 + 11 * (k : Int) + 8) from rfl, show sm (paf w 3) (k + 1) = sm (paf w 3) k + w (40 + 11 * (k : Int) + 9) from rfl, nc1] at r
      generalize sm (paf w 0) k = y0 at *
      generalize sm (paf w 1) k = y1 at *
      generalize sm (paf w 2) k = y2 at *
      generalize sm (paf w 3) k = y3 at *
      have i := l_lots84 (N := N) (c := c) m (a := a) hN J (f_L_lots_b13 N n) (x1 := y0 + w (40 + 11 * (k : Int) + 6)) (x3 := y1 + su w k) (x5 := y2 + w (40 + 11 * (k : Int) + 8)) (x7 := y3 + w (40 + 11 * (k : Int) + 9)) hk (cn := (w 3).toNat) (by omega) N 0 (by omega) (by omega)
      rw [show ((0 : Nat) : Int) = 0 from rfl, show sm (wtf w (k : Int) 1) 0 = 0 from rfl, show sm (wtf w (k : Int) 2) 0 = 0 from rfl] at i
      simp only [to_bz, to_nz, to_cz, to_iz]
      simp (disch := omega) only [c2, l6, l8, l9, l10, i, bz_t, nz_t, cz_T, cz_t, iz_T, iz_F, iz_y, iz_n, not_true_eq_false, not_false_eq_true, true_and, and_true, w32_e, w64_e, mset_e, mset_n, up_e, up_n, if_y, if_n, Int.add_zero, mk_1_m2, mk_1_0, mk_1_1, mk_1_2, mk_1_3, mk_1_4, mk_1_5, mk_1_6, mk_2_m2, mk_2_0, mk_2_1, mk_2_2, mk_2_3, mk_2_4, mk_2_5, mk_2_6, mk_2_7, mk_2_8, mk_2_9, mk_2_10, mk_3_m2, mk_3_0, mk_3_1, mk_3_2, mk_3_3, mk_3_4, mk_3_5, mk_4_m2, mk_4_m1, mk_5_m2, mk_5_m1, mk_11_m2, mk_11_m1, mk_42_m2, mk_42_m1, mk_73_m2, mk_73_0, mk_73_1, mk_73_2, mk_74_m2, mk_74_m1, mk_572_m2, mk_572_m1, mk_715_m2, mk_715_m1, mk_717_m2, mk_717_m1, mk_718_m2, mk_718_m1, mk_716_m2, mk_716_0, mk_716_1, mk_716_2, mk_716_3, mk_716_4, mk_719_m2, mk_74_at, mk_572_at, mk_715_at, mk_717_at, mk_718_at, mk_4_at, mk_5_at, mk_11_at, mk_42_at, mk_O_k, mk_O_0, mk_O_1, mk_O_2, mk_O_3, mk_L_k, mk_L_0, mk_L_1, mk_L_2, mk_L_3, mk_L_4, mk_L_5, mk_L_6, mk_L_7, mk_L_8, mk_L_9, mk_L_10, mk_X_k, mk_X_0, mk_X_1, mk_X_2, mk_X_3, mk_X_4, mk_75_k, mk_573_k, r_1_6, r_73_1, r_73_2, r_716_1, r_716_2, r_716_3, r_715, r_717, r_718, s_O0, s_O1, s_O2, s_O3, s_L0, s_L1, s_L2, s_L3, s_L4, s_L5, s_L6, s_L7, s_L8, s_L9, s_L10, s_X0, s_X1, s_X2, s_X3, s_X4, s_2_4, s_2_5, s_2_6, s_2_7, s_2_8, s_2_9, s_2_10, s_3_1, s_3_2, s_3_3, s_3_4, s_3_5, s_4]
      exact r
theorem q_lots (hN : 5000 ≤ N) (J : JV K w) : f_L_lots N 1 (mk w c m a) = some (1, mk w c m a) := by
  have g := J.1.1.hd; unfold HEAD at g
  exact l_lots13 (N := N) (c := c) m (a := a) hN J (cn := (w 2).toNat) (by omega) N 0 (by omega) (by omega)
end LOTS
