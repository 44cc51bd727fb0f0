/-! the law's check of owners -/
section OWNS
variable {N : Nat} {c : Int → Int → Int} (m : Int → Int) {a : Mm} {w : Int → Int} {K : Int}
def caf (w : Int → Int) (o : Int) : Int := w (20 + 4 * o + 3)
theorem l_own_x (hN : 5000 ≤ N) (J : JV K w) (k0 : Int → Int → Int → Int → Int → Mm → Rs) {x1 x2 x4 o : Int} (z1 : 0 ≤ o ∧ o < w 1) (h2 : 0 ≤ x2 ∧ x2 ≤ 1500000000) (h4 : 0 ≤ x4 ∧ x4 ≤ 1500000000) (n : Nat) :
    f_L_owners_b27 N k0 (n + 1) 1 x1 x2 x4 o (sm (stf w o) (w 2).toNat) (us w o) (w 2) (mk w c m a) = k0 1 x1 (x2 + caf w o) (x4 + us w o) (o + 1) (mk w c m a) := by
  have I := J.1.1
  have g := I.hd; unfold HEAD at g
  have ow := I.own (o := o) (by omega); unfold OWN at ow
  have t := I.usT o
  have c2 := q_count_2 (N := N) (c := c) m (a := a) I
  have c8 := q_count_8 (N := N) (c := c) m (a := a) I
  have o0 := q_owner_0 (N := N) (c := c) m (a := a) I z1
  have o1 := q_owner_1 (N := N) (c := c) m (a := a) I z1
  have o2 := q_owner_2 (N := N) (c := c) m (a := a) I z1
  have o3 := q_owner_3 (N := N) (c := c) m (a := a) hN I z1
  have o4 := q_owner_4 (N := N) (c := c) m (a := a) hN I z1
  have o5 := q_owner_5 (N := N) (c := c) m (a := a) hN I z1
  have o6 := q_owner_6 (N := N) (c := c) m (a := a) I z1
  have o7 := q_owner_7 (N := N) (c := c) m (a := a) I z1
  have p1 := mul_le t (show 0 ≤ w 7 ∧ w 7 ≤ 100 by omega)
  have e1 : Int.tdiv (us w o * w 7) 100 = us w o * w 7 / 100 := Int.tdiv_eq_ediv_of_nonneg p1.1
  have q1 := div_b p1 (show (0 : Int) < 100 by omega)
  have rfc : caf w o = w (20 + 4 * o + 3) := rfl
  rw [f_L_owners_b27, rfc]
  by_cases q : us w o * w 7 / 100 ≤ w (20 + 4 * o + 1)
  · rw [if_pos q] at o4
    unfold f_L_owners_b154 f_L_owners_b222
    simp only [to_bz, to_nz, to_cz, to_iz]
    simp (disch := omega) only [c2, c8, o0, o1, o2, o3, o4, o5, o6, o7, e1, bz_t, nz_t, cz_T, cz_t, iz_T, iz_F, iz_y, iz_n, not_true_eq_false, not_false_eq_true, true_and, and_true, w32_e, w64_e, mset_e, mset_n, up_e, up_n, if_y, if_n, Int.add_zero, mk_1_m2, mk_1_0, mk_1_1, mk_1_2, mk_1_3, mk_1_4, mk_1_5, mk_1_6, mk_2_m2, mk_2_0, mk_2_1, mk_2_2, mk_2_3, mk_2_4, mk_2_5, mk_2_6, mk_2_7, mk_2_8, mk_2_9, mk_2_10, mk_3_m2, mk_3_0, mk_3_1, mk_3_2, mk_3_3, mk_3_4, mk_3_5, mk_4_m2, mk_4_m1, mk_5_m2, mk_5_m1, mk_11_m2, mk_11_m1, mk_42_m2, mk_42_m1, mk_73_m2, mk_73_0, mk_73_1, mk_73_2, mk_74_m2, mk_74_m1, mk_572_m2, mk_572_m1, mk_715_m2, mk_715_m1, mk_717_m2, mk_717_m1, mk_718_m2, mk_718_m1, mk_716_m2, mk_716_0, mk_716_1, mk_716_2, mk_716_3, mk_716_4, mk_719_m2, mk_74_at, mk_572_at, mk_715_at, mk_717_at, mk_718_at, mk_4_at, mk_5_at, mk_11_at, mk_42_at, mk_O_k, mk_O_0, mk_O_1, mk_O_2, mk_O_3, mk_L_k, mk_L_0, mk_L_1, mk_L_2, mk_L_3, mk_L_4, mk_L_5, mk_L_6, mk_L_7, mk_L_8, mk_L_9, mk_L_10, mk_X_k, mk_X_0, mk_X_1, mk_X_2, mk_X_3, mk_X_4, mk_75_k, mk_573_k, r_1_6, r_73_1, r_73_2, r_716_1, r_716_2, r_716_3, r_715, r_717, r_718, s_O0, s_O1, s_O2, s_O3, s_L0, s_L1, s_L2, s_L3, s_L4, s_L5, s_L6, s_L7, s_L8, s_L9, s_L10, s_X0, s_X1, s_X2, s_X3, s_X4, s_2_4, s_2_5, s_2_6, s_2_7, s_2_8, s_2_9, s_2_10, s_3_1, s_3_2, s_3_3, s_3_4, s_3_5, s_4]
  · rw [if_neg q] at o4
    unfold f_L_owners_b154 f_L_owners_b222
    simp only [to_bz, to_nz, to_cz, to_iz]
    simp (disch := omega) only [c2, c8, o0, o1, o2, o3, o4, o5, o6, o7, e1, bz_t, nz_t, cz_T, cz_t, iz_T, iz_F, iz_y, iz_n, not_true_eq_false, not_false_eq_true, true_and, and_true, w32_e, w64_e, mset_e, mset_n, up_e, up_n, if_y, if_n, Int.add_zero, mk_1_m2, mk_1_0, mk_1_1, mk_1_2, mk_1_3, mk_1_4, mk_1_5, mk_1_6, mk_2_m2, mk_2_0, mk_2_1, mk_2_2, mk_2_3, mk_2_4, mk_2_5, mk_2_6, mk_2_7, mk_2_8, mk_2_9, mk_2_10, mk_3_m2, mk_3_0, mk_3_1, mk_3_2, mk_3_3, mk_3_4, mk_3_5, mk_4_m2, mk_4_m1, mk_5_m2, mk_5_m1, mk_11_m2, mk_11_m1, mk_42_m2, mk_42_m1, mk_73_m2, mk_73_0, mk_73_1, mk_73_2, mk_74_m2, mk_74_m1, mk_572_m2, mk_572_m1, mk_715_m2, mk_715_m1, mk_717_m2, mk_717_m1, mk_718_m2, mk_718_m1, mk_716_m2, mk_716_0, mk_716_1, mk_716_2, mk_716_3, mk_716_4, mk_719_m2, mk_74_at, mk_572_at, mk_715_at, mk_717_at, mk_718_at, mk_4_at, mk_5_at, mk_11_at, mk_42_at, mk_O_k, mk_O_0, mk_O_1, mk_O_2, mk_O_3, mk_L_k, mk_L_0, mk_L_1, mk_L_2, mk_L_3, mk_L_4, mk_L_5, mk_L_6, mk_L_7, mk_L_8, mk_L_9, mk_L_10, mk_X_k, mk_X_0, mk_X_1, mk_X_2, mk_X_3, mk_X_4, mk_75_k, mk_573_k, r_1_6, r_73_1, r_73_2, r_716_1, r_716_2, r_716_3, r_715, r_717, r_718, s_O0, s_O1, s_O2, s_O3, s_L0, s_L1, s_L2, s_L3, s_L4, s_L5, s_L6, s_L7, s_L8, s_L9, s_L10, s_X0, s_X1, s_X2, s_X3, s_X4, s_2_4, s_2_5, s_2_6, s_2_7, s_2_8, s_2_9, s_2_10, s_3_1, s_3_2, s_3_3, s_3_4, s_3_5, s_4]
theorem l_own27 (hN : 5000 ≤ N) (J : JV K w) (k0 : Int → Int → Int → Int → Int → Mm → Rs) {x1 x2 x4 o : Int} (z1 : 0 ≤ o ∧ o < w 1) (h2 : 0 ≤ x2 ∧ x2 ≤ 1500000000) (h4 : 0 ≤ x4 ∧ x4 ≤ 1500000000) {cn : Nat} (hc : w 2 = cn) (n : Nat) : ∀ k : Nat, k ≤ cn → cn < n + k →
    f_L_owners_b27 N k0 n 1 x1 x2 x4 o (sm (stf w o) k) (sm (usf w o) k) k (mk w c m a) = k0 1 x1 (x2 + caf w o) (x4 + us w o) (o + 1) (mk w c m a) := by
  have I := J.1.1
  have g := I.hd; unfold HEAD at g
  induction n with
  | zero => intro k h1 h2; omega
  | succ n ih =>
    intro k h1 h2'
    by_cases e : k = cn
    · subst e
      have r := l_own_x (N := N) (c := c) m (a := a) hN J k0 (x1 := x1) z1 h2 h4 n
      rw [show us w o = sm (usf w o) (w 2).toNat from rfl, show (w 2).toNat = k by omega, hc] at r
      rw [show us w o = sm (usf w o) (w 2).toNat from rfl, show (w 2).toNat = k by omega]
      exact r
    · have r := ih (k + 1) (by omega) (by omega)
      have hk : 0 ≤ (k : Int) ∧ (k : Int) < w 2 := by omega
      have lo := I.lot hk; unfold LOT at lo
      have s1 := sm_b (f := stf w o) (M := 1) (n := cn) (fun i _ => by unfold stf; split <;> omega) h1
      have s2 := I.usB o (k := k) (by omega)
      have c2 := q_count_2 (N := N) (c := c) m (a := a) I
      have l0 := q_lot_0 (N := N) (c := c) m (a := a) I hk
      have l7 := q_lot_7 (N := N) (c := c) m (a := a) I hk
      have l8 := q_lot_8 (N := N) (c := c) m (a := a) I hk
      have su1 : su w k = w (40 + 11 * (k : Int) + 6) - w (40 + 11 * (k : Int) + 8) - w (40 + 11 * (k : Int) + 9) := rfl
      rw [show sm (stf w o) (k + 1) = sm (stf w o) k + stf w o k from rfl, show sm (usf w o) (k + 1) = sm (usf w o) k + usf w o k from rfl, nc1] at r
      generalize sm (stf w o) k = y1 at *
      generalize sm (usf w o) k = y2 at *
      unfold stf usf at r
      rw [f_L_owners_b27]
      by_cases q1 : w (40 + 11 * (k : Int)) = o
      · rw [if_pos q1] at r
        by_cases q2 : 0 < un w k
        · rw [if_pos ⟨q1, q2⟩] at r
          unfold f_L_owners_b67
          simp only [to_bz, to_nz, to_cz, to_iz]
          simp (disch := omega) only [c2, l0, l7, l8, bz_t, nz_t, cz_T, cz_t, iz_T, iz_F, iz_y, iz_n, not_true_eq_false, not_false_eq_true, true_and, and_true, w32_e, w64_e, mset_e, mset_n, up_e, up_n, if_y, if_n, Int.add_zero, mk_1_m2, mk_1_0, mk_1_1, mk_1_2, mk_1_3, mk_1_4, mk_1_5, mk_1_6, mk_2_m2, mk_2_0, mk_2_1, mk_2_2, mk_2_3, mk_2_4, mk_2_5, mk_2_6, mk_2_7, mk_2_8, mk_2_9, mk_2_10, mk_3_m2, mk_3_0, mk_3_1, mk_3_2, mk_3_3, mk_3_4, mk_3_5, mk_4_m2, mk_4_m1, mk_5_m2, mk_5_m1, mk_11_m2, mk_11_m1, mk_42_m2, mk_42_m1, mk_73_m2, mk_73_0, mk_73_1, mk_73_2, mk_74_m2, mk_74_m1, mk_572_m2, mk_572_m1, mk_715_m2, mk_715_m1, mk_717_m2, mk_717_m1, mk_718_m2, mk_718_m1, mk_716_m2, mk_716_0, mk_716_1, mk_716_2, mk_716_3, mk_716_4, mk_719_m2, mk_74_at, mk_572_at, mk_715_at, mk_717_at, mk_718_at, mk_4_at, mk_5_at, mk_11_at, mk_42_at, mk_O_k, mk_O_0, mk_O_1, mk_O_2, mk_O_3, mk_L_k, mk_L_0, mk_L_1, mk_L_2, mk_L_3, mk_L_4, mk_L_5, mk_L_6, mk_L_7, mk_L_8, mk_L_9, mk_L_10, mk_X_k, mk_X_0, mk_X_1, mk_X_2, mk_X_3, mk_X_4, mk_75_k, mk_573_k, r_1_6, r_73_1, r_73_2, r_716_1, r_716_2, r_716_3, r_715, r_717, r_718, s_O0, s_O1, s_O2, s_O3, s_L0, s_L1, s_L2, s_L3, s_L4, s_L5, s_L6, s_L7, s_L8, s_L9, s_L10, s_X0, s_X1, s_X2, s_X3, s_X4, s_2_4, s_2_5, s_2_6, s_2_7, s_2_8, s_2_9, s_2_10, s_3_1, s_3_2, s_3_3, s_3_4, s_3_5, s_4]
          exact r
        · rw [if_neg (fun z => q2 z.2), Int.add_zero] at r
          unfold f_L_owners_b66 f_L_owners_b67
          simp only [to_bz, to_nz, to_cz, to_iz]
          simp (disch := omega) only [c2, l0, l7, l8, bz_t, nz_t, cz_T, cz_t, iz_T, iz_F, iz_y, iz_n, not_true_eq_false, not_false_eq_true, true_and, and_true, w32_e, w64_e, mset_e, mset_n, up_e, up_n, if_y, if_n, Int.add_zero, mk_1_m2, mk_1_0, mk_1_1, mk_1_2, mk_1_3, mk_1_4, mk_1_5, mk_1_6, mk_2_m2, mk_2_0, mk_2_1, mk_2_2, mk_2_3, mk_2_4, mk_2_5, mk_2_6, mk_2_7, mk_2_8, mk_2_9, mk_2_10, mk_3_m2, mk_3_0, mk_3_1, mk_3_2, mk_3_3, mk_3_4, mk_3_5, mk_4_m2, mk_4_m1, mk_5_m2, mk_5_m1, mk_11_m2, mk_11_m1, mk_42_m2, mk_42_m1, mk_73_m2, mk_73_0, mk_73_1, mk_73_2, mk_74_m2, mk_74_m1, mk_572_m2, mk_572_m1, mk_715_m2, mk_715_m1, mk_717_m2, mk_717_m1, mk_718_m2, mk_718_m1, mk_716_m2, mk_716_0, mk_716_1, mk_716_2, mk_716_3, mk_716_4, mk_719_m2, mk_74_at, mk_572_at, mk_715_at, mk_717_at, mk_718_at, mk_4_at, mk_5_at, mk_11_at, mk_42_at, mk_O_k, mk_O_0, mk_O_1, mk_O_2, mk_O_3, mk_L_k, mk_L_0, mk_L_1, mk_L_2, mk_L_3, mk_L_4, mk_L_5, mk_L_6, mk_L_7, mk_L_8, mk_L_9, mk_L_10, mk_X_k, mk_X_0, mk_X_1, mk_X_2, mk_X_3, mk_X_4, mk_75_k, mk_573_k, r_1_6, r_73_1, r_73_2, r_716_1, r_716_2, r_716_3, r_715, r_717, r_718, s_O0, s_O1, s_O2, s_O3, s_L0, s_L1, s_L2, s_L3, s_L4, s_L5, s_L6, s_L7, s_L8, s_L9, s_L10, s_X0, s_X1, s_X2, s_X3, s_X4, s_2_4, s_2_5, s_2_6, s_2_7, s_2_8, s_2_9, s_2_10, s_3_1, s_3_2, s_3_3, s_3_4, s_3_5, s_4]
          exact r
      · rw [if_neg (fun z => q1 z.1), if_neg q1, Int.add_zero, Int.add_zero] at r
        unfold f_L_owners_b66 f_L_owners_b67
        simp only [to_bz, to_nz, to_cz, to_iz]
        simp (disch := omega) only [c2, l0, l7, l8, bz_t, nz_t, cz_T, cz_t, iz_T, iz_F, iz_y, iz_n, not_true_eq_false, not_false_eq_true, true_and, and_true, w32_e, w64_e, mset_e, mset_n, up_e, up_n, if_y, if_n, Int.add_zero, mk_1_m2, mk_1_0, mk_1_1, mk_1_2, mk_1_3, mk_1_4, mk_1_5, mk_1_6, mk_2_m2, mk_2_0, mk_2_1, mk_2_2, mk_2_3, mk_2_4, mk_2_5, mk_2_6, mk_2_7, mk_2_8, mk_2_9, mk_2_10, mk_3_m2, mk_3_0, mk_3_1, mk_3_2, mk_3_3, mk_3_4, mk_3_5, mk_4_m2, mk_4_m1, mk_5_m2, mk_5_m1, mk_11_m2, mk_11_m1, mk_42_m2, mk_42_m1, mk_73_m2, mk_73_0, mk_73_1, mk_73_2, mk_74_m2, mk_74_m1, mk_572_m2, mk_572_m1, mk_715_m2, mk_715_m1, mk_717_m2, mk_717_m1, mk_718_m2, mk_718_m1, mk_716_m2, mk_716_0, mk_716_1, mk_716_2, mk_716_3, mk_716_4, mk_719_m2, mk_74_at, mk_572_at, mk_715_at, mk_717_at, mk_718_at, mk_4_at, mk_5_at, mk_11_at, mk_42_at, mk_O_k, mk_O_0, mk_O_1, mk_O_2, mk_O_3, mk_L_k, mk_L_0, mk_L_1, mk_L_2, mk_L_3, mk_L_4, mk_L_5, mk_L_6, mk_L_7, mk_L_8, mk_L_9, mk_L_10, mk_X_k, mk_X_0, mk_X_1, mk_X_2, mk_X_3, mk_X_4, mk_75_k, mk_573_k, r_1_6, r_73_1, r_73_2, r_716_1, r_716_2, r_716_3, r_715, r_717, r_718, s_O0, s_O1, s_O2, s_O3, s_L0, s_L1, s_L2, s_L3, s_L4, s_L5, s_L6, s_L7, s_L8, s_L9, s_L10, s_X0, s_X1, s_X2, s_X3, s_X4, s_2_4, s_2_5, s_2_6, s_2_7, s_2_8, s_2_9, s_2_10, s_3_1, s_3_2, s_3_3, s_3_4, s_3_5, s_4]
        exact r
/-- the greatest value is what it has to be -/
theorem l_own_g (hN : 5000 ≤ N) (J : JV K w) {o kd : Int} (z1 : 0 ≤ o ∧ o < w 1) (z2 : 0 ≤ kd ∧ kd ≤ 5) : ∃ s, f_X7_greatestValue N 1 o kd (mk w c m a) = some (s, mk w c m a) ∧
    f_L_owners_b410 N 1 o kd (us w o) (w 7) s (if us w o * w 7 / 100 ≤ w (20 + 4 * o + 1) then 0 else 1) (mk w c m a) = some (1, mk w c m a) ∧ -2147483648 ≤ s ∧ s ≤ 2147483647 := by
  have I := J.1.1
  have g := I.hd; unfold HEAD at g
  have ow := I.own (o := o) (by omega); unfold OWN at ow
  have t := I.usT o
  have rt := I.rt (k := kd) (by omega)
  have gu := q_great_u (N := N) (c := c) m (a := a) I z1
  by_cases q : us w o * w 7 / 100 ≤ w (20 + 4 * o + 1)
  · rw [if_pos q]
    obtain ⟨s, s1, s2, s3, s4⟩ := q_great (N := N) (c := c) m (a := a) hN I z1 z2 q
    have s5 := s3.1
    refine ⟨s, s1, ?_, by omega, by omega⟩
    have rk := q_rate (N := N) (c := c) m (a := a) I z2
    have o1 := q_owner_1 (N := N) (c := c) m (a := a) I z1
    have s6 := s3.2
    have p1 := mul_le (show 0 ≤ s ∧ s ≤ 10000000 by omega) rt
    have p2 := mul_le (show 0 ≤ s + 1 ∧ s + 1 ≤ 10000001 by omega) rt
    have e1 : Int.tdiv (s * w (14 + kd)) 1000 = s * w (14 + kd) / 1000 := Int.tdiv_eq_ediv_of_nonneg p1.1
    have e2 : Int.tdiv ((s + 1) * w (14 + kd)) 1000 = (s + 1) * w (14 + kd) / 1000 := Int.tdiv_eq_ediv_of_nonneg p2.1
    have d1 : 0 ≤ s * w (14 + kd) / 1000 ∧ s * w (14 + kd) / 1000 ≤ 10000000 := by omega
    have d2 : 0 ≤ (s + 1) * w (14 + kd) / 1000 ∧ (s + 1) * w (14 + kd) / 1000 ≤ 10000001 := by omega
    have p3 := mul_le (show 0 ≤ us w o + s * w (14 + kd) / 1000 ∧ us w o + s * w (14 + kd) / 1000 ≤ 310000000 by omega) (show 0 ≤ w 7 ∧ w 7 ≤ 100 by omega)
    have p4 := mul_le (show 0 ≤ us w o + (s + 1) * w (14 + kd) / 1000 ∧ us w o + (s + 1) * w (14 + kd) / 1000 ≤ 310000001 by omega) (show 0 ≤ w 7 ∧ w 7 ≤ 100 by omega)
    have e3 : Int.tdiv ((us w o + s * w (14 + kd) / 1000) * w 7) 100 = (us w o + s * w (14 + kd) / 1000) * w 7 / 100 := Int.tdiv_eq_ediv_of_nonneg p3.1
    have e4 : Int.tdiv ((us w o + (s + 1) * w (14 + kd) / 1000) * w 7) 100 = (us w o + (s + 1) * w (14 + kd) / 1000) * w 7 / 100 := Int.tdiv_eq_ediv_of_nonneg p4.1
    by_cases q2 : s = 10000000
    · unfold f_L_owners_b410 f_L_owners_b518 f_L_owners_b523
      simp only [to_bz, to_nz, to_cz, to_iz]
      simp (disch := omega) only [rk, o1, e1, e3, gu, q2, bz_t, nz_t, cz_T, cz_t, iz_T, iz_F, iz_y, iz_n, not_true_eq_false, not_false_eq_true, true_and, and_true, w32_e, w64_e, mset_e, mset_n, up_e, up_n, if_y, if_n, Int.add_zero, mk_1_m2, mk_1_0, mk_1_1, mk_1_2, mk_1_3, mk_1_4, mk_1_5, mk_1_6, mk_2_m2, mk_2_0, mk_2_1, mk_2_2, mk_2_3, mk_2_4, mk_2_5, mk_2_6, mk_2_7, mk_2_8, mk_2_9, mk_2_10, mk_3_m2, mk_3_0, mk_3_1, mk_3_2, mk_3_3, mk_3_4, mk_3_5, mk_4_m2, mk_4_m1, mk_5_m2, mk_5_m1, mk_11_m2, mk_11_m1, mk_42_m2, mk_42_m1, mk_73_m2, mk_73_0, mk_73_1, mk_73_2, mk_74_m2, mk_74_m1, mk_572_m2, mk_572_m1, mk_715_m2, mk_715_m1, mk_717_m2, mk_717_m1, mk_718_m2, mk_718_m1, mk_716_m2, mk_716_0, mk_716_1, mk_716_2, mk_716_3, mk_716_4, mk_719_m2, mk_74_at, mk_572_at, mk_715_at, mk_717_at, mk_718_at, mk_4_at, mk_5_at, mk_11_at, mk_42_at, mk_O_k, mk_O_0, mk_O_1, mk_O_2, mk_O_3, mk_L_k, mk_L_0, mk_L_1, mk_L_2, mk_L_3, mk_L_4, mk_L_5, mk_L_6, mk_L_7, mk_L_8, mk_L_9, mk_L_10, mk_X_k, mk_X_0, mk_X_1, mk_X_2, mk_X_3, mk_X_4, mk_75_k, mk_573_k, r_1_6, r_73_1, r_73_2, r_716_1, r_716_2, r_716_3, r_715, r_717, r_718, s_O0, s_O1, s_O2, s_O3, s_L0, s_L1, s_L2, s_L3, s_L4, s_L5, s_L6, s_L7, s_L8, s_L9, s_L10, s_X0, s_X1, s_X2, s_X3, s_X4, s_2_4, s_2_5, s_2_6, s_2_7, s_2_8, s_2_9, s_2_10, s_3_1, s_3_2, s_3_3, s_3_4, s_3_5, s_4]
      simp (disch := omega) only [q2] at e1 e3 d1 p1 p3 s6
      simp (disch := omega) only [rk, o1, e1, e3, gu, bz_t, nz_t, cz_T, cz_t, iz_T, iz_F, iz_y, iz_n, not_true_eq_false, not_false_eq_true, true_and, and_true, w32_e, w64_e, mset_e, mset_n, up_e, up_n, if_y, if_n, Int.add_zero, mk_1_m2, mk_1_0, mk_1_1, mk_1_2, mk_1_3, mk_1_4, mk_1_5, mk_1_6, mk_2_m2, mk_2_0, mk_2_1, mk_2_2, mk_2_3, mk_2_4, mk_2_5, mk_2_6, mk_2_7, mk_2_8, mk_2_9, mk_2_10, mk_3_m2, mk_3_0, mk_3_1, mk_3_2, mk_3_3, mk_3_4, mk_3_5, mk_4_m2, mk_4_m1, mk_5_m2, mk_5_m1, mk_11_m2, mk_11_m1, mk_42_m2, mk_42_m1, mk_73_m2, mk_73_0, mk_73_1, mk_73_2, mk_74_m2, mk_74_m1, mk_572_m2, mk_572_m1, mk_715_m2, mk_715_m1, mk_717_m2, mk_717_m1, mk_718_m2, mk_718_m1, mk_716_m2, mk_716_0, mk_716_1, mk_716_2, mk_716_3, mk_716_4, mk_719_m2, mk_74_at, mk_572_at, mk_715_at, mk_717_at, mk_718_at, mk_4_at, mk_5_at, mk_11_at, mk_42_at, mk_O_k, mk_O_0, mk_O_1, mk_O_2, mk_O_3, mk_L_k, mk_L_0, mk_L_1, mk_L_2, mk_L_3, mk_L_4, mk_L_5, mk_L_6, mk_L_7, mk_L_8, mk_L_9, mk_L_10, mk_X_k, mk_X_0, mk_X_1, mk_X_2, mk_X_3, mk_X_4, mk_75_k, mk_573_k, r_1_6, r_73_1, r_73_2, r_716_1, r_716_2, r_716_3, r_715, r_717, r_718, s_O0, s_O1, s_O2, s_O3, s_L0, s_L1, s_L2, s_L3, s_L4, s_L5, s_L6, s_L7, s_L8, s_L9, s_L10, s_X0, s_X1, s_X2, s_X3, s_X4, s_2_4, s_2_5, s_2_6, s_2_7, s_2_8, s_2_9, s_2_10, s_3_1, s_3_2, s_3_3, s_3_4, s_3_5, s_4]
    · have s7 : ¬ (us w o + (s + 1) * w (14 + kd) / 1000) * w 7 / 100 ≤ w (20 + 4 * o + 1) := fun z => s4 ⟨by omega, z⟩
      unfold f_L_owners_b410 f_L_owners_b518 f_L_owners_b523
      simp only [to_bz, to_nz, to_cz, to_iz]
      simp (disch := omega) only [rk, o1, e1, e2, e3, e4, gu, bz_t, nz_t, cz_T, cz_t, iz_T, iz_F, iz_y, iz_n, not_true_eq_false, not_false_eq_true, true_and, and_true, w32_e, w64_e, mset_e, mset_n, up_e, up_n, if_y, if_n, Int.add_zero, mk_1_m2, mk_1_0, mk_1_1, mk_1_2, mk_1_3, mk_1_4, mk_1_5, mk_1_6, mk_2_m2, mk_2_0, mk_2_1, mk_2_2, mk_2_3, mk_2_4, mk_2_5, mk_2_6, mk_2_7, mk_2_8, mk_2_9, mk_2_10, mk_3_m2, mk_3_0, mk_3_1, mk_3_2, mk_3_3, mk_3_4, mk_3_5, mk_4_m2, mk_4_m1, mk_5_m2, mk_5_m1, mk_11_m2, mk_11_m1, mk_42_m2, mk_42_m1, mk_73_m2, mk_73_0, mk_73_1, mk_73_2, mk_74_m2, mk_74_m1, mk_572_m2, mk_572_m1, mk_715_m2, mk_715_m1, mk_717_m2, mk_717_m1, mk_718_m2, mk_718_m1, mk_716_m2, mk_716_0, mk_716_1, mk_716_2, mk_716_3, mk_716_4, mk_719_m2, mk_74_at, mk_572_at, mk_715_at, mk_717_at, mk_718_at, mk_4_at, mk_5_at, mk_11_at, mk_42_at, mk_O_k, mk_O_0, mk_O_1, mk_O_2, mk_O_3, mk_L_k, mk_L_0, mk_L_1, mk_L_2, mk_L_3, mk_L_4, mk_L_5, mk_L_6, mk_L_7, mk_L_8, mk_L_9, mk_L_10, mk_X_k, mk_X_0, mk_X_1, mk_X_2, mk_X_3, mk_X_4, mk_75_k, mk_573_k, r_1_6, r_73_1, r_73_2, r_716_1, r_716_2, r_716_3, r_715, r_717, r_718, s_O0, s_O1, s_O2, s_O3, s_L0, s_L1, s_L2, s_L3, s_L4, s_L5, s_L6, s_L7, s_L8, s_L9, s_L10, s_X0, s_X1, s_X2, s_X3, s_X4, s_2_4, s_2_5, s_2_6, s_2_7, s_2_8, s_2_9, s_2_10, s_3_1, s_3_2, s_3_3, s_3_4, s_3_5, s_4]
  · rw [if_neg q]
    have s1 := q_great_n (N := N) (c := c) m (a := a) hN I z1 z2 q
    refine ⟨-100000005, s1, ?_, by omega, by omega⟩
    unfold f_L_owners_b410 f_L_owners_b523
    simp only [to_bz, to_nz, to_cz, to_iz]
    simp (disch := omega) only [gu, bz_t, nz_t, cz_T, cz_t, iz_T, iz_F, iz_y, iz_n, not_true_eq_false, not_false_eq_true, true_and, and_true, w32_e, w64_e, mset_e, mset_n, up_e, up_n, if_y, if_n, Int.add_zero, mk_1_m2, mk_1_0, mk_1_1, mk_1_2, mk_1_3, mk_1_4, mk_1_5, mk_1_6, mk_2_m2, mk_2_0, mk_2_1, mk_2_2, mk_2_3, mk_2_4, mk_2_5, mk_2_6, mk_2_7, mk_2_8, mk_2_9, mk_2_10, mk_3_m2, mk_3_0, mk_3_1, mk_3_2, mk_3_3, mk_3_4, mk_3_5, mk_4_m2, mk_4_m1, mk_5_m2, mk_5_m1, mk_11_m2, mk_11_m1, mk_42_m2, mk_42_m1, mk_73_m2, mk_73_0, mk_73_1, mk_73_2, mk_74_m2, mk_74_m1, mk_572_m2, mk_572_m1, mk_715_m2, mk_715_m1, mk_717_m2, mk_717_m1, mk_718_m2, mk_718_m1, mk_716_m2, mk_716_0, mk_716_1, mk_716_2, mk_716_3, mk_716_4, mk_719_m2, mk_74_at, mk_572_at, mk_715_at, mk_717_at, mk_718_at, mk_4_at, mk_5_at, mk_11_at, mk_42_at, mk_O_k, mk_O_0, mk_O_1, mk_O_2, mk_O_3, mk_L_k, mk_L_0, mk_L_1, mk_L_2, mk_L_3, mk_L_4, mk_L_5, mk_L_6, mk_L_7, mk_L_8, mk_L_9, mk_L_10, mk_X_k, mk_X_0, mk_X_1, mk_X_2, mk_X_3, mk_X_4, mk_75_k, mk_573_k, r_1_6, r_73_1, r_73_2, r_716_1, r_716_2, r_716_3, r_715, r_717, r_718, s_O0, s_O1, s_O2, s_O3, s_L0, s_L1, s_L2, s_L3, s_L4, s_L5, s_L6, s_L7, s_L8, s_L9, s_L10, s_X0, s_X1, s_X2, s_X3, s_X4, s_2_4, s_2_5, s_2_6, s_2_7, s_2_8, s_2_9, s_2_10, s_3_1, s_3_2, s_3_3, s_3_4, s_3_5, s_4]
theorem sum_us (I : IA K w) : sm (us w) (w 1).toNat = sm (paf w 1) (w 2).toNat := by
  have g := I.hd; unfold HEAD at g
  have h := sm_grp (n := (w 2).toNat) (m := (w 1).toNat) (fun l => w (40 + 11 * l)) (su w) (fun e he _ => by have x := I.lot (l := e) (by omega); unfold LOT at x; omega)
  exact h
theorem l_own8 (hN : 5000 ≤ N) (J : JV K w) {x1 : Int} {cn : Nat} (hc : w 1 = cn) (n : Nat) : ∀ k : Nat, k ≤ cn → cn < n + k →
    f_L_owners_b8 N n 1 x1 (sm (caf w) k) (sm (us w) k) k (mk w c m a) = some (1, mk w c m a) := by
  have I := J.1.1
  have g := I.hd; unfold HEAD at g
  induction n with
  | zero => intro k h1 h2; omega
  | succ n ih =>
    intro k h1 h2
    rw [f_L_owners_b8]
    have c1 := q_count_1 (N := N) (c := c) m (a := a) I
    by_cases e : k = cn
    · subst e
      have a4 := q_account_4 (N := N) (c := c) m (a := a) hN I
      have a1 := q_account_1 (N := N) (c := c) m (a := a) hN I
      rw [← sum_us I] at a1
      replace a4 : f_X7_account N 1 4 (mk w c m a) = some (sm (caf w) (w 1).toNat, mk w c m a) := a4
      rw [show (w 1).toNat = k by omega] at a1 a4
      have ou := q_owner_u (N := N) (c := c) m (a := a) I (o := w 1) (x := 0) (by omega)
      have c13 := q_count_13 (N := N) (c := c) m (a := a) (w := w)
      have r6 := q_rate_6 (N := N) (c := c) m (a := a) (w := w)
      by_cases z : w 1 = 0
      · simp only [to_bz, to_nz, to_cz, to_iz]
        simp (disch := omega) only [c1, a4, a1, ou, c13, r6, bz_t, nz_t, cz_T, cz_t, iz_T, iz_F, iz_y, iz_n, not_true_eq_false, not_false_eq_true, true_and, and_true, w32_e, w64_e, mset_e, mset_n, up_e, up_n, if_y, if_n, Int.add_zero, mk_1_m2, mk_1_0, mk_1_1, mk_1_2, mk_1_3, mk_1_4, mk_1_5, mk_1_6, mk_2_m2, mk_2_0, mk_2_1, mk_2_2, mk_2_3, mk_2_4, mk_2_5, mk_2_6, mk_2_7, mk_2_8, mk_2_9, mk_2_10, mk_3_m2, mk_3_0, mk_3_1, mk_3_2, mk_3_3, mk_3_4, mk_3_5, mk_4_m2, mk_4_m1, mk_5_m2, mk_5_m1, mk_11_m2, mk_11_m1, mk_42_m2, mk_42_m1, mk_73_m2, mk_73_0, mk_73_1, mk_73_2, mk_74_m2, mk_74_m1, mk_572_m2, mk_572_m1, mk_715_m2, mk_715_m1, mk_717_m2, mk_717_m1, mk_718_m2, mk_718_m1, mk_716_m2, mk_716_0, mk_716_1, mk_716_2, mk_716_3, mk_716_4, mk_719_m2, mk_74_at, mk_572_at, mk_715_at, mk_717_at, mk_718_at, mk_4_at, mk_5_at, mk_11_at, mk_42_at, mk_O_k, mk_O_0, mk_O_1, mk_O_2, mk_O_3, mk_L_k, mk_L_0, mk_L_1, mk_L_2, mk_L_3, mk_L_4, mk_L_5, mk_L_6, mk_L_7, mk_L_8, mk_L_9, mk_L_10, mk_X_k, mk_X_0, mk_X_1, mk_X_2, mk_X_3, mk_X_4, mk_75_k, mk_573_k, r_1_6, r_73_1, r_73_2, r_716_1, r_716_2, r_716_3, r_715, r_717, r_718, s_O0, s_O1, s_O2, s_O3, s_L0, s_L1, s_L2, s_L3, s_L4, s_L5, s_L6, s_L7, s_L8, s_L9, s_L10, s_X0, s_X1, s_X2, s_X3, s_X4, s_2_4, s_2_5, s_2_6, s_2_7, s_2_8, s_2_9, s_2_10, s_3_1, s_3_2, s_3_3, s_3_4, s_3_5, s_4]
      · have lb := lw_b x1 (n := w 1) (by omega)
        have lb2 := lw_b (o_shr x1 3) (n := 6) (by omega)
        have lq := q_low (N := N) (g := x1) (n := w 1) (by omega)
        have lq2 := q_low (N := N) (g := o_shr x1 3) (n := 6) (by omega)
        generalize lw x1 (w 1) = o at *
        generalize lw (o_shr x1 3) 6 = kd at *
        have z1 : 0 ≤ o ∧ o < w 1 := lb
        obtain ⟨s, s1, s2, s3, s4⟩ := l_own_g (N := N) (c := c) m (a := a) hN J z1 (kd := kd) (by omega)
        have t := I.usT o
        have ow := I.own (o := o) (by omega); unfold OWN at ow
        have c8 := q_count_8 (N := N) (c := c) m (a := a) I
        have o1 := q_owner_1 (N := N) (c := c) m (a := a) I z1
        have o3 := q_owner_3 (N := N) (c := c) m (a := a) hN I z1
        have p1 := mul_le t (show 0 ≤ w 7 ∧ w 7 ≤ 100 by omega)
        have e1 : Int.tdiv (us w o * w 7) 100 = us w o * w 7 / 100 := Int.tdiv_eq_ediv_of_nonneg p1.1
        by_cases q : us w o * w 7 / 100 ≤ w (20 + 4 * o + 1)
        · rw [if_pos q] at s2
          simp only [to_bz, to_nz, to_cz, to_iz]
          simp (disch := omega) only [c1, a4, a1, ou, c13, r6, lq, lq2, c8, o1, o3, e1, s1, s2, bz_t, nz_t, cz_T, cz_t, iz_T, iz_F, iz_y, iz_n, not_true_eq_false, not_false_eq_true, true_and, and_true, w32_e, w64_e, mset_e, mset_n, up_e, up_n, if_y, if_n, Int.add_zero, mk_1_m2, mk_1_0, mk_1_1, mk_1_2, mk_1_3, mk_1_4, mk_1_5, mk_1_6, mk_2_m2, mk_2_0, mk_2_1, mk_2_2, mk_2_3, mk_2_4, mk_2_5, mk_2_6, mk_2_7, mk_2_8, mk_2_9, mk_2_10, mk_3_m2, mk_3_0, mk_3_1, mk_3_2, mk_3_3, mk_3_4, mk_3_5, mk_4_m2, mk_4_m1, mk_5_m2, mk_5_m1, mk_11_m2, mk_11_m1, mk_42_m2, mk_42_m1, mk_73_m2, mk_73_0, mk_73_1, mk_73_2, mk_74_m2, mk_74_m1, mk_572_m2, mk_572_m1, mk_715_m2, mk_715_m1, mk_717_m2, mk_717_m1, mk_718_m2, mk_718_m1, mk_716_m2, mk_716_0, mk_716_1, mk_716_2, mk_716_3, mk_716_4, mk_719_m2, mk_74_at, mk_572_at, mk_715_at, mk_717_at, mk_718_at, mk_4_at, mk_5_at, mk_11_at, mk_42_at, mk_O_k, mk_O_0, mk_O_1, mk_O_2, mk_O_3, mk_L_k, mk_L_0, mk_L_1, mk_L_2, mk_L_3, mk_L_4, mk_L_5, mk_L_6, mk_L_7, mk_L_8, mk_L_9, mk_L_10, mk_X_k, mk_X_0, mk_X_1, mk_X_2, mk_X_3, mk_X_4, mk_75_k, mk_573_k, r_1_6, r_73_1, r_73_2, r_716_1, r_716_2, r_716_3, r_715, r_717, r_718, s_O0, s_O1, s_O2, s_O3, s_L0, s_L1, s_L2, s_L3, s_L4, s_L5, s_L6, s_L7, s_L8, s_L9, s_L10, s_X0, s_X1, s_X2, s_X3, s_X4, s_2_4, s_2_5, s_2_6, s_2_7, s_2_8, s_2_9, s_2_10, s_3_1, s_3_2, s_3_3, s_3_4, s_3_5, s_4]
        · rw [if_neg q] at s2
          simp only [to_bz, to_nz, to_cz, to_iz]
          simp (disch := omega) only [c1, a4, a1, ou, c13, r6, lq, lq2, c8, o1, o3, e1, s1, s2, bz_t, nz_t, cz_T, cz_t, iz_T, iz_F, iz_y, iz_n, not_true_eq_false, not_false_eq_true, true_and, and_true, w32_e, w64_e, mset_e, mset_n, up_e, up_n, if_y, if_n, Int.add_zero, mk_1_m2, mk_1_0, mk_1_1, mk_1_2, mk_1_3, mk_1_4, mk_1_5, mk_1_6, mk_2_m2, mk_2_0, mk_2_1, mk_2_2, mk_2_3, mk_2_4, mk_2_5, mk_2_6, mk_2_7, mk_2_8, mk_2_9, mk_2_10, mk_3_m2, mk_3_0, mk_3_1, mk_3_2, mk_3_3, mk_3_4, mk_3_5, mk_4_m2, mk_4_m1, mk_5_m2, mk_5_m1, mk_11_m2, mk_11_m1, mk_42_m2, mk_42_m1, mk_73_m2, mk_73_0, mk_73_1, mk_73_2, mk_74_m2, mk_74_m1, mk_572_m2, mk_572_m1, mk_715_m2, mk_715_m1, mk_717_m2, mk_717_m1, mk_718_m2, mk_718_m1, mk_716_m2, mk_716_0, mk_716_1, mk_716_2, mk_716_3, mk_716_4, mk_719_m2, mk_74_at, mk_572_at, mk_715_at, mk_717_at, mk_718_at, mk_4_at, mk_5_at, mk_11_at, mk_42_at, mk_O_k, mk_O_0, mk_O_1, mk_O_2, mk_O_3, mk_L_k, mk_L_0, mk_L_1, mk_L_2, mk_L_3, mk_L_4, mk_L_5, mk_L_6, mk_L_7, mk_L_8, mk_L_9, mk_L_10, mk_X_k, mk_X_0, mk_X_1, mk_X_2, mk_X_3, mk_X_4, mk_75_k, mk_573_k, r_1_6, r_73_1, r_73_2, r_716_1, r_716_2, r_716_3, r_715, r_717, r_718, s_O0, s_O1, s_O2, s_O3, s_L0, s_L1, s_L2, s_L3, s_L4, s_L5, s_L6, s_L7, s_L8, s_L9, s_L10, s_X0, s_X1, s_X2, s_X3, s_X4, s_2_4, s_2_5, s_2_6, s_2_7, s_2_8, s_2_9, s_2_10, s_3_1, s_3_2, s_3_3, s_3_4, s_3_5, s_4]
    · have r := ih (k + 1) (by omega) (by omega)
      have hk : 0 ≤ (k : Int) ∧ (k : Int) < w 1 := by omega
      have s1 := sm_b (f := caf w) (M := 300000000) (n := 5) (fun i hi => by have x := I.own (o := i) (by omega); unfold OWN at x; unfold caf; omega) (k := k) (by omega)
      have s2 := sm_b (f := us w) (M := 300000000) (n := 5) (fun i hi => I.usT i) (k := k) (by omega)
      rw [show sm (caf w) (k + 1) = sm (caf w) k + caf w k from rfl, show sm (us w) (k + 1) = sm (us w) k + us w k from rfl, nc1] at r
      generalize sm (caf w) k = y1 at *
      generalize sm (us w) k = y2 at *
      have i := l_own27 (N := N) (c := c) m (a := a) hN J (f_L_owners_b8 N n) (x1 := x1) (x2 := y1) (x4 := y2) hk (by omega) (by omega) (cn := (w 2).toNat) (by omega) N 0 (by omega) (by omega)
      rw [show ((0 : Nat) : Int) = 0 from rfl, show sm (stf w (k : Int)) 0 = 0 from rfl, show sm (usf w (k : Int)) 0 = 0 from rfl] at i
      simp only [to_bz, to_nz, to_cz, to_iz]
      simp (disch := omega) only [c1, i, bz_t, nz_t, cz_T, cz_t, iz_T, iz_F, iz_y, iz_n, not_true_eq_false, not_false_eq_true, true_and, and_true, w32_e, w64_e, mset_e, mset_n, up_e, up_n, if_y, if_n, Int.add_zero, mk_1_m2, mk_1_0, mk_1_1, mk_1_2, mk_1_3, mk_1_4, mk_1_5, mk_1_6, mk_2_m2, mk_2_0, mk_2_1, mk_2_2, mk_2_3, mk_2_4, mk_2_5, mk_2_6, mk_2_7, mk_2_8, mk_2_9, mk_2_10, mk_3_m2, mk_3_0, mk_3_1, mk_3_2, mk_3_3, mk_3_4, mk_3_5, mk_4_m2, mk_4_m1, mk_5_m2, mk_5_m1, mk_11_m2, mk_11_m1, mk_42_m2, mk_42_m1, mk_73_m2, mk_73_0, mk_73_1, mk_73_2, mk_74_m2, mk_74_m1, mk_572_m2, mk_572_m1, mk_715_m2, mk_715_m1, mk_717_m2, mk_717_m1, mk_718_m2, mk_718_m1, mk_716_m2, mk_716_0, mk_716_1, mk_716_2, mk_716_3, mk_716_4, mk_719_m2, mk_74_at, mk_572_at, mk_715_at, mk_717_at, mk_718_at, mk_4_at, mk_5_at, mk_11_at, mk_42_at, mk_O_k, mk_O_0, mk_O_1, mk_O_2, mk_O_3, mk_L_k, mk_L_0, mk_L_1, mk_L_2, mk_L_3, mk_L_4, mk_L_5, mk_L_6, mk_L_7, mk_L_8, mk_L_9, mk_L_10, mk_X_k, mk_X_0, mk_X_1, mk_X_2, mk_X_3, mk_X_4, mk_75_k, mk_573_k, r_1_6, r_73_1, r_73_2, r_716_1, r_716_2, r_716_3, r_715, r_717, r_718, s_O0, s_O1, s_O2, s_O3, s_L0, s_L1, s_L2, s_L3, s_L4, s_L5, s_L6, s_L7, s_L8, s_L9, s_L10, s_X0, s_X1, s_X2, s_X3, s_X4, s_2_4, s_2_5, s_2_6, s_2_7, s_2_8, s_2_9, s_2_10, s_3_1, s_3_2, s_3_3, s_3_4, s_3_5, s_4]
      exact r
theorem q_owners (hN : 5000 ≤ N) (J : JV K w) (x : Int) : f_L_owners N 1 x (mk w c m a) = some (1, mk w c m a) := by
  have g := J.1.1.hd; unfold HEAD at g
  exact l_own8 (N := N) (c := c) m (a := a) hN J (x1 := x) (cn := (w 1).toNat) (by omega) N 0 (by omega) (by omega)
end OWNS
