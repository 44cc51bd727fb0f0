/-! what there is -/
def stf (w : Int → Int) (o l : Int) : Int := if w (40 + 11 * l) = o ∧ 0 < un w l then 1 else 0
section ASK1
variable {N : Nat} {c : Int → Int → Int} {a : Mm} {w : Int → Int} {K : Int}
theorem l_stX (v : Int → Int) (I : IA K w) {o : Int} {cnt : Nat} (hc : w 2 = cnt) (n : Nat) : ∀ k : Nat, k ≤ cnt → cnt < n + k →
    f_X6_storedLotsOf_b4 N n 2 o (sm (stf w o) k) k (mk w c v a) = some (sm (stf w o) cnt, mk w c v a) := by
  have g := I.hd; unfold HEAD at g
  induction n with
  | zero => intro k h1 h2; omega
  | succ n ih =>
    intro k h1 h2
    have sb := sm_b (f := stf w o) (M := 1) (n := cnt) (fun i _ => by unfold stf; split <;> omega) (k := k) h1
    rw [f_X6_storedLotsOf_b4]
    by_cases e : k = cnt
    · subst e
      simp only [to_bz, to_nz, to_cz, to_iz]
      simp (disch := omega) only [bz_t, nz_t, cz_T, cz_t, iz_T, iz_F, iz_y, iz_n, not_true_eq_false, not_false_eq_true, true_and, and_true, w32_e, w64_e, mset_e, mset_n, up_e, up_n, if_y, if_n, Int.add_zero, mk_1_m2, mk_1_0, mk_1_1, mk_1_2, mk_1_3, mk_1_4, mk_1_5, mk_1_6, mk_2_m2, mk_2_0, mk_2_1, mk_2_2, mk_2_3, mk_2_4, mk_2_5, mk_2_6, mk_2_7, mk_2_8, mk_2_9, mk_2_10, mk_3_m2, mk_3_0, mk_3_1, mk_3_2, mk_3_3, mk_3_4, mk_3_5, mk_4_m2, mk_4_m1, mk_5_m2, mk_5_m1, mk_11_m2, mk_11_m1, mk_42_m2, mk_42_m1, mk_73_m2, mk_73_0, mk_73_1, mk_73_2, mk_74_m2, mk_74_m1, mk_572_m2, mk_572_m1, mk_715_m2, mk_715_m1, mk_717_m2, mk_717_m1, mk_718_m2, mk_718_m1, mk_716_m2, mk_716_0, mk_716_1, mk_716_2, mk_716_3, mk_716_4, mk_719_m2, mk_74_at, mk_572_at, mk_715_at, mk_717_at, mk_718_at, mk_4_at, mk_5_at, mk_11_at, mk_42_at, mk_O_k, mk_O_0, mk_O_1, mk_O_2, mk_O_3, mk_L_k, mk_L_0, mk_L_1, mk_L_2, mk_L_3, mk_L_4, mk_L_5, mk_L_6, mk_L_7, mk_L_8, mk_L_9, mk_L_10, mk_X_k, mk_X_0, mk_X_1, mk_X_2, mk_X_3, mk_X_4, mk_75_k, mk_573_k, r_1_6, r_73_1, r_73_2, r_716_1, r_716_2, r_716_3, r_715, r_717, r_718, s_O0, s_O1, s_O2, s_O3, s_L0, s_L1, s_L2, s_L3, s_L4, s_L5, s_L6, s_L7, s_L8, s_L9, s_L10, s_X0, s_X1, s_X2, s_X3, s_X4, s_2_4, s_2_5, s_2_6, s_2_7, s_2_8, s_2_9, s_2_10, s_3_1, s_3_2, s_3_3, s_3_4, s_3_5, s_4]
    · have r := ih (k + 1) (by omega) (by omega)
      rw [show sm (stf w o) (k + 1) = sm (stf w o) k + stf w o k from rfl, nc1] at r
      unfold stf un at r
      by_cases q1 : w (40 + 11 * (k : Int)) = o
      · by_cases q2 : 0 < w (40 + 11 * (k : Int) + 2) - w (40 + 11 * (k : Int) + 7)
        · rw [if_pos ⟨q1, q2⟩] at r
          simp only [to_bz, to_nz, to_cz, to_iz]
          simp (disch := omega) only [bz_t, nz_t, cz_T, cz_t, iz_T, iz_F, iz_y, iz_n, not_true_eq_false, not_false_eq_true, true_and, and_true, w32_e, w64_e, mset_e, mset_n, up_e, up_n, if_y, if_n, Int.add_zero, mk_1_m2, mk_1_0, mk_1_1, mk_1_2, mk_1_3, mk_1_4, mk_1_5, mk_1_6, mk_2_m2, mk_2_0, mk_2_1, mk_2_2, mk_2_3, mk_2_4, mk_2_5, mk_2_6, mk_2_7, mk_2_8, mk_2_9, mk_2_10, mk_3_m2, mk_3_0, mk_3_1, mk_3_2, mk_3_3, mk_3_4, mk_3_5, mk_4_m2, mk_4_m1, mk_5_m2, mk_5_m1, mk_11_m2, mk_11_m1, mk_42_m2, mk_42_m1, mk_73_m2, mk_73_0, mk_73_1, mk_73_2, mk_74_m2, mk_74_m1, mk_572_m2, mk_572_m1, mk_715_m2, mk_715_m1, mk_717_m2, mk_717_m1, mk_718_m2, mk_718_m1, mk_716_m2, mk_716_0, mk_716_1, mk_716_2, mk_716_3, mk_716_4, mk_719_m2, mk_74_at, mk_572_at, mk_715_at, mk_717_at, mk_718_at, mk_4_at, mk_5_at, mk_11_at, mk_42_at, mk_O_k, mk_O_0, mk_O_1, mk_O_2, mk_O_3, mk_L_k, mk_L_0, mk_L_1, mk_L_2, mk_L_3, mk_L_4, mk_L_5, mk_L_6, mk_L_7, mk_L_8, mk_L_9, mk_L_10, mk_X_k, mk_X_0, mk_X_1, mk_X_2, mk_X_3, mk_X_4, mk_75_k, mk_573_k, r_1_6, r_73_1, r_73_2, r_716_1, r_716_2, r_716_3, r_715, r_717, r_718, s_O0, s_O1, s_O2, s_O3, s_L0, s_L1, s_L2, s_L3, s_L4, s_L5, s_L6, s_L7, s_L8, s_L9, s_L10, s_X0, s_X1, s_X2, s_X3, s_X4, s_2_4, s_2_5, s_2_6, s_2_7, s_2_8, s_2_9, s_2_10, s_3_1, s_3_2, s_3_3, s_3_4, s_3_5, s_4]
          exact r
        · rw [if_neg (fun z => q2 z.2), Int.add_zero] at r
          simp only [to_bz, to_nz, to_cz, to_iz]
          simp (disch := omega) only [bz_t, nz_t, cz_T, cz_t, iz_T, iz_F, iz_y, iz_n, not_true_eq_false, not_false_eq_true, true_and, and_true, w32_e, w64_e, mset_e, mset_n, up_e, up_n, if_y, if_n, Int.add_zero, mk_1_m2, mk_1_0, mk_1_1, mk_1_2, mk_1_3, mk_1_4, mk_1_5, mk_1_6, mk_2_m2, mk_2_0, mk_2_1, mk_2_2, mk_2_3, mk_2_4, mk_2_5, mk_2_6, mk_2_7, mk_2_8, mk_2_9, mk_2_10, mk_3_m2, mk_3_0, mk_3_1, mk_3_2, mk_3_3, mk_3_4, mk_3_5, mk_4_m2, mk_4_m1, mk_5_m2, mk_5_m1, mk_11_m2, mk_11_m1, mk_42_m2, mk_42_m1, mk_73_m2, mk_73_0, mk_73_1, mk_73_2, mk_74_m2, mk_74_m1, mk_572_m2, mk_572_m1, mk_715_m2, mk_715_m1, mk_717_m2, mk_717_m1, mk_718_m2, mk_718_m1, mk_716_m2, mk_716_0, mk_716_1, mk_716_2, mk_716_3, mk_716_4, mk_719_m2, mk_74_at, mk_572_at, mk_715_at, mk_717_at, mk_718_at, mk_4_at, mk_5_at, mk_11_at, mk_42_at, mk_O_k, mk_O_0, mk_O_1, mk_O_2, mk_O_3, mk_L_k, mk_L_0, mk_L_1, mk_L_2, mk_L_3, mk_L_4, mk_L_5, mk_L_6, mk_L_7, mk_L_8, mk_L_9, mk_L_10, mk_X_k, mk_X_0, mk_X_1, mk_X_2, mk_X_3, mk_X_4, mk_75_k, mk_573_k, r_1_6, r_73_1, r_73_2, r_716_1, r_716_2, r_716_3, r_715, r_717, r_718, s_O0, s_O1, s_O2, s_O3, s_L0, s_L1, s_L2, s_L3, s_L4, s_L5, s_L6, s_L7, s_L8, s_L9, s_L10, s_X0, s_X1, s_X2, s_X3, s_X4, s_2_4, s_2_5, s_2_6, s_2_7, s_2_8, s_2_9, s_2_10, s_3_1, s_3_2, s_3_3, s_3_4, s_3_5, s_4]
          exact r
      · rw [if_neg (fun z => q1 z.1), Int.add_zero] at r
        simp only [to_bz, to_nz, to_cz, to_iz]
        simp (disch := omega) only [bz_t, nz_t, cz_T, cz_t, iz_T, iz_F, iz_y, iz_n, not_true_eq_false, not_false_eq_true, true_and, and_true, w32_e, w64_e, mset_e, mset_n, up_e, up_n, if_y, if_n, Int.add_zero, mk_1_m2, mk_1_0, mk_1_1, mk_1_2, mk_1_3, mk_1_4, mk_1_5, mk_1_6, mk_2_m2, mk_2_0, mk_2_1, mk_2_2, mk_2_3, mk_2_4, mk_2_5, mk_2_6, mk_2_7, mk_2_8, mk_2_9, mk_2_10, mk_3_m2, mk_3_0, mk_3_1, mk_3_2, mk_3_3, mk_3_4, mk_3_5, mk_4_m2, mk_4_m1, mk_5_m2, mk_5_m1, mk_11_m2, mk_11_m1, mk_42_m2, mk_42_m1, mk_73_m2, mk_73_0, mk_73_1, mk_73_2, mk_74_m2, mk_74_m1, mk_572_m2, mk_572_m1, mk_715_m2, mk_715_m1, mk_717_m2, mk_717_m1, mk_718_m2, mk_718_m1, mk_716_m2, mk_716_0, mk_716_1, mk_716_2, mk_716_3, mk_716_4, mk_719_m2, mk_74_at, mk_572_at, mk_715_at, mk_717_at, mk_718_at, mk_4_at, mk_5_at, mk_11_at, mk_42_at, mk_O_k, mk_O_0, mk_O_1, mk_O_2, mk_O_3, mk_L_k, mk_L_0, mk_L_1, mk_L_2, mk_L_3, mk_L_4, mk_L_5, mk_L_6, mk_L_7, mk_L_8, mk_L_9, mk_L_10, mk_X_k, mk_X_0, mk_X_1, mk_X_2, mk_X_3, mk_X_4, mk_75_k, mk_573_k, r_1_6, r_73_1, r_73_2, r_716_1, r_716_2, r_716_3, r_715, r_717, r_718, s_O0, s_O1, s_O2, s_O3, s_L0, s_L1, s_L2, s_L3, s_L4, s_L5, s_L6, s_L7, s_L8, s_L9, s_L10, s_X0, s_X1, s_X2, s_X3, s_X4, s_2_4, s_2_5, s_2_6, s_2_7, s_2_8, s_2_9, s_2_10, s_3_1, s_3_2, s_3_3, s_3_4, s_3_5, s_4]
        exact r
end ASK1
