section ORD2
variable {N : Nat} {c : Int → Int → Int} (m : Int → Int) {a a0 : Mm} {w : Int → Int} {K K' : Int}
theorem yGi_c (w : Int → Int) (l o : Int) : yGi w l o = -1 ∨ yGi w l o = -2 ∨ (0 ≤ yGi w l o ∧ yGi w l o ≤ 6) := by unfold yGi; (repeat' split) <;> omega
theorem yPr_c (w : Int → Int) (e : Int) : yPr w e = -1 ∨ yPr w e = -2 ∨ (0 ≤ yPr w e ∧ yPr w e ≤ 6) := by unfold yPr; (repeat' split) <;> omega
theorem l_or_g (hN : 5000 ≤ N) (hK : K + 30 ≤ 60000) (S : zST K w c a) {l o n : Int} (hl : 0 ≤ l ∧ l ≤ 29) (ho : 0 ≤ o ∧ o ≤ 4) (hn : 1 ≤ n ∧ n ≤ 60) : nO (K + 4) (f_L_orders_b37 N 1 l o n 1 (mk w c m a)) c m a := by
  obtain ⟨e0, P0⟩ := tp_clear (N := N) m S
  obtain ⟨a0, f0, P0⟩ := tp_fault (N := N) m hN P0 (L := 0) rfl (fF_L (end_o (by omega)) (by omega)) (by omega)
  obtain ⟨a1, e1, P1⟩ := tp_type (N := N) m P0 (L := 0) rfl (by omega) (x := 103) (by omega)
  obtain ⟨a2, e2, P2⟩ := tp_type (N := N) m P1 (L := 1) rfl (by omega) (x := 105) (by omega)
  obtain ⟨a3, e3, P3⟩ := tp_type (N := N) m P2 (L := 2) rfl (by omega) (x := 118) (by omega)
  obtain ⟨a4, e4, P4⟩ := tp_type (N := N) m P3 (L := 3) rfl (by omega) (x := 101) (by omega)
  obtain ⟨a5, e5, P5⟩ := tp_type (N := N) m P4 (L := 4) rfl (by omega) (x := 32) (by omega)
  replace P5 : TP K w c a [103, 105, 118, 101, 32] a5 := P5
  obtain ⟨a6, e6, P6⟩ := tp_fault (N := N) m hN P5 (L := 5) rfl give_1 (by omega)
  obtain ⟨r7, a7, e7, P7⟩ := tp_digits (N := N) m hN P6 (L := 5) rfl (by omega) (v := l) (by omega)
  have d1 := dgs_12 l
  have d2 := dgs_12 o
  obtain ⟨a8, e8, P8⟩ := tp_type (N := N) m P7 (L := 5 + (dgs l).length) (by rw [List.length_append]; show ((5 + (dgs l).length : Nat) : Int) = _; omega) (by omega) (x := 32) (by omega)
  obtain ⟨r9, a9, e9, P9⟩ := tp_digits (N := N) m hN P8 (L := 5 + (dgs l).length + 1) (by rw [List.length_append, List.length_append]; show ((5 + (dgs l).length + 1 : Nat) : Int) = _; omega) (by omega) (v := o) (by omega)
  replace P9 : TP K w c a (gX l o []) a9 := by
    have z : [103, 105, 118, 101, 32] ++ dgs l ++ [32] ++ dgs o = gX l o [] := by unfold gX; simp only [List.append_assoc, List.append_nil]
    rwa [z] at P9
  have gl := gX_l l o []
  rw [List.length_nil] at gl
  obtain ⟨w', c', a', e, r⟩ := l_or182 (N := N) m hN hK (x3 := l) (x4 := o) (x6 := 1) (XS := gX l o) (y := yGi w l o) (u := dGi w l o) P9 hn (gX_app l o) (by omega) (fun L hL => give_2 hl ho hL)
    (fun L hL => ⟨(give_3 hl ho hn hL).1, (give_3 hl ho hn hL).2 w⟩) (yGi_c w l o) (fun y0 K J hK => JV_Gi J hK y0) (call := f_X7_give N 1 l o) (Or.inr ⟨rfl, rfl⟩)
    (fun y0 K c b S => ⟨_, gi_good m hN S y0⟩) (fun y0 K c b S => gi_bad m hN S rfl y0)
  refine ⟨w', c', a', ?_, r⟩
  rw [show (-100 : Int) - 0 = -100 from rfl] at f0
  rw [show (-100 : Int) - 5 = -105 from rfl] at e6
  rw [show (0 : Int) + 1 = 1 from rfl] at e1
  rw [show (1 : Int) + 1 = 2 from rfl] at e2
  rw [show (2 : Int) + 1 = 3 from rfl] at e3
  rw [show (3 : Int) + 1 = 4 from rfl] at e4
  rw [show (4 : Int) + 1 = 5 from rfl] at e5
  unfold f_L_orders_b37 f_L_orders_b68 f_L_orders_b85 f_L_orders_b102 f_L_orders_b119 f_L_orders_b135
  simp only [to_bz, to_nz, to_cz, to_iz]
  simp (disch := omega) only [e0, f0, e1, e2, e3, e4, e5, e6, e7, e8, e9, e, show (-100 : Int) - 5 = -105 from rfl, bz_t, nz_t, cz_T, cz_t, iz_T, iz_F, iz_y, iz_n, not_true_eq_false, not_false_eq_true, true_and, and_true, w32_e, w64_e, mset_e, mset_n, up_e, up_n, if_y, if_n, Int.add_zero, mk_1_m2, mk_1_0, mk_1_1, mk_1_2, mk_1_3, mk_1_4, mk_1_5, mk_1_6, mk_2_m2, mk_2_0, mk_2_1, mk_2_2, mk_2_3, mk_2_4, mk_2_5, mk_2_6, mk_2_7, mk_2_8, mk_2_9, mk_2_10, mk_3_m2, mk_3_0, mk_3_1, mk_3_2, mk_3_3, mk_3_4, mk_3_5, mk_4_m2, mk_4_m1, mk_5_m2, mk_5_m1, mk_11_m2, mk_11_m1, mk_42_m2, mk_42_m1, mk_73_m2, mk_73_0, mk_73_1, mk_73_2, mk_74_m2, mk_74_m1, mk_572_m2, mk_572_m1, mk_715_m2, mk_715_m1, mk_717_m2, mk_717_m1, mk_718_m2, mk_718_m1, mk_716_m2, mk_716_0, mk_716_1, mk_716_2, mk_716_3, mk_716_4, mk_719_m2, mk_74_at, mk_572_at, mk_715_at, mk_717_at, mk_718_at, mk_4_at, mk_5_at, mk_11_at, mk_42_at, mk_O_k, mk_O_0, mk_O_1, mk_O_2, mk_O_3, mk_L_k, mk_L_0, mk_L_1, mk_L_2, mk_L_3, mk_L_4, mk_L_5, mk_L_6, mk_L_7, mk_L_8, mk_L_9, mk_L_10, mk_X_k, mk_X_0, mk_X_1, mk_X_2, mk_X_3, mk_X_4, mk_75_k, mk_573_k, r_1_6, r_73_1, r_73_2, r_716_1, r_716_2, r_716_3, r_715, r_717, r_718, s_O0, s_O1, s_O2, s_O3, s_L0, s_L1, s_L2, s_L3, s_L4, s_L5, s_L6, s_L7, s_L8, s_L9, s_L10, s_X0, s_X1, s_X2, s_X3, s_X4, s_2_4, s_2_5, s_2_6, s_2_7, s_2_8, s_2_9, s_2_10, s_3_1, s_3_2, s_3_3, s_3_4, s_3_5, s_4]
theorem l_or_p (hN : 5000 ≤ N) (hK : K + 30 ≤ 60000) (S : zST K w c a) {l o n : Int} (hl : 0 ≤ l ∧ l ≤ 29) (hn : 1 ≤ n ∧ n ≤ 60) : nO (K + 4) (f_L_orders_b37 N 1 l o n 0 (mk w c m a)) c m a := by
  obtain ⟨e0, P0⟩ := tp_clear (N := N) m S
  obtain ⟨a0, f0, P0⟩ := tp_fault (N := N) m hN P0 (L := 0) rfl (fF_L (end_o (by omega)) (by omega)) (by omega)
  obtain ⟨a1, e1, P1⟩ := tp_type (N := N) m P0 (L := 0) rfl (by omega) (x := 112) (by omega)
  obtain ⟨a2, e2, P2⟩ := tp_type (N := N) m P1 (L := 1) rfl (by omega) (x := 114) (by omega)
  obtain ⟨a3, e3, P3⟩ := tp_type (N := N) m P2 (L := 2) rfl (by omega) (x := 111) (by omega)
  obtain ⟨a4, e4, P4⟩ := tp_type (N := N) m P3 (L := 3) rfl (by omega) (x := 118) (by omega)
  obtain ⟨a5, e5, P5⟩ := tp_type (N := N) m P4 (L := 4) rfl (by omega) (x := 101) (by omega)
  obtain ⟨a6, e6, P6⟩ := tp_type (N := N) m P5 (L := 5) rfl (by omega) (x := 32) (by omega)
  replace P6 : TP K w c a [112, 114, 111, 118, 101, 32] a6 := P6
  obtain ⟨a7, e7, P7⟩ := tp_fault (N := N) m hN P6 (L := 6) rfl prove_1 (by omega)
  obtain ⟨r8, a8, e8, P8⟩ := tp_digits (N := N) m hN P7 (L := 6) rfl (by omega) (v := l) (by omega)
  have d1 := dgs_12 l
  replace P8 : TP K w c a (pX l []) a8 := by
    have z : [112, 114, 111, 118, 101, 32] ++ dgs l = pX l [] := by unfold pX; simp only [List.append_nil]
    rwa [z] at P8
  have gl := pX_l l []
  rw [List.length_nil] at gl
  obtain ⟨w', c', a', e, r⟩ := l_or182 (N := N) m hN hK (x3 := l) (x4 := o) (x6 := 0) (XS := pX l) (y := yPr w l) (u := dPr w l) P8 hn (pX_app l) (by omega) (fun L hL => prove_2 hl hL)
    (fun L hL => ⟨(prove_3 hl hn hL).1, (prove_3 hl hn hL).2 w⟩) (yPr_c w l) (fun y0 K J hK => JV_Pr J hK y0) (call := f_X7_prove N 1 l) (Or.inl ⟨rfl, rfl⟩)
    (fun y0 K c b S => ⟨_, pr_good m hN S y0⟩) (fun y0 K c b S => pr_bad m hN S rfl y0)
  refine ⟨w', c', a', ?_, r⟩
  rw [show (-100 : Int) - 0 = -100 from rfl] at f0
  rw [show (-100 : Int) - 6 = -106 from rfl] at e7
  rw [show (0 : Int) + 1 = 1 from rfl] at e1
  rw [show (1 : Int) + 1 = 2 from rfl] at e2
  rw [show (2 : Int) + 1 = 3 from rfl] at e3
  rw [show (3 : Int) + 1 = 4 from rfl] at e4
  rw [show (4 : Int) + 1 = 5 from rfl] at e5
  rw [show (5 : Int) + 1 = 6 from rfl] at e6
  unfold f_L_orders_b37 f_L_orders_b68 f_L_orders_b85 f_L_orders_b102 f_L_orders_b119 f_L_orders_b135
  simp only [to_bz, to_nz, to_cz, to_iz]
  simp (disch := omega) only [e0, f0, e1, e2, e3, e4, e5, e6, e7, e8, e, show (-100 : Int) - 6 = -106 from rfl, bz_t, nz_t, cz_T, cz_t, iz_T, iz_F, iz_y, iz_n, not_true_eq_false, not_false_eq_true, true_and, and_true, w32_e, w64_e, mset_e, mset_n, up_e, up_n, if_y, if_n, Int.add_zero, mk_1_m2, mk_1_0, mk_1_1, mk_1_2, mk_1_3, mk_1_4, mk_1_5, mk_1_6, mk_2_m2, mk_2_0, mk_2_1, mk_2_2, mk_2_3, mk_2_4, mk_2_5, mk_2_6, mk_2_7, mk_2_8, mk_2_9, mk_2_10, mk_3_m2, mk_3_0, mk_3_1, mk_3_2, mk_3_3, mk_3_4, mk_3_5, mk_4_m2, mk_4_m1, mk_5_m2, mk_5_m1, mk_11_m2, mk_11_m1, mk_42_m2, mk_42_m1, mk_73_m2, mk_73_0, mk_73_1, mk_73_2, mk_74_m2, mk_74_m1, mk_572_m2, mk_572_m1, mk_715_m2, mk_715_m1, mk_717_m2, mk_717_m1, mk_718_m2, mk_718_m1, mk_716_m2, mk_716_0, mk_716_1, mk_716_2, mk_716_3, mk_716_4, mk_719_m2, mk_74_at, mk_572_at, mk_715_at, mk_717_at, mk_718_at, mk_4_at, mk_5_at, mk_11_at, mk_42_at, mk_O_k, mk_O_0, mk_O_1, mk_O_2, mk_O_3, mk_L_k, mk_L_0, mk_L_1, mk_L_2, mk_L_3, mk_L_4, mk_L_5, mk_L_6, mk_L_7, mk_L_8, mk_L_9, mk_L_10, mk_X_k, mk_X_0, mk_X_1, mk_X_2, mk_X_3, mk_X_4, mk_75_k, mk_573_k, r_1_6, r_73_1, r_73_2, r_716_1, r_716_2, r_716_3, r_715, r_717, r_718, s_O0, s_O1, s_O2, s_O3, s_L0, s_L1, s_L2, s_L3, s_L4, s_L5, s_L6, s_L7, s_L8, s_L9, s_L10, s_X0, s_X1, s_X2, s_X3, s_X4, s_2_4, s_2_5, s_2_6, s_2_7, s_2_8, s_2_9, s_2_10, s_3_1, s_3_2, s_3_3, s_3_4, s_3_5, s_4]
theorem q_orders (hN : 5000 ≤ N) (hK : K + 30 ≤ 60000) (S : zST K w c a) (x y : Int) : nO (K + 4) (f_L_orders N 1 x y (mk w c m a)) c m a := by
  have lb := lw_b x (n := 30) (by omega)
  have lb2 := lw_b (o_shr x 5) (n := 5) (by omega)
  have lb3 := lw_b y (n := 60) (by omega)
  have lq := q_low (N := N) (g := x) (n := 30) (by omega)
  have lq2 := q_low (N := N) (g := o_shr x 5) (n := 5) (by omega)
  have lq3 := q_low (N := N) (g := y) (n := 60) (by omega)
  generalize lw x 30 = l at *
  generalize lw (o_shr x 5) 5 = o at *
  generalize lw y 60 = v at *
  unfold f_L_orders
  by_cases q : o_and y 1 = 0
  · obtain ⟨w', c', a', e, r⟩ := l_or_g (N := N) m hN hK S (l := l) (o := o) (n := 1 + v) (by omega) (by omega) (by omega)
    refine ⟨w', c', a', ?_, r⟩
    simp only [to_bz, to_nz, to_cz, to_iz]
    simp (disch := omega) only [lq, lq2, lq3, q, e, bz_t, nz_t, cz_T, cz_t, iz_T, iz_F, iz_y, iz_n, not_true_eq_false, not_false_eq_true, true_and, and_true, w32_e, w64_e, mset_e, mset_n, up_e, up_n, if_y, if_n, Int.add_zero, mk_1_m2, mk_1_0, mk_1_1, mk_1_2, mk_1_3, mk_1_4, mk_1_5, mk_1_6, mk_2_m2, mk_2_0, mk_2_1, mk_2_2, mk_2_3, mk_2_4, mk_2_5, mk_2_6, mk_2_7, mk_2_8, mk_2_9, mk_2_10, mk_3_m2, mk_3_0, mk_3_1, mk_3_2, mk_3_3, mk_3_4, mk_3_5, mk_4_m2, mk_4_m1, mk_5_m2, mk_5_m1, mk_11_m2, mk_11_m1, mk_42_m2, mk_42_m1, mk_73_m2, mk_73_0, mk_73_1, mk_73_2, mk_74_m2, mk_74_m1, mk_572_m2, mk_572_m1, mk_715_m2, mk_715_m1, mk_717_m2, mk_717_m1, mk_718_m2, mk_718_m1, mk_716_m2, mk_716_0, mk_716_1, mk_716_2, mk_716_3, mk_716_4, mk_719_m2, mk_74_at, mk_572_at, mk_715_at, mk_717_at, mk_718_at, mk_4_at, mk_5_at, mk_11_at, mk_42_at, mk_O_k, mk_O_0, mk_O_1, mk_O_2, mk_O_3, mk_L_k, mk_L_0, mk_L_1, mk_L_2, mk_L_3, mk_L_4, mk_L_5, mk_L_6, mk_L_7, mk_L_8, mk_L_9, mk_L_10, mk_X_k, mk_X_0, mk_X_1, mk_X_2, mk_X_3, mk_X_4, mk_75_k, mk_573_k, r_1_6, r_73_1, r_73_2, r_716_1, r_716_2, r_716_3, r_715, r_717, r_718, s_O0, s_O1, s_O2, s_O3, s_L0, s_L1, s_L2, s_L3, s_L4, s_L5, s_L6, s_L7, s_L8, s_L9, s_L10, s_X0, s_X1, s_X2, s_X3, s_X4, s_2_4, s_2_5, s_2_6, s_2_7, s_2_8, s_2_9, s_2_10, s_3_1, s_3_2, s_3_3, s_3_4, s_3_5, s_4]
  · obtain ⟨w', c', a', e, r⟩ := l_or_p (N := N) m hN hK S (l := l) (o := o) (n := 1 + v) (by omega) (by omega)
    refine ⟨w', c', a', ?_, r⟩
    simp only [to_bz, to_nz, to_cz, to_iz]
    simp (disch := omega) only [lq, lq2, lq3, q, e, bz_t, nz_t, cz_T, cz_t, iz_T, iz_F, iz_y, iz_n, not_true_eq_false, not_false_eq_true, true_and, and_true, w32_e, w64_e, mset_e, mset_n, up_e, up_n, if_y, if_n, Int.add_zero, mk_1_m2, mk_1_0, mk_1_1, mk_1_2, mk_1_3, mk_1_4, mk_1_5, mk_1_6, mk_2_m2, mk_2_0, mk_2_1, mk_2_2, mk_2_3, mk_2_4, mk_2_5, mk_2_6, mk_2_7, mk_2_8, mk_2_9, mk_2_10, mk_3_m2, mk_3_0, mk_3_1, mk_3_2, mk_3_3, mk_3_4, mk_3_5, mk_4_m2, mk_4_m1, mk_5_m2, mk_5_m1, mk_11_m2, mk_11_m1, mk_42_m2, mk_42_m1, mk_73_m2, mk_73_0, mk_73_1, mk_73_2, mk_74_m2, mk_74_m1, mk_572_m2, mk_572_m1, mk_715_m2, mk_715_m1, mk_717_m2, mk_717_m1, mk_718_m2, mk_718_m1, mk_716_m2, mk_716_0, mk_716_1, mk_716_2, mk_716_3, mk_716_4, mk_719_m2, mk_74_at, mk_572_at, mk_715_at, mk_717_at, mk_718_at, mk_4_at, mk_5_at, mk_11_at, mk_42_at, mk_O_k, mk_O_0, mk_O_1, mk_O_2, mk_O_3, mk_L_k, mk_L_0, mk_L_1, mk_L_2, mk_L_3, mk_L_4, mk_L_5, mk_L_6, mk_L_7, mk_L_8, mk_L_9, mk_L_10, mk_X_k, mk_X_0, mk_X_1, mk_X_2, mk_X_3, mk_X_4, mk_75_k, mk_573_k, r_1_6, r_73_1, r_73_2, r_716_1, r_716_2, r_716_3, r_715, r_717, r_718, s_O0, s_O1, s_O2, s_O3, s_L0, s_L1, s_L2, s_L3, s_L4, s_L5, s_L6, s_L7, s_L8, s_L9, s_L10, s_X0, s_X1, s_X2, s_X3, s_X4, s_2_4, s_2_5, s_2_6, s_2_7, s_2_8, s_2_9, s_2_10, s_3_1, s_3_2, s_3_3, s_3_4, s_3_5, s_4]
end ORD2
