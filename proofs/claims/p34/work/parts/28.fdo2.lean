section FDO2
variable (N : Nat) {v : Int → Int} (c : Int → Int → Int) (w : Int → Int) (a : Mm) {K : Int}
theorem a_destroy_u (I : IA K v) (l q : Int) (h1 : ¬ (0 ≤ l ∧ l < v 2)) : f_X7_destroyUnits N 1 l q (mk v c w a) = some (-100000001, mk v c w a) := by
  unfold f_X7_destroyUnits
  simp only [to_bz, to_nz, to_cz, to_iz]
  simp (disch := omega) only [fun o => eq_bd (a_findLot N c w a I o), fun o => eq_bd (a_findOwner N c w a I o), fun o => eq_bd (a_findExport N c w a I o), fun y => eq_bd (a_refuse N (v := v) c w a y), bz_t, nz_t, cz_T, cz_t, iz_T, iz_F, iz_y, iz_n, not_true_eq_false, not_false_eq_true, true_and, and_true, w32_e, w64_e, mset_e, mset_n, up_e, up_n, if_y, if_n, Int.add_zero, mk_1_m2, mk_1_0, mk_1_1, mk_1_2, mk_1_3, mk_1_4, mk_1_5, mk_1_6, mk_2_m2, mk_2_0, mk_2_1, mk_2_2, mk_2_3, mk_2_4, mk_2_5, mk_2_6, mk_2_7, mk_2_8, mk_2_9, mk_2_10, mk_3_m2, mk_3_0, mk_3_1, mk_3_2, mk_3_3, mk_3_4, mk_3_5, mk_4_m2, mk_4_m1, mk_5_m2, mk_5_m1, mk_11_m2, mk_11_m1, mk_42_m2, mk_42_m1, mk_73_m2, mk_73_0, mk_73_1, mk_73_2, mk_74_m2, mk_74_m1, mk_572_m2, mk_572_m1, mk_715_m2, mk_715_m1, mk_717_m2, mk_717_m1, mk_718_m2, mk_718_m1, mk_716_m2, mk_716_0, mk_716_1, mk_716_2, mk_716_3, mk_716_4, mk_719_m2, mk_74_at, mk_572_at, mk_715_at, mk_717_at, mk_718_at, mk_4_at, mk_5_at, mk_11_at, mk_42_at, mk_O_k, mk_O_0, mk_O_1, mk_O_2, mk_O_3, mk_L_k, mk_L_0, mk_L_1, mk_L_2, mk_L_3, mk_L_4, mk_L_5, mk_L_6, mk_L_7, mk_L_8, mk_L_9, mk_L_10, mk_X_k, mk_X_0, mk_X_1, mk_X_2, mk_X_3, mk_X_4, mk_75_k, mk_573_k, r_1_6, r_73_1, r_73_2, r_716_1, r_716_2, r_716_3, r_715, r_717, r_718, s_O0, s_O1, s_O2, s_O3, s_L0, s_L1, s_L2, s_L3, s_L4, s_L5, s_L6, s_L7, s_L8, s_L9, s_L10, s_X0, s_X1, s_X2, s_X3, s_X4, s_2_4, s_2_5, s_2_6, s_2_7, s_2_8, s_2_9, s_2_10, s_3_1, s_3_2, s_3_3, s_3_4, s_3_5, s_4]
theorem a_destroy_y (I : IA K v) (l q : Int) (q0 : yUn v l q ≠ 0) (h1 : 0 ≤ l ∧ l < v 2) : f_X7_destroyUnits N 1 l q (mk v c w a) = some (cd (yUn v l q), mk v c w (rb (yUn v l q) a)) := by
  have g := I.hd; unfold HEAD at g
  have z := yUn_n q0
  unfold f_X7_destroyUnits
  simp only [to_bz, to_nz, to_cz, to_iz]
  simp (disch := omega) only [fun o => eq_bd (a_findLot N c w a I o), fun o => eq_bd (a_findOwner N c w a I o), fun o => eq_bd (a_findExport N c w a I o), fun y => eq_bd (a_refuse N (v := v) c w a y), fun qq => eq_bd (a_error N c w a I h1 qq), bz_t, nz_t, cz_T, cz_t, iz_T, iz_F, iz_y, iz_n, not_true_eq_false, not_false_eq_true, true_and, and_true, w32_e, w64_e, mset_e, mset_n, up_e, up_n, if_y, if_n, Int.add_zero, mk_1_m2, mk_1_0, mk_1_1, mk_1_2, mk_1_3, mk_1_4, mk_1_5, mk_1_6, mk_2_m2, mk_2_0, mk_2_1, mk_2_2, mk_2_3, mk_2_4, mk_2_5, mk_2_6, mk_2_7, mk_2_8, mk_2_9, mk_2_10, mk_3_m2, mk_3_0, mk_3_1, mk_3_2, mk_3_3, mk_3_4, mk_3_5, mk_4_m2, mk_4_m1, mk_5_m2, mk_5_m1, mk_11_m2, mk_11_m1, mk_42_m2, mk_42_m1, mk_73_m2, mk_73_0, mk_73_1, mk_73_2, mk_74_m2, mk_74_m1, mk_572_m2, mk_572_m1, mk_715_m2, mk_715_m1, mk_717_m2, mk_717_m1, mk_718_m2, mk_718_m1, mk_716_m2, mk_716_0, mk_716_1, mk_716_2, mk_716_3, mk_716_4, mk_719_m2, mk_74_at, mk_572_at, mk_715_at, mk_717_at, mk_718_at, mk_4_at, mk_5_at, mk_11_at, mk_42_at, mk_O_k, mk_O_0, mk_O_1, mk_O_2, mk_O_3, mk_L_k, mk_L_0, mk_L_1, mk_L_2, mk_L_3, mk_L_4, mk_L_5, mk_L_6, mk_L_7, mk_L_8, mk_L_9, mk_L_10, mk_X_k, mk_X_0, mk_X_1, mk_X_2, mk_X_3, mk_X_4, mk_75_k, mk_573_k, r_1_6, r_73_1, r_73_2, r_716_1, r_716_2, r_716_3, r_715, r_717, r_718, s_O0, s_O1, s_O2, s_O3, s_L0, s_L1, s_L2, s_L3, s_L4, s_L5, s_L6, s_L7, s_L8, s_L9, s_L10, s_X0, s_X1, s_X2, s_X3, s_X4, s_2_4, s_2_5, s_2_6, s_2_7, s_2_8, s_2_9, s_2_10, s_3_1, s_3_2, s_3_3, s_3_4, s_3_5, s_4]
theorem a_destroy_b (I : IA K v) (l q : Int) (q0 : yUn v l q = 0) (q1 : v (20 + 4 * v (40 + 11 * l)) < q * v 9) : f_X7_destroyUnits N 1 l q (mk v c w a) = some (-100000003, mk v c w (mset a 1 6 3)) := by
  have g := I.hd; unfold HEAD at g
  obtain ⟨h1, h2, h3⟩ := yUn_0 q0
  have x := I.lot h1; unfold LOT at x
  have ow := I.own (o := v (40 + 11 * l)) (by omega); unfold OWN at ow
  have p := mul_le (show 0 ≤ q ∧ q ≤ 1000000 by omega) (show 0 ≤ v 9 ∧ v 9 ≤ 1000 by omega)
  have e1 : cd 0 = 0 := rfl
  have e2 : rb 0 a = a := rfl
  have d1 := eq_bd (a_dutyOfNext N c w a I (l := l) (t := 0) (q := q) h1 (by omega) (by omega) (by omega))
  unfold f_X7_destroyUnits
  simp only [to_bz, to_nz, to_cz, to_iz]
  simp (disch := omega) only [fun o => eq_bd (a_findLot N c w a I o), fun o => eq_bd (a_findOwner N c w a I o), fun o => eq_bd (a_findExport N c w a I o), fun y => eq_bd (a_refuse N (v := v) c w a y), fun qq => eq_bd (a_error N c w a I h1 qq), q0, e1, e2, d1, bz_t, nz_t, cz_T, cz_t, iz_T, iz_F, iz_y, iz_n, not_true_eq_false, not_false_eq_true, true_and, and_true, w32_e, w64_e, mset_e, mset_n, up_e, up_n, if_y, if_n, Int.add_zero, mk_1_m2, mk_1_0, mk_1_1, mk_1_2, mk_1_3, mk_1_4, mk_1_5, mk_1_6, mk_2_m2, mk_2_0, mk_2_1, mk_2_2, mk_2_3, mk_2_4, mk_2_5, mk_2_6, mk_2_7, mk_2_8, mk_2_9, mk_2_10, mk_3_m2, mk_3_0, mk_3_1, mk_3_2, mk_3_3, mk_3_4, mk_3_5, mk_4_m2, mk_4_m1, mk_5_m2, mk_5_m1, mk_11_m2, mk_11_m1, mk_42_m2, mk_42_m1, mk_73_m2, mk_73_0, mk_73_1, mk_73_2, mk_74_m2, mk_74_m1, mk_572_m2, mk_572_m1, mk_715_m2, mk_715_m1, mk_717_m2, mk_717_m1, mk_718_m2, mk_718_m1, mk_716_m2, mk_716_0, mk_716_1, mk_716_2, mk_716_3, mk_716_4, mk_719_m2, mk_74_at, mk_572_at, mk_715_at, mk_717_at, mk_718_at, mk_4_at, mk_5_at, mk_11_at, mk_42_at, mk_O_k, mk_O_0, mk_O_1, mk_O_2, mk_O_3, mk_L_k, mk_L_0, mk_L_1, mk_L_2, mk_L_3, mk_L_4, mk_L_5, mk_L_6, mk_L_7, mk_L_8, mk_L_9, mk_L_10, mk_X_k, mk_X_0, mk_X_1, mk_X_2, mk_X_3, mk_X_4, mk_75_k, mk_573_k, r_1_6, r_73_1, r_73_2, r_716_1, r_716_2, r_716_3, r_715, r_717, r_718, s_O0, s_O1, s_O2, s_O3, s_L0, s_L1, s_L2, s_L3, s_L4, s_L5, s_L6, s_L7, s_L8, s_L9, s_L10, s_X0, s_X1, s_X2, s_X3, s_X4, s_2_4, s_2_5, s_2_6, s_2_7, s_2_8, s_2_9, s_2_10, s_3_1, s_3_2, s_3_3, s_3_4, s_3_5, s_4]
set_option maxHeartbeats 4000000 in
theorem a_destroy_g (I : IA K v) (l q : Int) (q0 : yUn v l q = 0) (q1 : ¬ v (20 + 4 * v (40 + 11 * l)) < q * v 9) : f_X7_destroyUnits N 1 l q (mk v c w a) = some (dt v l (v (40 + 11 * l + 7)) q, mk (dDe v l q) c w a) := by
  have g := I.hd; unfold HEAD at g
  obtain ⟨h1, h2, h3⟩ := yUn_0 q0
  have x := I.lot h1; unfold LOT at x
  have ow := I.own (o := v (40 + 11 * l)) (by omega); unfold OWN at ow
  have z0 := I.sub q0
  have p := mul_le (show 0 ≤ q ∧ q ≤ 1000000 by omega) (show 0 ≤ v 9 ∧ v 9 ≤ 1000 by omega)
  have e1 : cd 0 = 0 := rfl
  have e2 : rb 0 a = a := rfl
  have d1 := eq_bd (a_dutyOfNext N c w a I (l := l) (t := 0) (q := q) h1 (by omega) (by omega) (by omega))
  unfold un at h3
  have z3 := dt_b (w := v) (l := l) (t := v (40 + 11 * l + 7)) (q := q) (by omega) (by omega) (by omega) (by omega) (by omega)
  unfold f_X7_destroyUnits
  simp only [to_bz, to_nz, to_cz, to_iz]
  simp (disch := omega) only [fun o => eq_bd (a_findLot N c w a I o), fun o => eq_bd (a_findOwner N c w a I o), fun o => eq_bd (a_findExport N c w a I o), fun y => eq_bd (a_refuse N (v := v) c w a y), fun qq => eq_bd (a_error N c w a I h1 qq), q0, e1, e2, d1, bz_t, nz_t, cz_T, cz_t, iz_T, iz_F, iz_y, iz_n, not_true_eq_false, not_false_eq_true, true_and, and_true, w32_e, w64_e, mset_e, mset_n, up_e, up_n, if_y, if_n, Int.add_zero, mk_1_m2, mk_1_0, mk_1_1, mk_1_2, mk_1_3, mk_1_4, mk_1_5, mk_1_6, mk_2_m2, mk_2_0, mk_2_1, mk_2_2, mk_2_3, mk_2_4, mk_2_5, mk_2_6, mk_2_7, mk_2_8, mk_2_9, mk_2_10, mk_3_m2, mk_3_0, mk_3_1, mk_3_2, mk_3_3, mk_3_4, mk_3_5, mk_4_m2, mk_4_m1, mk_5_m2, mk_5_m1, mk_11_m2, mk_11_m1, mk_42_m2, mk_42_m1, mk_73_m2, mk_73_0, mk_73_1, mk_73_2, mk_74_m2, mk_74_m1, mk_572_m2, mk_572_m1, mk_715_m2, mk_715_m1, mk_717_m2, mk_717_m1, mk_718_m2, mk_718_m1, mk_716_m2, mk_716_0, mk_716_1, mk_716_2, mk_716_3, mk_716_4, mk_719_m2, mk_74_at, mk_572_at, mk_715_at, mk_717_at, mk_718_at, mk_4_at, mk_5_at, mk_11_at, mk_42_at, mk_O_k, mk_O_0, mk_O_1, mk_O_2, mk_O_3, mk_L_k, mk_L_0, mk_L_1, mk_L_2, mk_L_3, mk_L_4, mk_L_5, mk_L_6, mk_L_7, mk_L_8, mk_L_9, mk_L_10, mk_X_k, mk_X_0, mk_X_1, mk_X_2, mk_X_3, mk_X_4, mk_75_k, mk_573_k, r_1_6, r_73_1, r_73_2, r_716_1, r_716_2, r_716_3, r_715, r_717, r_718, s_O0, s_O1, s_O2, s_O3, s_L0, s_L1, s_L2, s_L3, s_L4, s_L5, s_L6, s_L7, s_L8, s_L9, s_L10, s_X0, s_X1, s_X2, s_X3, s_X4, s_2_4, s_2_5, s_2_6, s_2_7, s_2_8, s_2_9, s_2_10, s_3_1, s_3_2, s_3_3, s_3_4, s_3_5, s_4]
  refine congrArg (fun z => some (dt v l (v (40 + 11 * l + 7)) q, mk z c w a)) ?_
  funext i
  unfold dDe up
  (repeat' split) <;> first | rfl | (exfalso; omega) | (subst_vars; first | rfl | omega)
theorem a_destroy (I : IA K v) (l q : Int) :
    f_X7_destroyUnits N 1 l q (mk v c w a) = some (an (yDe v l q) (dt v l (v (40 + 11 * l + 7)) q), mk (rw0 (yDe v l q) (dDe v l q) v) c w (rb (yDe v l q) a)) := by
  by_cases q0 : yUn v l q = 0
  · by_cases q1 : v (20 + 4 * v (40 + 11 * l)) < q * v 9
    · have e : yDe v l q = 3 := by unfold yDe; rw [if_pos q0, if_pos q1]
      rw [a_destroy_b N c w a I l q q0 q1, e]; rfl
    · have e : yDe v l q = 0 := by unfold yDe; rw [if_pos q0, if_neg q1]
      rw [a_destroy_g N c w a I l q q0 q1, e]; rfl
  · have e : yDe v l q = yUn v l q := by unfold yDe; rw [if_neg q0]
    by_cases h1 : 0 ≤ l ∧ l < v 2
    · rw [a_destroy_y N c w a I l q q0 h1, e]; unfold an rw0; rw [if_neg q0, if_neg q0]
    · have e2 : yUn v l q = -1 := by unfold yUn; rw [if_neg h1]
      rw [a_destroy_u N c w a I l q h1, e, e2]; rfl
end FDO2
