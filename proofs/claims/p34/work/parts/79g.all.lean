/-! the law whole -/
section FIN2
theorem mk_ZF : mk w0 (fun _ => w0) w0 ZF = ZF := by
  funext r k
  unfold mk
  by_cases r0 : r < 0
  · rw [if_pos r0]
    exact (st_o (by omega) (by omega) k).symm
  rw [if_neg r0]
  by_cases r1 : r = 0
  · subst r1; rw [if_pos rfl]
  rw [if_neg r1]
  by_cases q2 : r = 1
  · rw [if_pos q2]
    subst q2
    rw [ZF_r (by omega), tZ_1]
    by_cases h0 : k = -2
    · subst h0; rfl
    by_cases h2 : k = 0
    · subst h2; rfl
    by_cases h3 : k = 1
    · subst h3; rfl
    by_cases h4 : k = 2
    · subst h4; rfl
    by_cases h5 : k = 3
    · subst h5; rfl
    by_cases h6 : k = 4
    · subst h6; rfl
    by_cases h7 : k = 5
    · subst h7; rfl
    simp only [h0, h2, h3, h4, h5, h6, h7, ite_self, if_false]
  rw [if_neg q2]
  by_cases q3 : r ≤ 72
  · rw [if_pos q3, ZF_r (by omega), tZ_2 (by omega)]
  rw [if_neg q3]
  by_cases q4 : r = 73
  · rw [if_pos q4]
    subst q4
    rw [ZF_r (by omega), tZ_73]
    by_cases h0 : k = -2
    · subst h0; rfl
    by_cases h2 : k = 0
    · subst h2; rfl
    simp only [h0, h2, ite_self, if_false]
  rw [if_neg q4]
  by_cases q5 : r = 74
  · rw [if_pos q5]
    subst q5
    rw [ZF_r (by omega), tZ_74]
  rw [if_neg q5]
  by_cases q6 : r ≤ 571
  · rw [if_pos q6, ZF_r (by omega), tZ_75 (by omega)]
  rw [if_neg q6]
  by_cases q7 : r = 572
  · rw [if_pos q7]
    subst q7
    rw [ZF_r (by omega), tZ_572]
  rw [if_neg q7]
  by_cases q8 : r ≤ 714
  · rw [if_pos q8, ZF_r (by omega), tZ_573 (by omega)]
  rw [if_neg q8]
  by_cases q9 : r = 715
  · rw [if_pos q9]
    subst q9
    unfold ar
    rw [ZF_r (by omega), tZ_715]
    by_cases h0 : k = -2
    · subst h0; rfl
    by_cases h1 : k = -1
    · subst h1; rfl
    simp only [h0, h1, ite_self, if_false]
  rw [if_neg q9]
  by_cases q10 : r = 716
  · rw [if_pos q10]
    subst q10
    rw [ZF_r (by omega), tZ_716]
    by_cases h0 : k = -2
    · subst h0; rfl
    by_cases h2 : k = 0
    · subst h2; rfl
    by_cases h6 : k = 4
    · subst h6; rfl
    simp only [h0, h2, h6, ite_self, if_false]
  rw [if_neg q10]
  by_cases q11 : r = 717
  · rw [if_pos q11]
    subst q11
    unfold ar
    rw [ZF_r (by omega), tZ_717]
    by_cases h0 : k = -2
    · subst h0; rfl
    by_cases h1 : k = -1
    · subst h1; rfl
    simp only [h0, h1, ite_self, if_false]
  rw [if_neg q11]
  by_cases q12 : r = 718
  · rw [if_pos q12]
    subst q12
    unfold ar
    rw [ZF_r (by omega), tZ_718]
    by_cases h0 : k = -2
    · subst h0; rfl
    by_cases h1 : k = -1
    · subst h1; rfl
    simp only [h0, h1, ite_self, if_false]
  rw [if_neg q12]
  by_cases q13 : r = 719
  · rw [if_pos q13]
    by_cases h0 : k = -2
    · rw [if_pos h0, q13, h0, ZF_r (by omega), tZ_719]; rfl
    · rw [if_neg h0, q13]
  rw [if_neg q13]
  by_cases q14 : r = 720
  · rw [if_pos q14, q14]
  rw [if_neg q14]
theorem IV_w0 : IV 0 w0 := by
  have z : ∀ i, i < 5 ∨ 20 ≤ i → w0 i = 0 := fun i h => w0_z h
  have a0 := z 0 (by omega)
  have a1 := z 1 (by omega)
  have a2 := z 2 (by omega)
  have a3 := z 3 (by omega)
  have a4 := z 4 (by omega)
  have a5 : w0 5 = 100 := Eq.trans rfl rfl
  have a6 : w0 6 = 30 := Eq.trans rfl rfl
  have a7 : w0 7 = 20 := Eq.trans rfl rfl
  have a8 : w0 8 = 20 := Eq.trans rfl rfl
  have a9 : w0 9 = 10 := Eq.trans rfl rfl
  have a10 : w0 10 = 0 := Eq.trans rfl rfl
  have a11 : w0 11 = 0 := Eq.trans rfl rfl
  have a12 : w0 12 = 0 := Eq.trans rfl rfl
  refine ⟨⟨?_, fun k h => ?_, fun o h => ?_, fun l h => ?_, fun e h => ?_, fun o h => ?_, fun l h => ?_⟩, fun l h => ?_, ?_, ?_, ?_⟩
  · unfold HEAD; omega
  · have e : w0 (14 + k) = 100 := by unfold w0; rw [if_neg (by omega), if_neg (by omega), if_neg (by omega), if_neg (by omega), if_neg (by omega), if_pos (by omega)]
    omega
  · unfold OWN
    rw [z (20 + 4 * o) (by omega), z (20 + 4 * o + 1) (by omega), z (20 + 4 * o + 2) (by omega), z (20 + 4 * o + 3) (by omega)]
    omega
  · omega
  · omega
  · exact ⟨z _ (by omega), z _ (by omega), z _ (by omega), z _ (by omega)⟩
  · exact ⟨z _ (by omega), z _ (by omega), z _ (by omega), z _ (by omega), z _ (by omega)⟩
  · omega
  · rw [a10, sm_0 (fun i hi => z _ (by omega))]
  · rw [a10, a2]; exact Int.le_refl 0
  · rw [a4, a2]; exact Int.le_refl 0
theorem JV_w0 : JV 0 w0 := by
  have a2 : w0 2 = 0 := w0_z (by omega)
  have a3 : w0 3 = 0 := w0_z (by omega)
  exact ⟨IV_w0, fun l h => by omega, fun e h => by omega, fun l h => by omega⟩
theorem zST_0 : zST 0 w0 (fun _ => w0) ZF := by
  have f : ∀ r k, 1 ≤ r → r ≤ 720 → ZF r k = tA9 r k := fun r k h1 h2 => ZF_r ⟨h1, h2⟩ k
  have b1 : ZF 73 1 = 0 := by rw [f _ _ (by omega) (by omega), tZ_73]; rfl
  have b2 : ZF 73 2 = 0 := by rw [f _ _ (by omega) (by omega), tZ_73]; rfl
  have b6 : ZF 1 6 = 0 := by rw [f _ _ (by omega) (by omega), tZ_1]; rfl
  have b7 : ZF 716 1 = 0 := by rw [f _ _ (by omega) (by omega), tZ_716]; rfl
  have b8 : ZF 719 0 = 720 := by rw [f _ _ (by omega) (by omega), tZ_719]; rfl
  have b9 : ZF 719 1 = 0 := by rw [f _ _ (by omega) (by omega), tZ_719]; rfl
  have b10 : ZF 719 3 = 0 := by rw [f _ _ (by omega) (by omega), tZ_719]; rfl
  have b11 : ZF 0 0 = 720 := Eq.trans rfl rfl
  have b12 : ZF 720 (-2) = 21 := by rw [f _ _ (by omega) (by omega), tZ_720]; rfl
  have b13 : ZF 720 (-1) = 16 := by rw [f _ _ (by omega) (by omega), tZ_720]; rfl
  refine ⟨JV_w0, ?_, fun s hs => ?_, ?_, ?_, ?_⟩
  · unfold zH
    rw [b1, b2]
    exact ⟨by omega, by omega, fun k h => by omega⟩
  · have c1 : ZF 715 s = 0 := by rw [f _ _ (by omega) (by omega), tZ_715, if_neg (by omega), if_neg (by omega)]
    rw [c1]
    exact ⟨by omega, fun h => absurd rfl h⟩
  · unfold zR; rw [b6]; omega
  · unfold zT; rw [b7]; omega
  · unfold zD; rw [b8, b9, b10, b11, b12, b13]; omega
theorem law_all (sc : Int → Int) (sl : Int) : ∃ μ', f_L_law sc sl (5000 + 1000) m0 = some (1, μ') := by
  have x7 := i_X7 5000
  have S := zST_0
  have b2 : ZF 73 2 = 0 := by rw [ZF_r (by omega), tZ_73]; rfl
  have b3 : ZF 715 0 = 0 := by rw [ZF_r (by omega), tZ_715]; rfl
  have hN : 5000 ≤ 5000 + 1000 := by omega
  have e1 := x_undo_n (N := 5000 + 1000) (m := w0) S b2
  have e2 := x_restore_n (N := 5000 + 1000) (c := fun _ => w0) (m := w0) (w := w0) b3
  have e3 := x_restore_b (N := 5000 + 1000) (c := fun _ => w0) (m := w0) (a := ZF) (w := w0)
  have e4 := x_keep_b (N := 5000 + 1000) (c := fun _ => w0) (m := w0) (a := ZF) (w := w0)
  have e5 := q_next (N := 5000 + 1000) (c := fun _ => w0) (m := w0) (a := ZF) hN S.1.1.1
  have a2 : w0 2 = 0 := w0_z (by omega)
  have a3 : w0 3 = 0 := w0_z (by omega)
  rw [a2, a3] at e5
  replace e5 : f_X7_nextDeadline (5000 + 1000) 1 (mk w0 (fun _ => w0) w0 ZF) = some (-100000005, mk w0 (fun _ => w0) w0 ZF) := e5
  have e6 := x_setTerms_b (N := 5000 + 1000) (c := fun _ => w0) (m := w0) (a := ZF) (w := w0) (y := 1)
  have e7 := x_setRules_b (N := 5000 + 1000) (c := fun _ => w0) (m := w0) (a := ZF) (w := w0) (y := 0) (z := 0)
  have e8 := x_setRate_b (N := 5000 + 1000) (c := fun _ => w0) (m := w0) (a := ZF) (w := w0) (y := 0)
  obtain ⟨μ', l⟩ := l_law102 (N := 5000 + 1000) (m := w0) (sc := sc) (sl := sl) hN (5000 + 1000) 0 w0 (fun _ => w0) ZF 0 0 (606929 - 1 - 719) (7281462 - 7 - 6003) (by omega) (by omega) S (Or.inl rfl) (by omega)
  rw [show ((0 : Nat) : Int) = 0 from rfl] at l
  have k9 : ZF 1 (-2) = 9 := by rw [ZF_r (by omega), tZ_1]; rfl
  rw [mk_ZF] at e1 e2 e3 e4 e5 e6 e7 e8 l
  refine ⟨μ', ?_⟩
  unfold f_L_law
  rw [← st_m0]
  simp only [to_bz, to_nz, to_cz, to_iz]
  simp (disch := omega) only [x7, Int.reduceAdd, st_r, st_00, st_new, st_set, tS_e, tS_n, tN_k, tN_l, tN_0, tN_n, tB_k, bz_t, nz_t, cz_T, cz_t, iz_T, iz_F, iz_y, iz_n, not_true_eq_false, not_false_eq_true, true_and, and_true, w32_e, Int.add_zero]
  rw [show st 1 720 6010 m0 tA9 = ZF from rfl]
  simp (disch := omega) only [k9, e1, e2, e3, e4, e5, e6, e7, e8, bz_t, nz_t, cz_T, cz_t, iz_T, iz_F, iz_y, iz_n, not_true_eq_false, not_false_eq_true, true_and, and_true, w32_e, w64_e, mset_e, mset_n, up_e, up_n, if_y, if_n, Int.add_zero, mk_1_m2, mk_1_0, mk_1_1, mk_1_2, mk_1_3, mk_1_4, mk_1_5, mk_1_6, mk_2_m2, mk_2_0, mk_2_1, mk_2_2, mk_2_3, mk_2_4, mk_2_5, mk_2_6, mk_2_7, mk_2_8, mk_2_9, mk_2_10, mk_3_m2, mk_3_0, mk_3_1, mk_3_2, mk_3_3, mk_3_4, mk_3_5, mk_4_m2, mk_4_m1, mk_5_m2, mk_5_m1, mk_11_m2, mk_11_m1, mk_42_m2, mk_42_m1, mk_73_m2, mk_73_0, mk_73_1, mk_73_2, mk_74_m2, mk_74_m1, mk_572_m2, mk_572_m1, mk_715_m2, mk_715_m1, mk_717_m2, mk_717_m1, mk_718_m2, mk_718_m1, mk_716_m2, mk_716_0, mk_716_1, mk_716_2, mk_716_3, mk_716_4, mk_719_m2, mk_74_at, mk_572_at, mk_715_at, mk_717_at, mk_718_at, mk_4_at, mk_5_at, mk_11_at, mk_42_at, mk_O_k, mk_O_0, mk_O_1, mk_O_2, mk_O_3, mk_L_k, mk_L_0, mk_L_1, mk_L_2, mk_L_3, mk_L_4, mk_L_5, mk_L_6, mk_L_7, mk_L_8, mk_L_9, mk_L_10, mk_X_k, mk_X_0, mk_X_1, mk_X_2, mk_X_3, mk_X_4, mk_75_k, mk_573_k, r_1_6, r_73_1, r_73_2, r_716_1, r_716_2, r_716_3, r_715, r_717, r_718, s_O0, s_O1, s_O2, s_O3, s_L0, s_L1, s_L2, s_L3, s_L4, s_L5, s_L6, s_L7, s_L8, s_L9, s_L10, s_X0, s_X1, s_X2, s_X3, s_X4, s_2_4, s_2_5, s_2_6, s_2_7, s_2_8, s_2_9, s_2_10, s_3_1, s_3_2, s_3_3, s_3_4, s_3_5, s_4]
  exact l
end FIN2
