/-! the law whole -/
section FIN2
theorem mk_ZF : mk w0 (fun _ => w0) w0 ZF = ZF := by
  funext r k
  unfold mk
  by_cases r0 : r < 0
  · rw [if_pos r0]
    exact (st_o (by omega) (by omega) k).symm
  rw [if_neg r0]
  by_cases r1 : r = 0
  · subst r1; rw [if_pos rfl]
  rw [if_neg r1]
  by_cases q2 : r = 1
  · rw [if_pos q2]
    subst q2
    rw [ZF_r (by omega), tZ_1]
    by_cases h0 : k = -2
    · subst h0; rfl
    by_cases h2 : k = 0
    · subst h2; rfl
    by_cases h3 : k = 1
    · subst h3; rfl
    by_cases h4 : k = 2
    · subst h4; rfl
    by_cases h5 : k = 3
    · subst h5; rfl
    by_cases h6 : k = 4
    · subst h6; rfl
    by_cases h7 : k = 5
    · subst h7; rfl
    simp only [h0, h2, h3, h4, h5, h6, h7, ite_self, if_false]
  rw [if_neg q2]
  by_cases q3 : r ≤ 72
  · rw [if_pos q3, ZF_r (by omega), tZ_2 (by omega)]
  rw [if_neg q3]
  by_cases q4 : r = 73
  · rw [if_pos q4]
    subst q4
    rw [ZF_r (by omega), tZ_73]
    by_cases h0 : k = -2
    · subst h0; rfl
    by_cases h2 : k = 0
    · subst h2; rfl
    simp only [h0, h2, ite_self, if_false]
  rw [if_neg q4]
  by_cases q5 : r = 74
  · rw [if_pos q5]
    subst q5
    rw [ZF_r (by omega), tZ_74]
  rw [if_neg q5]
  by_cases q6 : r ≤ 571
  · rw [if_pos q6, ZF_r (by omega), tZ_75 (by omega)]
  rw [if_neg q6]
  by_cases q7 : r = 572
  · rw [if_pos q7]
    subst q7
    rw [ZF_r (by omega), tZ_572]
  rw [if_neg q7]
  by_cases q8 : r ≤ 714
  · rw [if_pos q8, ZF_r (by omega), tZ_573 (by omega)]
  rw [if_neg q8]
  by_cases q9 : r = 715
  · rw [if_pos q9]
    subst q9
    unfold ar
    rw [ZF_r (by omega), tZ_715]
    by_cases h0 : k = -2
    · subst h0; rfl
    by_cases h1 : k = -1
    · subst h1; rfl
    simp only [h0, h1, ite_self, if_false]
  rw [if_neg q9]
  by_cases q10 : r = 716
  · rw [if_pos q10]
    subst q10
    rw [ZF_r (by omega), tZ_716]
    by_cases h0 : k = -2
    · subst h0; rfl
    by_cases h2 : k = 0
    · subst h2; rfl
    by_cases h6 : k = 4
    · subst h6; rfl
    simp only [h0, h2, h6, ite_self, if_false]
  rw [if_neg q10]
  by_cases q11 : r = 717
  · rw [if_pos q11]
    subst q11
    unfold ar
    rw [ZF_r (by omega), tZ_717]
    by_cases h0 : k = -2
    · subst h0; rfl
    by_cases h1 : k = -1
    · subst h1; rfl
    simp only [h0, h1, ite_self, if_false]
  rw [if_neg q11]
  by_cases q12 : r = 718
  · rw [if_pos q12]
    subst q12
    unfold ar
    rw [ZF_r (by omega), tZ_718]
    by_cases h0 : k = -2
    · subst h0; rfl
    by_cases h1 : k = -1
    · subst h1; rfl
    simp only [h0, h1, ite_self, if_false]
  rw [if_neg q12]
  by_cases q13 : r = 719
  · rw [if_pos q13]
    by_cases h0 : k = -2
    · rw [if_pos h0, q13, h0, ZF_r (by omega), tZ_719]; rfl
    · rw [if_neg h0, q13]
  rw [if_neg q13]
  by_cases q14 : r = 720
  · rw [if_pos q14, q14]
  rw [if_neg q14]
  by_cases q15 : r = 721
  · rw [if_pos q15]
    subst q15
    rw [ZF_r (by omega), tZ_721]
    by_cases h0 : k = -2
    · subst h0; rfl
    by_cases h2 : k = 0
    · subst h2; rfl
    by_cases h3 : k = 1
    · subst h3; rfl
    by_cases h5 : k = 3
    · subst h5; rfl
    by_cases h6 : k = 4
    · subst h6; rfl
    by_cases h9 : k = 7
    · subst h9; rfl
    by_cases h14 : k = 12
    · subst h14; rfl
    by_cases h16 : k = 14
    · subst h16; rfl
    simp only [h0, h2, h3, h5, h6, h9, h14, h16, ite_self, if_false]
  rw [if_neg q15]
  by_cases q16 : r = 722
  · rw [if_pos q16]
    subst q16
    unfold ar
    rw [ZF_r (by omega), tZ_722]
    by_cases h0 : k = -2
    · subst h0; rfl
    by_cases h1 : k = -1
    · subst h1; rfl
    by_cases h7 : k = 5
    · subst h7; rfl
    by_cases h8 : k = 6
    · subst h8; rfl
    by_cases h9 : k = 7
    · subst h9; rfl
    by_cases h10 : k = 8
    · subst h10; rfl
    by_cases h11 : k = 9
    · subst h11; rfl
    by_cases h16 : k = 14
    · subst h16; rfl
    by_cases h17 : k = 15
    · subst h17; rfl
    by_cases h18 : k = 16
    · subst h18; rfl
    by_cases h19 : k = 17
    · subst h19; rfl
    by_cases h20 : k = 18
    · subst h20; rfl
    by_cases h21 : k = 19
    · subst h21; rfl
    rw [show w0 k = 0 from by unfold w0; rw [if_neg h7, if_neg h8, if_neg h9, if_neg h10, if_neg h11, if_neg (by omega)]]
    simp only [h0, h1, h7, h8, h9, h10, h11, h16, h17, h18, h19, h20, h21, ite_self, if_false]
  rw [if_neg q16]
  by_cases q17 : r = 723
  · rw [if_pos q17]
    subst q17
    unfold ar
    rw [ZF_r (by omega), tZ_723]
    by_cases h0 : k = -2
    · subst h0; rfl
    by_cases h1 : k = -1
    · subst h1; rfl
    simp only [h0, h1, ite_self, if_false]
  rw [if_neg q17]
  by_cases q18 : r = 724
  · rw [if_pos q18]
    subst q18
    unfold ar
    rw [ZF_r (by omega), tZ_724]
    by_cases h0 : k = -2
    · subst h0; rfl
    by_cases h1 : k = -1
    · subst h1; rfl
    simp only [h0, h1, ite_self, if_false]
  rw [if_neg q18]
  by_cases q19 : r = 725
  · rw [if_pos q19]
    subst q19
    unfold ar
    rw [ZF_r (by omega), tZ_725]
    by_cases h0 : k = -2
    · subst h0; rfl
    by_cases h1 : k = -1
    · subst h1; rfl
    simp only [h0, h1, ite_self, if_false]
  rw [if_neg q19]
  by_cases q20 : r = 726
  · rw [if_pos q20]
    subst q20
    unfold ar
    rw [ZF_r (by omega), tZ_726]
    by_cases h0 : k = -2
    · subst h0; rfl
    by_cases h1 : k = -1
    · subst h1; rfl
    simp only [h0, h1, ite_self, if_false]
  rw [if_neg q20]
  by_cases q21 : r = 727
  · rw [if_pos q21]
    subst q21
    unfold ar
    rw [ZF_r (by omega), tZ_727]
    by_cases h0 : k = -2
    · subst h0; rfl
    by_cases h1 : k = -1
    · subst h1; rfl
    simp only [h0, h1, ite_self, if_false]
  rw [if_neg q21]
  by_cases q22 : r = 728
  · rw [if_pos q22]
    subst q22
    unfold ar
    rw [ZF_r (by omega), tZ_728]
    by_cases h0 : k = -2
    · subst h0; rfl
    by_cases h1 : k = -1
    · subst h1; rfl
    simp only [h0, h1, ite_self, if_false]
  rw [if_neg q22]
theorem IV_w0 : IV 0 w0 := by
  have z : ∀ i, i < 5 ∨ 20 ≤ i → w0 i = 0 := fun i h => w0_z h
  have a0 := z 0 (by omega)
  have a1 := z 1 (by omega)
  have a2 := z 2 (by omega)
  have a3 := z 3 (by omega)
  have a4 := z 4 (by omega)
  have a5 : w0 5 = 100 := Eq.trans rfl rfl
  have a6 : w0 6 = 30 := Eq.trans rfl rfl
  have a7 : w0 7 = 20 := Eq.trans rfl rfl
  have a8 : w0 8 = 20 := Eq.trans rfl rfl
  have a9 : w0 9 = 10 := Eq.trans rfl rfl
  have a10 : w0 10 = 0 := Eq.trans rfl rfl
  have a11 : w0 11 = 0 := Eq.trans rfl rfl
  have a12 : w0 12 = 0 := Eq.trans rfl rfl
  refine ⟨⟨?_, fun k h => ?_, fun o h => ?_, fun l h => ?_, fun e h => ?_, fun o h => ?_, fun l h => ?_⟩, fun l h => ?_, ?_, ?_, ?_⟩
  · unfold HEAD; omega
  · have e : w0 (14 + k) = 100 := by unfold w0; rw [if_neg (by omega), if_neg (by omega), if_neg (by omega), if_neg (by omega), if_neg (by omega), if_pos (by omega)]
    omega
  · unfold OWN
    rw [z (20 + 4 * o) (by omega), z (20 + 4 * o + 1) (by omega), z (20 + 4 * o + 2) (by omega), z (20 + 4 * o + 3) (by omega)]
    omega
  · omega
  · omega
  · exact ⟨z _ (by omega), z _ (by omega), z _ (by omega), z _ (by omega)⟩
  · exact ⟨z _ (by omega), z _ (by omega), z _ (by omega), z _ (by omega), z _ (by omega)⟩
  · omega
  · rw [a10, sm_0 (fun i hi => z _ (by omega))]
  · rw [a10, a2]; exact Int.le_refl 0
  · rw [a4, a2]; exact Int.le_refl 0
theorem zST_0 : zST 0 w0 (fun _ => w0) ZF := by
  have f : ∀ r k, 1 ≤ r → r ≤ 728 → ZF r k = tZ r k := fun r k h1 h2 => ZF_r ⟨h1, h2⟩ k
  have b1 : ZF 73 1 = 0 := by rw [f _ _ (by omega) (by omega), tZ_73]; rfl
  have b2 : ZF 73 2 = 0 := by rw [f _ _ (by omega) (by omega), tZ_73]; rfl
  have b3 : ZF 721 2 = 0 := by rw [f _ _ (by omega) (by omega), tZ_721]; rfl
  have b4 : ZF 721 5 = 0 := by rw [f _ _ (by omega) (by omega), tZ_721]; rfl
  have b5 : ZF 721 6 = 0 := by rw [f _ _ (by omega) (by omega), tZ_721]; rfl
  have b6 : ZF 1 6 = 0 := by rw [f _ _ (by omega) (by omega), tZ_1]; rfl
  have b7 : ZF 716 1 = 0 := by rw [f _ _ (by omega) (by omega), tZ_716]; rfl
  have b8 : ZF 719 0 = 720 := by rw [f _ _ (by omega) (by omega), tZ_719]; rfl
  have b9 : ZF 719 1 = 0 := by rw [f _ _ (by omega) (by omega), tZ_719]; rfl
  have b10 : ZF 719 3 = 0 := by rw [f _ _ (by omega) (by omega), tZ_719]; rfl
  have b11 : ZF 0 0 = 728 := Eq.trans rfl rfl
  have b12 : ZF 720 (-2) = 21 := by rw [f _ _ (by omega) (by omega), tZ_720]; rfl
  have b13 : ZF 720 (-1) = 16 := by rw [f _ _ (by omega) (by omega), tZ_720]; rfl
  refine ⟨IV_w0, ?_, fun s hs => ?_, ?_, ?_, ?_⟩
  · unfold zH
    rw [b1, b2, b3]
    exact ⟨by omega, by omega, rfl, fun k h => by omega⟩
  · have c1 : ZF 715 s = 0 := by rw [f _ _ (by omega) (by omega), tZ_715, if_neg (by omega), if_neg (by omega)]
    have c2 : ZF 725 s = 0 := by rw [f _ _ (by omega) (by omega), tZ_725, if_neg (by omega), if_neg (by omega)]
    rw [c1, c2]
    exact ⟨rfl, by omega, fun h => absurd rfl h⟩
  · unfold zR; rw [b4, b6]; omega
  · unfold zT; rw [b5, b7]
    exact ⟨rfl, by omega, fun i h => by omega⟩
  · unfold zD; rw [b8, b9, b10, b11, b12, b13]; omega
theorem law_all (sc : Int → Int) (sl : Int) (hsl : 0 ≤ sl ∧ sl ≤ 2560) : ∃ μ', f_L_law sc sl (5000 + 1000) m0 = some (1, μ') := by
  have x7 := i_X7 5000
  have x8 := i_X8 (T := tA9) 5000
  have l := law_loop (N := 5000 + 1000) (sc := sc) (sl := sl) (by omega) hsl 512 (5000 + 1000) 0 (600000 - 1 - 719 - 1 - 7) (7302250 - 7 - 6003 - 15 - 5022) 0 w0 (fun _ => w0) ZF zST_0 (by omega) (by omega) (by omega) (by omega) (by omega) (by omega)
  obtain ⟨μ', l⟩ := l
  rw [mk_ZF] at l
  refine ⟨μ', ?_⟩
  rw [← l]
  unfold f_L_law
  rw [← st_m0]
  simp only [to_bz, to_nz, to_cz, to_iz]
  simp (disch := omega) only [x7, x8, Int.reduceAdd, st_r, st_00, st_new, st_set, tS_e, tS_n, tN_k, tN_l, tN_0, tN_n, tB_k, bz_t, nz_t, cz_T, cz_t, iz_T, iz_F, iz_y, iz_n, not_true_eq_false, not_false_eq_true, true_and, and_true, w32_e, Int.add_zero]
  rfl
end FIN2
