/-! the law's loop -/
theorem i2c_r (a : Int) : 0 ≤ o_i2c a ∧ o_i2c a ≤ 65535 := by
  unfold o_i2c
  generalize (Int32.ofInt a).toUInt32 = u
  have h : (u % 65536).toBitVec.toNat = u.toNat % 65536 := UInt32.toNat_mod u 65536
  have e : ((u % 65536).toInt32).toInt = ((u % 65536).toBitVec.toNat : Int) := BitVec.toInt_eq_toNat_of_lt (by rw [UInt32.toBitVec_toInt32, h]; omega)
  rw [e, h]
  omega
section LAWL
variable {N : Nat} {sc : Int → Int} {sl : Int} {c : Int → Int → Int} {a : Mm} {w : Int → Int} {K : Int}
theorem br_0 (hN : 5000 ≤ N) (S : zST K w c a) (hK : K + 100 ≤ 60000) {k18 : Int → Int → Int → Int → Int → Mm → Rs} {x3 bc bs : Int} (hx : 0 ≤ x3 ∧ x3 + 5 ≤ sl ∧ sl ≤ 2560) (hb : 10 ≤ bc ∧ 2000 ≤ bs)
    (H : ∀ w' c' a', zST (K + 100) w' c' a' → ∃ μ', k18 1 721 (x3 + 5) bc bs (mk w' c' w' a') = some (1, μ')) : ∃ μ', f_L_law_b172 sc sl N k18 1 721 x3 bc bs (mk w c w a) = some (1, μ') := by
  obtain ⟨r, w', c', a1, a', X, M, S'⟩ := ok_addOwner hN S hK 
  obtain ⟨μ', h⟩ := H w' c' a' S'
  refine ⟨μ', ?_⟩
  unfold f_L_law_b172 f_L_law_b1029
  simp only [to_bz, to_nz, to_cz, to_iz]
  simp (disch := omega) only [X, M, bz_t, nz_t, cz_T, cz_t, iz_T, iz_F, iz_y, iz_n, not_true_eq_false, not_false_eq_true, true_and, and_true, w32_e, w64_e, mset_e, mset_n, up_e, up_n, if_y, if_n, Int.add_zero, mk_1_m2, mk_1_0, mk_1_1, mk_1_2, mk_1_3, mk_1_4, mk_1_5, mk_1_6, mk_2_m2, mk_2_0, mk_2_1, mk_2_2, mk_2_3, mk_2_4, mk_2_5, mk_2_6, mk_2_7, mk_2_8, mk_2_9, mk_2_10, mk_3_m2, mk_3_0, mk_3_1, mk_3_2, mk_3_3, mk_3_4, mk_3_5, mk_4_m2, mk_4_m1, mk_5_m2, mk_5_m1, mk_11_m2, mk_11_m1, mk_42_m2, mk_42_m1, mk_73_m2, mk_73_0, mk_73_1, mk_73_2, mk_74_m2, mk_74_m1, mk_572_m2, mk_572_m1, mk_715_m2, mk_715_m1, mk_717_m2, mk_717_m1, mk_718_m2, mk_718_m1, mk_722_m2, mk_722_m1, mk_723_m2, mk_723_m1, mk_724_m2, mk_724_m1, mk_725_m2, mk_725_m1, mk_726_m2, mk_726_m1, mk_727_m2, mk_727_m1, mk_728_m2, mk_728_m1, mk_716_m2, mk_716_0, mk_716_1, mk_716_2, mk_716_3, mk_716_4, mk_721_m2, mk_721_0, mk_721_1, mk_721_2, mk_721_3, mk_721_4, mk_721_5, mk_721_6, mk_721_7, mk_721_8, mk_721_9, mk_721_10, mk_721_11, mk_721_12, mk_721_13, mk_721_14, mk_719_m2, mk_74_at, mk_572_at, mk_715_at, mk_717_at, mk_718_at, mk_722_at, mk_723_at, mk_724_at, mk_725_at, mk_726_at, mk_727_at, mk_728_at, mk_4_at, mk_5_at, mk_11_at, mk_42_at, mk_O_k, mk_O_0, mk_O_1, mk_O_2, mk_O_3, mk_L_k, mk_L_0, mk_L_1, mk_L_2, mk_L_3, mk_L_4, mk_L_5, mk_L_6, mk_L_7, mk_L_8, mk_L_9, mk_L_10, mk_X_k, mk_X_0, mk_X_1, mk_X_2, mk_X_3, mk_X_4, mk_75_k, mk_573_k, r_1_6, r_73_1, r_73_2, r_716_1, r_716_2, r_716_3, r_721_2, r_721_5, r_721_6, r_721_8, r_721_9, r_721_10, r_721_11, r_721_13, r_715, r_717, r_718, r_723, r_724, r_725, r_726, r_727, r_728, s_O0, s_O1, s_O2, s_O3, s_L0, s_L1, s_L2, s_L3, s_L4, s_L5, s_L6, s_L7, s_L8, s_L9, s_L10, s_X0, s_X1, s_X2, s_X3, s_X4, s_2_4, s_2_5, s_2_6, s_2_7, s_2_8, s_2_9, s_2_10, s_3_1, s_3_2, s_3_3, s_3_4, s_3_5, s_4]
  exact h
theorem br_1 (hN : 5000 ≤ N) (S : zST K w c a) (hK : K + 100 ≤ 60000) {k18 : Int → Int → Int → Int → Int → Mm → Rs} {x3 bc bs : Int} (hx : 0 ≤ x3 ∧ x3 + 5 ≤ sl ∧ sl ≤ 2560) (hb : 10 ≤ bc ∧ 2000 ≤ bs)
    (H : ∀ w' c' a', zST (K + 100) w' c' a' → ∃ μ', k18 1 721 (x3 + 5) bc bs (mk w' c' w' a') = some (1, μ')) : ∃ μ', f_L_law_b185 sc sl N k18 1 721 x3 bc bs (mk w c w a) = some (1, μ') := by
  obtain ⟨r, w', c', a1, a', X, M, S'⟩ := ok_deposit hN S hK (sc (x3 + 1)) (sc (x3 + 2))
  obtain ⟨μ', h⟩ := H w' c' a' S'
  refine ⟨μ', ?_⟩
  unfold f_L_law_b185 f_L_law_b1029
  simp only [to_bz, to_nz, to_cz, to_iz]
  simp (disch := omega) only [X, M, bz_t, nz_t, cz_T, cz_t, iz_T, iz_F, iz_y, iz_n, not_true_eq_false, not_false_eq_true, true_and, and_true, w32_e, w64_e, mset_e, mset_n, up_e, up_n, if_y, if_n, Int.add_zero, mk_1_m2, mk_1_0, mk_1_1, mk_1_2, mk_1_3, mk_1_4, mk_1_5, mk_1_6, mk_2_m2, mk_2_0, mk_2_1, mk_2_2, mk_2_3, mk_2_4, mk_2_5, mk_2_6, mk_2_7, mk_2_8, mk_2_9, mk_2_10, mk_3_m2, mk_3_0, mk_3_1, mk_3_2, mk_3_3, mk_3_4, mk_3_5, mk_4_m2, mk_4_m1, mk_5_m2, mk_5_m1, mk_11_m2, mk_11_m1, mk_42_m2, mk_42_m1, mk_73_m2, mk_73_0, mk_73_1, mk_73_2, mk_74_m2, mk_74_m1, mk_572_m2, mk_572_m1, mk_715_m2, mk_715_m1, mk_717_m2, mk_717_m1, mk_718_m2, mk_718_m1, mk_722_m2, mk_722_m1, mk_723_m2, mk_723_m1, mk_724_m2, mk_724_m1, mk_725_m2, mk_725_m1, mk_726_m2, mk_726_m1, mk_727_m2, mk_727_m1, mk_728_m2, mk_728_m1, mk_716_m2, mk_716_0, mk_716_1, mk_716_2, mk_716_3, mk_716_4, mk_721_m2, mk_721_0, mk_721_1, mk_721_2, mk_721_3, mk_721_4, mk_721_5, mk_721_6, mk_721_7, mk_721_8, mk_721_9, mk_721_10, mk_721_11, mk_721_12, mk_721_13, mk_721_14, mk_719_m2, mk_74_at, mk_572_at, mk_715_at, mk_717_at, mk_718_at, mk_722_at, mk_723_at, mk_724_at, mk_725_at, mk_726_at, mk_727_at, mk_728_at, mk_4_at, mk_5_at, mk_11_at, mk_42_at, mk_O_k, mk_O_0, mk_O_1, mk_O_2, mk_O_3, mk_L_k, mk_L_0, mk_L_1, mk_L_2, mk_L_3, mk_L_4, mk_L_5, mk_L_6, mk_L_7, mk_L_8, mk_L_9, mk_L_10, mk_X_k, mk_X_0, mk_X_1, mk_X_2, mk_X_3, mk_X_4, mk_75_k, mk_573_k, r_1_6, r_73_1, r_73_2, r_716_1, r_716_2, r_716_3, r_721_2, r_721_5, r_721_6, r_721_8, r_721_9, r_721_10, r_721_11, r_721_13, r_715, r_717, r_718, r_723, r_724, r_725, r_726, r_727, r_728, s_O0, s_O1, s_O2, s_O3, s_L0, s_L1, s_L2, s_L3, s_L4, s_L5, s_L6, s_L7, s_L8, s_L9, s_L10, s_X0, s_X1, s_X2, s_X3, s_X4, s_2_4, s_2_5, s_2_6, s_2_7, s_2_8, s_2_9, s_2_10, s_3_1, s_3_2, s_3_3, s_3_4, s_3_5, s_4]
  exact h
theorem br_2 (hN : 5000 ≤ N) (S : zST K w c a) (hK : K + 100 ≤ 60000) {k18 : Int → Int → Int → Int → Int → Mm → Rs} {x3 bc bs : Int} (hx : 0 ≤ x3 ∧ x3 + 5 ≤ sl ∧ sl ≤ 2560) (hb : 10 ≤ bc ∧ 2000 ≤ bs)
    (H : ∀ w' c' a', zST (K + 100) w' c' a' → ∃ μ', k18 1 721 (x3 + 5) bc bs (mk w' c' w' a') = some (1, μ')) : ∃ μ', f_L_law_b218 sc sl N k18 1 721 x3 bc bs (mk w c w a) = some (1, μ') := by
  obtain ⟨r, w', c', a1, a', X, M, S'⟩ := ok_setGuarantee hN S hK (sc (x3 + 1)) (sc (x3 + 2))
  obtain ⟨μ', h⟩ := H w' c' a' S'
  refine ⟨μ', ?_⟩
  unfold f_L_law_b218 f_L_law_b1029
  simp only [to_bz, to_nz, to_cz, to_iz]
  simp (disch := omega) only [X, M, bz_t, nz_t, cz_T, cz_t, iz_T, iz_F, iz_y, iz_n, not_true_eq_false, not_false_eq_true, true_and, and_true, w32_e, w64_e, mset_e, mset_n, up_e, up_n, if_y, if_n, Int.add_zero, mk_1_m2, mk_1_0, mk_1_1, mk_1_2, mk_1_3, mk_1_4, mk_1_5, mk_1_6, mk_2_m2, mk_2_0, mk_2_1, mk_2_2, mk_2_3, mk_2_4, mk_2_5, mk_2_6, mk_2_7, mk_2_8, mk_2_9, mk_2_10, mk_3_m2, mk_3_0, mk_3_1, mk_3_2, mk_3_3, mk_3_4, mk_3_5, mk_4_m2, mk_4_m1, mk_5_m2, mk_5_m1, mk_11_m2, mk_11_m1, mk_42_m2, mk_42_m1, mk_73_m2, mk_73_0, mk_73_1, mk_73_2, mk_74_m2, mk_74_m1, mk_572_m2, mk_572_m1, mk_715_m2, mk_715_m1, mk_717_m2, mk_717_m1, mk_718_m2, mk_718_m1, mk_722_m2, mk_722_m1, mk_723_m2, mk_723_m1, mk_724_m2, mk_724_m1, mk_725_m2, mk_725_m1, mk_726_m2, mk_726_m1, mk_727_m2, mk_727_m1, mk_728_m2, mk_728_m1, mk_716_m2, mk_716_0, mk_716_1, mk_716_2, mk_716_3, mk_716_4, mk_721_m2, mk_721_0, mk_721_1, mk_721_2, mk_721_3, mk_721_4, mk_721_5, mk_721_6, mk_721_7, mk_721_8, mk_721_9, mk_721_10, mk_721_11, mk_721_12, mk_721_13, mk_721_14, mk_719_m2, mk_74_at, mk_572_at, mk_715_at, mk_717_at, mk_718_at, mk_722_at, mk_723_at, mk_724_at, mk_725_at, mk_726_at, mk_727_at, mk_728_at, mk_4_at, mk_5_at, mk_11_at, mk_42_at, mk_O_k, mk_O_0, mk_O_1, mk_O_2, mk_O_3, mk_L_k, mk_L_0, mk_L_1, mk_L_2, mk_L_3, mk_L_4, mk_L_5, mk_L_6, mk_L_7, mk_L_8, mk_L_9, mk_L_10, mk_X_k, mk_X_0, mk_X_1, mk_X_2, mk_X_3, mk_X_4, mk_75_k, mk_573_k, r_1_6, r_73_1, r_73_2, r_716_1, r_716_2, r_716_3, r_721_2, r_721_5, r_721_6, r_721_8, r_721_9, r_721_10, r_721_11, r_721_13, r_715, r_717, r_718, r_723, r_724, r_725, r_726, r_727, r_728, s_O0, s_O1, s_O2, s_O3, s_L0, s_L1, s_L2, s_L3, s_L4, s_L5, s_L6, s_L7, s_L8, s_L9, s_L10, s_X0, s_X1, s_X2, s_X3, s_X4, s_2_4, s_2_5, s_2_6, s_2_7, s_2_8, s_2_9, s_2_10, s_3_1, s_3_2, s_3_3, s_3_4, s_3_5, s_4]
  exact h
theorem br_3 (hN : 5000 ≤ N) (S : zST K w c a) (hK : K + 100 ≤ 60000) {k18 : Int → Int → Int → Int → Int → Mm → Rs} {x3 bc bs : Int} (hx : 0 ≤ x3 ∧ x3 + 5 ≤ sl ∧ sl ≤ 2560) (hb : 10 ≤ bc ∧ 2000 ≤ bs)
    (H : ∀ w' c' a', zST (K + 100) w' c' a' → ∃ μ', k18 1 721 (x3 + 5) bc bs (mk w' c' w' a') = some (1, μ')) : ∃ μ', f_L_law_b251 sc sl N k18 1 721 x3 bc bs (mk w c w a) = some (1, μ') := by
  obtain ⟨r, w', c', a1, a', X, M, S'⟩ := ok_setRate hN S hK (sc (x3 + 1)) (sc (x3 + 2))
  obtain ⟨μ', h⟩ := H w' c' a' S'
  refine ⟨μ', ?_⟩
  unfold f_L_law_b251 f_L_law_b1029
  simp only [to_bz, to_nz, to_cz, to_iz]
  simp (disch := omega) only [X, M, bz_t, nz_t, cz_T, cz_t, iz_T, iz_F, iz_y, iz_n, not_true_eq_false, not_false_eq_true, true_and, and_true, w32_e, w64_e, mset_e, mset_n, up_e, up_n, if_y, if_n, Int.add_zero, mk_1_m2, mk_1_0, mk_1_1, mk_1_2, mk_1_3, mk_1_4, mk_1_5, mk_1_6, mk_2_m2, mk_2_0, mk_2_1, mk_2_2, mk_2_3, mk_2_4, mk_2_5, mk_2_6, mk_2_7, mk_2_8, mk_2_9, mk_2_10, mk_3_m2, mk_3_0, mk_3_1, mk_3_2, mk_3_3, mk_3_4, mk_3_5, mk_4_m2, mk_4_m1, mk_5_m2, mk_5_m1, mk_11_m2, mk_11_m1, mk_42_m2, mk_42_m1, mk_73_m2, mk_73_0, mk_73_1, mk_73_2, mk_74_m2, mk_74_m1, mk_572_m2, mk_572_m1, mk_715_m2, mk_715_m1, mk_717_m2, mk_717_m1, mk_718_m2, mk_718_m1, mk_722_m2, mk_722_m1, mk_723_m2, mk_723_m1, mk_724_m2, mk_724_m1, mk_725_m2, mk_725_m1, mk_726_m2, mk_726_m1, mk_727_m2, mk_727_m1, mk_728_m2, mk_728_m1, mk_716_m2, mk_716_0, mk_716_1, mk_716_2, mk_716_3, mk_716_4, mk_721_m2, mk_721_0, mk_721_1, mk_721_2, mk_721_3, mk_721_4, mk_721_5, mk_721_6, mk_721_7, mk_721_8, mk_721_9, mk_721_10, mk_721_11, mk_721_12, mk_721_13, mk_721_14, mk_719_m2, mk_74_at, mk_572_at, mk_715_at, mk_717_at, mk_718_at, mk_722_at, mk_723_at, mk_724_at, mk_725_at, mk_726_at, mk_727_at, mk_728_at, mk_4_at, mk_5_at, mk_11_at, mk_42_at, mk_O_k, mk_O_0, mk_O_1, mk_O_2, mk_O_3, mk_L_k, mk_L_0, mk_L_1, mk_L_2, mk_L_3, mk_L_4, mk_L_5, mk_L_6, mk_L_7, mk_L_8, mk_L_9, mk_L_10, mk_X_k, mk_X_0, mk_X_1, mk_X_2, mk_X_3, mk_X_4, mk_75_k, mk_573_k, r_1_6, r_73_1, r_73_2, r_716_1, r_716_2, r_716_3, r_721_2, r_721_5, r_721_6, r_721_8, r_721_9, r_721_10, r_721_11, r_721_13, r_715, r_717, r_718, r_723, r_724, r_725, r_726, r_727, r_728, s_O0, s_O1, s_O2, s_O3, s_L0, s_L1, s_L2, s_L3, s_L4, s_L5, s_L6, s_L7, s_L8, s_L9, s_L10, s_X0, s_X1, s_X2, s_X3, s_X4, s_2_4, s_2_5, s_2_6, s_2_7, s_2_8, s_2_9, s_2_10, s_3_1, s_3_2, s_3_3, s_3_4, s_3_5, s_4]
  exact h
theorem br_4 (hN : 5000 ≤ N) (S : zST K w c a) (hK : K + 100 ≤ 60000) {k18 : Int → Int → Int → Int → Int → Mm → Rs} {x3 bc bs : Int} (hx : 0 ≤ x3 ∧ x3 + 5 ≤ sl ∧ sl ≤ 2560) (hb : 10 ≤ bc ∧ 2000 ≤ bs)
    (H : ∀ w' c' a', zST (K + 100) w' c' a' → ∃ μ', k18 1 721 (x3 + 5) bc bs (mk w' c' w' a') = some (1, μ')) : ∃ μ', f_L_law_b284 sc sl N k18 1 721 x3 bc bs (mk w c w a) = some (1, μ') := by
  obtain ⟨r, w', c', a1, a', X, M, S'⟩ := ok_setTerms hN S hK (sc (x3 + 1)) (sc (x3 + 2))
  obtain ⟨μ', h⟩ := H w' c' a' S'
  refine ⟨μ', ?_⟩
  unfold f_L_law_b284 f_L_law_b1029
  simp only [to_bz, to_nz, to_cz, to_iz]
  simp (disch := omega) only [X, M, bz_t, nz_t, cz_T, cz_t, iz_T, iz_F, iz_y, iz_n, not_true_eq_false, not_false_eq_true, true_and, and_true, w32_e, w64_e, mset_e, mset_n, up_e, up_n, if_y, if_n, Int.add_zero, mk_1_m2, mk_1_0, mk_1_1, mk_1_2, mk_1_3, mk_1_4, mk_1_5, mk_1_6, mk_2_m2, mk_2_0, mk_2_1, mk_2_2, mk_2_3, mk_2_4, mk_2_5, mk_2_6, mk_2_7, mk_2_8, mk_2_9, mk_2_10, mk_3_m2, mk_3_0, mk_3_1, mk_3_2, mk_3_3, mk_3_4, mk_3_5, mk_4_m2, mk_4_m1, mk_5_m2, mk_5_m1, mk_11_m2, mk_11_m1, mk_42_m2, mk_42_m1, mk_73_m2, mk_73_0, mk_73_1, mk_73_2, mk_74_m2, mk_74_m1, mk_572_m2, mk_572_m1, mk_715_m2, mk_715_m1, mk_717_m2, mk_717_m1, mk_718_m2, mk_718_m1, mk_722_m2, mk_722_m1, mk_723_m2, mk_723_m1, mk_724_m2, mk_724_m1, mk_725_m2, mk_725_m1, mk_726_m2, mk_726_m1, mk_727_m2, mk_727_m1, mk_728_m2, mk_728_m1, mk_716_m2, mk_716_0, mk_716_1, mk_716_2, mk_716_3, mk_716_4, mk_721_m2, mk_721_0, mk_721_1, mk_721_2, mk_721_3, mk_721_4, mk_721_5, mk_721_6, mk_721_7, mk_721_8, mk_721_9, mk_721_10, mk_721_11, mk_721_12, mk_721_13, mk_721_14, mk_719_m2, mk_74_at, mk_572_at, mk_715_at, mk_717_at, mk_718_at, mk_722_at, mk_723_at, mk_724_at, mk_725_at, mk_726_at, mk_727_at, mk_728_at, mk_4_at, mk_5_at, mk_11_at, mk_42_at, mk_O_k, mk_O_0, mk_O_1, mk_O_2, mk_O_3, mk_L_k, mk_L_0, mk_L_1, mk_L_2, mk_L_3, mk_L_4, mk_L_5, mk_L_6, mk_L_7, mk_L_8, mk_L_9, mk_L_10, mk_X_k, mk_X_0, mk_X_1, mk_X_2, mk_X_3, mk_X_4, mk_75_k, mk_573_k, r_1_6, r_73_1, r_73_2, r_716_1, r_716_2, r_716_3, r_721_2, r_721_5, r_721_6, r_721_8, r_721_9, r_721_10, r_721_11, r_721_13, r_715, r_717, r_718, r_723, r_724, r_725, r_726, r_727, r_728, s_O0, s_O1, s_O2, s_O3, s_L0, s_L1, s_L2, s_L3, s_L4, s_L5, s_L6, s_L7, s_L8, s_L9, s_L10, s_X0, s_X1, s_X2, s_X3, s_X4, s_2_4, s_2_5, s_2_6, s_2_7, s_2_8, s_2_9, s_2_10, s_3_1, s_3_2, s_3_3, s_3_4, s_3_5, s_4]
  exact h
theorem br_5 (hN : 5000 ≤ N) (S : zST K w c a) (hK : K + 100 ≤ 60000) {k18 : Int → Int → Int → Int → Int → Mm → Rs} {x3 bc bs : Int} (hx : 0 ≤ x3 ∧ x3 + 5 ≤ sl ∧ sl ≤ 2560) (hb : 10 ≤ bc ∧ 2000 ≤ bs)
    (H : ∀ w' c' a', zST (K + 100) w' c' a' → ∃ μ', k18 1 721 (x3 + 5) bc bs (mk w' c' w' a') = some (1, μ')) : ∃ μ', f_L_law_b317 sc sl N k18 1 721 x3 bc bs (mk w c w a) = some (1, μ') := by
  obtain ⟨r, w', c', a1, a', X, M, S'⟩ := ok_setRules hN S hK (sc (x3 + 1)) (sc (x3 + 2)) (sc (x3 + 3))
  obtain ⟨μ', h⟩ := H w' c' a' S'
  refine ⟨μ', ?_⟩
  unfold f_L_law_b317 f_L_law_b1029
  simp only [to_bz, to_nz, to_cz, to_iz]
  simp (disch := omega) only [X, M, bz_t, nz_t, cz_T, cz_t, iz_T, iz_F, iz_y, iz_n, not_true_eq_false, not_false_eq_true, true_and, and_true, w32_e, w64_e, mset_e, mset_n, up_e, up_n, if_y, if_n, Int.add_zero, mk_1_m2, mk_1_0, mk_1_1, mk_1_2, mk_1_3, mk_1_4, mk_1_5, mk_1_6, mk_2_m2, mk_2_0, mk_2_1, mk_2_2, mk_2_3, mk_2_4, mk_2_5, mk_2_6, mk_2_7, mk_2_8, mk_2_9, mk_2_10, mk_3_m2, mk_3_0, mk_3_1, mk_3_2, mk_3_3, mk_3_4, mk_3_5, mk_4_m2, mk_4_m1, mk_5_m2, mk_5_m1, mk_11_m2, mk_11_m1, mk_42_m2, mk_42_m1, mk_73_m2, mk_73_0, mk_73_1, mk_73_2, mk_74_m2, mk_74_m1, mk_572_m2, mk_572_m1, mk_715_m2, mk_715_m1, mk_717_m2, mk_717_m1, mk_718_m2, mk_718_m1, mk_722_m2, mk_722_m1, mk_723_m2, mk_723_m1, mk_724_m2, mk_724_m1, mk_725_m2, mk_725_m1, mk_726_m2, mk_726_m1, mk_727_m2, mk_727_m1, mk_728_m2, mk_728_m1, mk_716_m2, mk_716_0, mk_716_1, mk_716_2, mk_716_3, mk_716_4, mk_721_m2, mk_721_0, mk_721_1, mk_721_2, mk_721_3, mk_721_4, mk_721_5, mk_721_6, mk_721_7, mk_721_8, mk_721_9, mk_721_10, mk_721_11, mk_721_12, mk_721_13, mk_721_14, mk_719_m2, mk_74_at, mk_572_at, mk_715_at, mk_717_at, mk_718_at, mk_722_at, mk_723_at, mk_724_at, mk_725_at, mk_726_at, mk_727_at, mk_728_at, mk_4_at, mk_5_at, mk_11_at, mk_42_at, mk_O_k, mk_O_0, mk_O_1, mk_O_2, mk_O_3, mk_L_k, mk_L_0, mk_L_1, mk_L_2, mk_L_3, mk_L_4, mk_L_5, mk_L_6, mk_L_7, mk_L_8, mk_L_9, mk_L_10, mk_X_k, mk_X_0, mk_X_1, mk_X_2, mk_X_3, mk_X_4, mk_75_k, mk_573_k, r_1_6, r_73_1, r_73_2, r_716_1, r_716_2, r_716_3, r_721_2, r_721_5, r_721_6, r_721_8, r_721_9, r_721_10, r_721_11, r_721_13, r_715, r_717, r_718, r_723, r_724, r_725, r_726, r_727, r_728, s_O0, s_O1, s_O2, s_O3, s_L0, s_L1, s_L2, s_L3, s_L4, s_L5, s_L6, s_L7, s_L8, s_L9, s_L10, s_X0, s_X1, s_X2, s_X3, s_X4, s_2_4, s_2_5, s_2_6, s_2_7, s_2_8, s_2_9, s_2_10, s_3_1, s_3_2, s_3_3, s_3_4, s_3_5, s_4]
  exact h
theorem br_6 (hN : 5000 ≤ N) (S : zST K w c a) (hK : K + 100 ≤ 60000) {k18 : Int → Int → Int → Int → Int → Mm → Rs} {x3 bc bs : Int} (hx : 0 ≤ x3 ∧ x3 + 5 ≤ sl ∧ sl ≤ 2560) (hb : 10 ≤ bc ∧ 2000 ≤ bs)
    (H : ∀ w' c' a', zST (K + 100) w' c' a' → ∃ μ', k18 1 721 (x3 + 5) bc bs (mk w' c' w' a') = some (1, μ')) : ∃ μ', f_L_law_b360 sc sl N k18 1 721 x3 bc bs (mk w c w a) = some (1, μ') := by
  obtain ⟨r, w', c', a1, a', X, M, S'⟩ := ok_enter hN S hK (sc (x3 + 1)) (sc (x3 + 2)) (sc (x3 + 3)) (sc (x3 + 4))
  obtain ⟨μ', h⟩ := H w' c' a' S'
  refine ⟨μ', ?_⟩
  unfold f_L_law_b360 f_L_law_b1029
  simp only [to_bz, to_nz, to_cz, to_iz]
  simp (disch := omega) only [X, M, bz_t, nz_t, cz_T, cz_t, iz_T, iz_F, iz_y, iz_n, not_true_eq_false, not_false_eq_true, true_and, and_true, w32_e, w64_e, mset_e, mset_n, up_e, up_n, if_y, if_n, Int.add_zero, mk_1_m2, mk_1_0, mk_1_1, mk_1_2, mk_1_3, mk_1_4, mk_1_5, mk_1_6, mk_2_m2, mk_2_0, mk_2_1, mk_2_2, mk_2_3, mk_2_4, mk_2_5, mk_2_6, mk_2_7, mk_2_8, mk_2_9, mk_2_10, mk_3_m2, mk_3_0, mk_3_1, mk_3_2, mk_3_3, mk_3_4, mk_3_5, mk_4_m2, mk_4_m1, mk_5_m2, mk_5_m1, mk_11_m2, mk_11_m1, mk_42_m2, mk_42_m1, mk_73_m2, mk_73_0, mk_73_1, mk_73_2, mk_74_m2, mk_74_m1, mk_572_m2, mk_572_m1, mk_715_m2, mk_715_m1, mk_717_m2, mk_717_m1, mk_718_m2, mk_718_m1, mk_722_m2, mk_722_m1, mk_723_m2, mk_723_m1, mk_724_m2, mk_724_m1, mk_725_m2, mk_725_m1, mk_726_m2, mk_726_m1, mk_727_m2, mk_727_m1, mk_728_m2, mk_728_m1, mk_716_m2, mk_716_0, mk_716_1, mk_716_2, mk_716_3, mk_716_4, mk_721_m2, mk_721_0, mk_721_1, mk_721_2, mk_721_3, mk_721_4, mk_721_5, mk_721_6, mk_721_7, mk_721_8, mk_721_9, mk_721_10, mk_721_11, mk_721_12, mk_721_13, mk_721_14, mk_719_m2, mk_74_at, mk_572_at, mk_715_at, mk_717_at, mk_718_at, mk_722_at, mk_723_at, mk_724_at, mk_725_at, mk_726_at, mk_727_at, mk_728_at, mk_4_at, mk_5_at, mk_11_at, mk_42_at, mk_O_k, mk_O_0, mk_O_1, mk_O_2, mk_O_3, mk_L_k, mk_L_0, mk_L_1, mk_L_2, mk_L_3, mk_L_4, mk_L_5, mk_L_6, mk_L_7, mk_L_8, mk_L_9, mk_L_10, mk_X_k, mk_X_0, mk_X_1, mk_X_2, mk_X_3, mk_X_4, mk_75_k, mk_573_k, r_1_6, r_73_1, r_73_2, r_716_1, r_716_2, r_716_3, r_721_2, r_721_5, r_721_6, r_721_8, r_721_9, r_721_10, r_721_11, r_721_13, r_715, r_717, r_718, r_723, r_724, r_725, r_726, r_727, r_728, s_O0, s_O1, s_O2, s_O3, s_L0, s_L1, s_L2, s_L3, s_L4, s_L5, s_L6, s_L7, s_L8, s_L9, s_L10, s_X0, s_X1, s_X2, s_X3, s_X4, s_2_4, s_2_5, s_2_6, s_2_7, s_2_8, s_2_9, s_2_10, s_3_1, s_3_2, s_3_3, s_3_4, s_3_5, s_4]
  exact h
theorem br_7 (hN : 5000 ≤ N) (S : zST K w c a) (hK : K + 100 ≤ 60000) {k18 : Int → Int → Int → Int → Int → Mm → Rs} {x3 bc bs : Int} (hx : 0 ≤ x3 ∧ x3 + 5 ≤ sl ∧ sl ≤ 2560) (hb : 10 ≤ bc ∧ 2000 ≤ bs)
    (H : ∀ w' c' a', zST (K + 100) w' c' a' → ∃ μ', k18 1 721 (x3 + 5) bc bs (mk w' c' w' a') = some (1, μ')) : ∃ μ', f_L_law_b413 sc sl N k18 1 721 x3 bc bs (mk w c w a) = some (1, μ') := by
  obtain ⟨r, w', c', a1, a', X, M, S'⟩ := ok_release hN S hK (sc (x3 + 1)) (sc (x3 + 2))
  obtain ⟨μ', h⟩ := H w' c' a' S'
  refine ⟨μ', ?_⟩
  unfold f_L_law_b413 f_L_law_b1029
  simp only [to_bz, to_nz, to_cz, to_iz]
  simp (disch := omega) only [X, M, bz_t, nz_t, cz_T, cz_t, iz_T, iz_F, iz_y, iz_n, not_true_eq_false, not_false_eq_true, true_and, and_true, w32_e, w64_e, mset_e, mset_n, up_e, up_n, if_y, if_n, Int.add_zero, mk_1_m2, mk_1_0, mk_1_1, mk_1_2, mk_1_3, mk_1_4, mk_1_5, mk_1_6, mk_2_m2, mk_2_0, mk_2_1, mk_2_2, mk_2_3, mk_2_4, mk_2_5, mk_2_6, mk_2_7, mk_2_8, mk_2_9, mk_2_10, mk_3_m2, mk_3_0, mk_3_1, mk_3_2, mk_3_3, mk_3_4, mk_3_5, mk_4_m2, mk_4_m1, mk_5_m2, mk_5_m1, mk_11_m2, mk_11_m1, mk_42_m2, mk_42_m1, mk_73_m2, mk_73_0, mk_73_1, mk_73_2, mk_74_m2, mk_74_m1, mk_572_m2, mk_572_m1, mk_715_m2, mk_715_m1, mk_717_m2, mk_717_m1, mk_718_m2, mk_718_m1, mk_722_m2, mk_722_m1, mk_723_m2, mk_723_m1, mk_724_m2, mk_724_m1, mk_725_m2, mk_725_m1, mk_726_m2, mk_726_m1, mk_727_m2, mk_727_m1, mk_728_m2, mk_728_m1, mk_716_m2, mk_716_0, mk_716_1, mk_716_2, mk_716_3, mk_716_4, mk_721_m2, mk_721_0, mk_721_1, mk_721_2, mk_721_3, mk_721_4, mk_721_5, mk_721_6, mk_721_7, mk_721_8, mk_721_9, mk_721_10, mk_721_11, mk_721_12, mk_721_13, mk_721_14, mk_719_m2, mk_74_at, mk_572_at, mk_715_at, mk_717_at, mk_718_at, mk_722_at, mk_723_at, mk_724_at, mk_725_at, mk_726_at, mk_727_at, mk_728_at, mk_4_at, mk_5_at, mk_11_at, mk_42_at, mk_O_k, mk_O_0, mk_O_1, mk_O_2, mk_O_3, mk_L_k, mk_L_0, mk_L_1, mk_L_2, mk_L_3, mk_L_4, mk_L_5, mk_L_6, mk_L_7, mk_L_8, mk_L_9, mk_L_10, mk_X_k, mk_X_0, mk_X_1, mk_X_2, mk_X_3, mk_X_4, mk_75_k, mk_573_k, r_1_6, r_73_1, r_73_2, r_716_1, r_716_2, r_716_3, r_721_2, r_721_5, r_721_6, r_721_8, r_721_9, r_721_10, r_721_11, r_721_13, r_715, r_717, r_718, r_723, r_724, r_725, r_726, r_727, r_728, s_O0, s_O1, s_O2, s_O3, s_L0, s_L1, s_L2, s_L3, s_L4, s_L5, s_L6, s_L7, s_L8, s_L9, s_L10, s_X0, s_X1, s_X2, s_X3, s_X4, s_2_4, s_2_5, s_2_6, s_2_7, s_2_8, s_2_9, s_2_10, s_3_1, s_3_2, s_3_3, s_3_4, s_3_5, s_4]
  exact h
theorem br_8 (hN : 5000 ≤ N) (S : zST K w c a) (hK : K + 100 ≤ 60000) {k18 : Int → Int → Int → Int → Int → Mm → Rs} {x3 bc bs : Int} (hx : 0 ≤ x3 ∧ x3 + 5 ≤ sl ∧ sl ≤ 2560) (hb : 10 ≤ bc ∧ 2000 ≤ bs)
    (H : ∀ w' c' a', zST (K + 100) w' c' a' → ∃ μ', k18 1 721 (x3 + 5) bc bs (mk w' c' w' a') = some (1, μ')) : ∃ μ', f_L_law_b446 sc sl N k18 1 721 x3 bc bs (mk w c w a) = some (1, μ') := by
  obtain ⟨r, w', c', a1, a', X, M, S'⟩ := ok_sample hN S hK (sc (x3 + 1)) (sc (x3 + 2))
  obtain ⟨μ', h⟩ := H w' c' a' S'
  refine ⟨μ', ?_⟩
  unfold f_L_law_b446 f_L_law_b1029
  simp only [to_bz, to_nz, to_cz, to_iz]
  simp (disch := omega) only [X, M, bz_t, nz_t, cz_T, cz_t, iz_T, iz_F, iz_y, iz_n, not_true_eq_false, not_false_eq_true, true_and, and_true, w32_e, w64_e, mset_e, mset_n, up_e, up_n, if_y, if_n, Int.add_zero, mk_1_m2, mk_1_0, mk_1_1, mk_1_2, mk_1_3, mk_1_4, mk_1_5, mk_1_6, mk_2_m2, mk_2_0, mk_2_1, mk_2_2, mk_2_3, mk_2_4, mk_2_5, mk_2_6, mk_2_7, mk_2_8, mk_2_9, mk_2_10, mk_3_m2, mk_3_0, mk_3_1, mk_3_2, mk_3_3, mk_3_4, mk_3_5, mk_4_m2, mk_4_m1, mk_5_m2, mk_5_m1, mk_11_m2, mk_11_m1, mk_42_m2, mk_42_m1, mk_73_m2, mk_73_0, mk_73_1, mk_73_2, mk_74_m2, mk_74_m1, mk_572_m2, mk_572_m1, mk_715_m2, mk_715_m1, mk_717_m2, mk_717_m1, mk_718_m2, mk_718_m1, mk_722_m2, mk_722_m1, mk_723_m2, mk_723_m1, mk_724_m2, mk_724_m1, mk_725_m2, mk_725_m1, mk_726_m2, mk_726_m1, mk_727_m2, mk_727_m1, mk_728_m2, mk_728_m1, mk_716_m2, mk_716_0, mk_716_1, mk_716_2, mk_716_3, mk_716_4, mk_721_m2, mk_721_0, mk_721_1, mk_721_2, mk_721_3, mk_721_4, mk_721_5, mk_721_6, mk_721_7, mk_721_8, mk_721_9, mk_721_10, mk_721_11, mk_721_12, mk_721_13, mk_721_14, mk_719_m2, mk_74_at, mk_572_at, mk_715_at, mk_717_at, mk_718_at, mk_722_at, mk_723_at, mk_724_at, mk_725_at, mk_726_at, mk_727_at, mk_728_at, mk_4_at, mk_5_at, mk_11_at, mk_42_at, mk_O_k, mk_O_0, mk_O_1, mk_O_2, mk_O_3, mk_L_k, mk_L_0, mk_L_1, mk_L_2, mk_L_3, mk_L_4, mk_L_5, mk_L_6, mk_L_7, mk_L_8, mk_L_9, mk_L_10, mk_X_k, mk_X_0, mk_X_1, mk_X_2, mk_X_3, mk_X_4, mk_75_k, mk_573_k, r_1_6, r_73_1, r_73_2, r_716_1, r_716_2, r_716_3, r_721_2, r_721_5, r_721_6, r_721_8, r_721_9, r_721_10, r_721_11, r_721_13, r_715, r_717, r_718, r_723, r_724, r_725, r_726, r_727, r_728, s_O0, s_O1, s_O2, s_O3, s_L0, s_L1, s_L2, s_L3, s_L4, s_L5, s_L6, s_L7, s_L8, s_L9, s_L10, s_X0, s_X1, s_X2, s_X3, s_X4, s_2_4, s_2_5, s_2_6, s_2_7, s_2_8, s_2_9, s_2_10, s_3_1, s_3_2, s_3_3, s_3_4, s_3_5, s_4]
  exact h
theorem br_9 (hN : 5000 ≤ N) (S : zST K w c a) (hK : K + 100 ≤ 60000) {k18 : Int → Int → Int → Int → Int → Mm → Rs} {x3 bc bs : Int} (hx : 0 ≤ x3 ∧ x3 + 5 ≤ sl ∧ sl ≤ 2560) (hb : 10 ≤ bc ∧ 2000 ≤ bs)
    (H : ∀ w' c' a', zST (K + 100) w' c' a' → ∃ μ', k18 1 721 (x3 + 5) bc bs (mk w' c' w' a') = some (1, μ')) : ∃ μ', f_L_law_b479 sc sl N k18 1 721 x3 bc bs (mk w c w a) = some (1, μ') := by
  obtain ⟨r, w', c', a1, a', X, M, S'⟩ := ok_export hN S hK (sc (x3 + 1)) (sc (x3 + 2))
  obtain ⟨μ', h⟩ := H w' c' a' S'
  refine ⟨μ', ?_⟩
  unfold f_L_law_b479 f_L_law_b1029
  simp only [to_bz, to_nz, to_cz, to_iz]
  simp (disch := omega) only [X, M, bz_t, nz_t, cz_T, cz_t, iz_T, iz_F, iz_y, iz_n, not_true_eq_false, not_false_eq_true, true_and, and_true, w32_e, w64_e, mset_e, mset_n, up_e, up_n, if_y, if_n, Int.add_zero, mk_1_m2, mk_1_0, mk_1_1, mk_1_2, mk_1_3, mk_1_4, mk_1_5, mk_1_6, mk_2_m2, mk_2_0, mk_2_1, mk_2_2, mk_2_3, mk_2_4, mk_2_5, mk_2_6, mk_2_7, mk_2_8, mk_2_9, mk_2_10, mk_3_m2, mk_3_0, mk_3_1, mk_3_2, mk_3_3, mk_3_4, mk_3_5, mk_4_m2, mk_4_m1, mk_5_m2, mk_5_m1, mk_11_m2, mk_11_m1, mk_42_m2, mk_42_m1, mk_73_m2, mk_73_0, mk_73_1, mk_73_2, mk_74_m2, mk_74_m1, mk_572_m2, mk_572_m1, mk_715_m2, mk_715_m1, mk_717_m2, mk_717_m1, mk_718_m2, mk_718_m1, mk_722_m2, mk_722_m1, mk_723_m2, mk_723_m1, mk_724_m2, mk_724_m1, mk_725_m2, mk_725_m1, mk_726_m2, mk_726_m1, mk_727_m2, mk_727_m1, mk_728_m2, mk_728_m1, mk_716_m2, mk_716_0, mk_716_1, mk_716_2, mk_716_3, mk_716_4, mk_721_m2, mk_721_0, mk_721_1, mk_721_2, mk_721_3, mk_721_4, mk_721_5, mk_721_6, mk_721_7, mk_721_8, mk_721_9, mk_721_10, mk_721_11, mk_721_12, mk_721_13, mk_721_14, mk_719_m2, mk_74_at, mk_572_at, mk_715_at, mk_717_at, mk_718_at, mk_722_at, mk_723_at, mk_724_at, mk_725_at, mk_726_at, mk_727_at, mk_728_at, mk_4_at, mk_5_at, mk_11_at, mk_42_at, mk_O_k, mk_O_0, mk_O_1, mk_O_2, mk_O_3, mk_L_k, mk_L_0, mk_L_1, mk_L_2, mk_L_3, mk_L_4, mk_L_5, mk_L_6, mk_L_7, mk_L_8, mk_L_9, mk_L_10, mk_X_k, mk_X_0, mk_X_1, mk_X_2, mk_X_3, mk_X_4, mk_75_k, mk_573_k, r_1_6, r_73_1, r_73_2, r_716_1, r_716_2, r_716_3, r_721_2, r_721_5, r_721_6, r_721_8, r_721_9, r_721_10, r_721_11, r_721_13, r_715, r_717, r_718, r_723, r_724, r_725, r_726, r_727, r_728, s_O0, s_O1, s_O2, s_O3, s_L0, s_L1, s_L2, s_L3, s_L4, s_L5, s_L6, s_L7, s_L8, s_L9, s_L10, s_X0, s_X1, s_X2, s_X3, s_X4, s_2_4, s_2_5, s_2_6, s_2_7, s_2_8, s_2_9, s_2_10, s_3_1, s_3_2, s_3_3, s_3_4, s_3_5, s_4]
  exact h
theorem br_10 (hN : 5000 ≤ N) (S : zST K w c a) (hK : K + 100 ≤ 60000) {k18 : Int → Int → Int → Int → Int → Mm → Rs} {x3 bc bs : Int} (hx : 0 ≤ x3 ∧ x3 + 5 ≤ sl ∧ sl ≤ 2560) (hb : 10 ≤ bc ∧ 2000 ≤ bs)
    (H : ∀ w' c' a', zST (K + 100) w' c' a' → ∃ μ', k18 1 721 (x3 + 5) bc bs (mk w' c' w' a') = some (1, μ')) : ∃ μ', f_L_law_b512 sc sl N k18 1 721 x3 bc bs (mk w c w a) = some (1, μ') := by
  obtain ⟨r, w', c', a1, a', X, M, S'⟩ := ok_prove hN S hK (sc (x3 + 1))
  obtain ⟨μ', h⟩ := H w' c' a' S'
  refine ⟨μ', ?_⟩
  unfold f_L_law_b512 f_L_law_b1029
  simp only [to_bz, to_nz, to_cz, to_iz]
  simp (disch := omega) only [X, M, bz_t, nz_t, cz_T, cz_t, iz_T, iz_F, iz_y, iz_n, not_true_eq_false, not_false_eq_true, true_and, and_true, w32_e, w64_e, mset_e, mset_n, up_e, up_n, if_y, if_n, Int.add_zero, mk_1_m2, mk_1_0, mk_1_1, mk_1_2, mk_1_3, mk_1_4, mk_1_5, mk_1_6, mk_2_m2, mk_2_0, mk_2_1, mk_2_2, mk_2_3, mk_2_4, mk_2_5, mk_2_6, mk_2_7, mk_2_8, mk_2_9, mk_2_10, mk_3_m2, mk_3_0, mk_3_1, mk_3_2, mk_3_3, mk_3_4, mk_3_5, mk_4_m2, mk_4_m1, mk_5_m2, mk_5_m1, mk_11_m2, mk_11_m1, mk_42_m2, mk_42_m1, mk_73_m2, mk_73_0, mk_73_1, mk_73_2, mk_74_m2, mk_74_m1, mk_572_m2, mk_572_m1, mk_715_m2, mk_715_m1, mk_717_m2, mk_717_m1, mk_718_m2, mk_718_m1, mk_722_m2, mk_722_m1, mk_723_m2, mk_723_m1, mk_724_m2, mk_724_m1, mk_725_m2, mk_725_m1, mk_726_m2, mk_726_m1, mk_727_m2, mk_727_m1, mk_728_m2, mk_728_m1, mk_716_m2, mk_716_0, mk_716_1, mk_716_2, mk_716_3, mk_716_4, mk_721_m2, mk_721_0, mk_721_1, mk_721_2, mk_721_3, mk_721_4, mk_721_5, mk_721_6, mk_721_7, mk_721_8, mk_721_9, mk_721_10, mk_721_11, mk_721_12, mk_721_13, mk_721_14, mk_719_m2, mk_74_at, mk_572_at, mk_715_at, mk_717_at, mk_718_at, mk_722_at, mk_723_at, mk_724_at, mk_725_at, mk_726_at, mk_727_at, mk_728_at, mk_4_at, mk_5_at, mk_11_at, mk_42_at, mk_O_k, mk_O_0, mk_O_1, mk_O_2, mk_O_3, mk_L_k, mk_L_0, mk_L_1, mk_L_2, mk_L_3, mk_L_4, mk_L_5, mk_L_6, mk_L_7, mk_L_8, mk_L_9, mk_L_10, mk_X_k, mk_X_0, mk_X_1, mk_X_2, mk_X_3, mk_X_4, mk_75_k, mk_573_k, r_1_6, r_73_1, r_73_2, r_716_1, r_716_2, r_716_3, r_721_2, r_721_5, r_721_6, r_721_8, r_721_9, r_721_10, r_721_11, r_721_13, r_715, r_717, r_718, r_723, r_724, r_725, r_726, r_727, r_728, s_O0, s_O1, s_O2, s_O3, s_L0, s_L1, s_L2, s_L3, s_L4, s_L5, s_L6, s_L7, s_L8, s_L9, s_L10, s_X0, s_X1, s_X2, s_X3, s_X4, s_2_4, s_2_5, s_2_6, s_2_7, s_2_8, s_2_9, s_2_10, s_3_1, s_3_2, s_3_3, s_3_4, s_3_5, s_4]
  exact h
theorem br_11 (hN : 5000 ≤ N) (S : zST K w c a) (hK : K + 100 ≤ 60000) {k18 : Int → Int → Int → Int → Int → Mm → Rs} {x3 bc bs : Int} (hx : 0 ≤ x3 ∧ x3 + 5 ≤ sl ∧ sl ≤ 2560) (hb : 10 ≤ bc ∧ 2000 ≤ bs)
    (H : ∀ w' c' a', zST (K + 100) w' c' a' → ∃ μ', k18 1 721 (x3 + 5) bc bs (mk w' c' w' a') = some (1, μ')) : ∃ μ', f_L_law_b535 sc sl N k18 1 721 x3 bc bs (mk w c w a) = some (1, μ') := by
  obtain ⟨r, w', c', a1, a', X, M, S'⟩ := ok_destroy hN S hK (sc (x3 + 1)) (sc (x3 + 2))
  obtain ⟨μ', h⟩ := H w' c' a' S'
  refine ⟨μ', ?_⟩
  unfold f_L_law_b535 f_L_law_b1029
  simp only [to_bz, to_nz, to_cz, to_iz]
  simp (disch := omega) only [X, M, bz_t, nz_t, cz_T, cz_t, iz_T, iz_F, iz_y, iz_n, not_true_eq_false, not_false_eq_true, true_and, and_true, w32_e, w64_e, mset_e, mset_n, up_e, up_n, if_y, if_n, Int.add_zero, mk_1_m2, mk_1_0, mk_1_1, mk_1_2, mk_1_3, mk_1_4, mk_1_5, mk_1_6, mk_2_m2, mk_2_0, mk_2_1, mk_2_2, mk_2_3, mk_2_4, mk_2_5, mk_2_6, mk_2_7, mk_2_8, mk_2_9, mk_2_10, mk_3_m2, mk_3_0, mk_3_1, mk_3_2, mk_3_3, mk_3_4, mk_3_5, mk_4_m2, mk_4_m1, mk_5_m2, mk_5_m1, mk_11_m2, mk_11_m1, mk_42_m2, mk_42_m1, mk_73_m2, mk_73_0, mk_73_1, mk_73_2, mk_74_m2, mk_74_m1, mk_572_m2, mk_572_m1, mk_715_m2, mk_715_m1, mk_717_m2, mk_717_m1, mk_718_m2, mk_718_m1, mk_722_m2, mk_722_m1, mk_723_m2, mk_723_m1, mk_724_m2, mk_724_m1, mk_725_m2, mk_725_m1, mk_726_m2, mk_726_m1, mk_727_m2, mk_727_m1, mk_728_m2, mk_728_m1, mk_716_m2, mk_716_0, mk_716_1, mk_716_2, mk_716_3, mk_716_4, mk_721_m2, mk_721_0, mk_721_1, mk_721_2, mk_721_3, mk_721_4, mk_721_5, mk_721_6, mk_721_7, mk_721_8, mk_721_9, mk_721_10, mk_721_11, mk_721_12, mk_721_13, mk_721_14, mk_719_m2, mk_74_at, mk_572_at, mk_715_at, mk_717_at, mk_718_at, mk_722_at, mk_723_at, mk_724_at, mk_725_at, mk_726_at, mk_727_at, mk_728_at, mk_4_at, mk_5_at, mk_11_at, mk_42_at, mk_O_k, mk_O_0, mk_O_1, mk_O_2, mk_O_3, mk_L_k, mk_L_0, mk_L_1, mk_L_2, mk_L_3, mk_L_4, mk_L_5, mk_L_6, mk_L_7, mk_L_8, mk_L_9, mk_L_10, mk_X_k, mk_X_0, mk_X_1, mk_X_2, mk_X_3, mk_X_4, mk_75_k, mk_573_k, r_1_6, r_73_1, r_73_2, r_716_1, r_716_2, r_716_3, r_721_2, r_721_5, r_721_6, r_721_8, r_721_9, r_721_10, r_721_11, r_721_13, r_715, r_717, r_718, r_723, r_724, r_725, r_726, r_727, r_728, s_O0, s_O1, s_O2, s_O3, s_L0, s_L1, s_L2, s_L3, s_L4, s_L5, s_L6, s_L7, s_L8, s_L9, s_L10, s_X0, s_X1, s_X2, s_X3, s_X4, s_2_4, s_2_5, s_2_6, s_2_7, s_2_8, s_2_9, s_2_10, s_3_1, s_3_2, s_3_3, s_3_4, s_3_5, s_4]
  exact h
theorem br_12 (hN : 5000 ≤ N) (S : zST K w c a) (hK : K + 100 ≤ 60000) {k18 : Int → Int → Int → Int → Int → Mm → Rs} {x3 bc bs : Int} (hx : 0 ≤ x3 ∧ x3 + 5 ≤ sl ∧ sl ≤ 2560) (hb : 10 ≤ bc ∧ 2000 ≤ bs)
    (H : ∀ w' c' a', zST (K + 100) w' c' a' → ∃ μ', k18 1 721 (x3 + 5) bc bs (mk w' c' w' a') = some (1, μ')) : ∃ μ', f_L_law_b568 sc sl N k18 1 721 x3 bc bs (mk w c w a) = some (1, μ') := by
  obtain ⟨r, w', c', a1, a', X, M, S'⟩ := ok_give hN S hK (sc (x3 + 1)) (sc (x3 + 2))
  obtain ⟨μ', h⟩ := H w' c' a' S'
  refine ⟨μ', ?_⟩
  unfold f_L_law_b568 f_L_law_b1029
  simp only [to_bz, to_nz, to_cz, to_iz]
  simp (disch := omega) only [X, M, bz_t, nz_t, cz_T, cz_t, iz_T, iz_F, iz_y, iz_n, not_true_eq_false, not_false_eq_true, true_and, and_true, w32_e, w64_e, mset_e, mset_n, up_e, up_n, if_y, if_n, Int.add_zero, mk_1_m2, mk_1_0, mk_1_1, mk_1_2, mk_1_3, mk_1_4, mk_1_5, mk_1_6, mk_2_m2, mk_2_0, mk_2_1, mk_2_2, mk_2_3, mk_2_4, mk_2_5, mk_2_6, mk_2_7, mk_2_8, mk_2_9, mk_2_10, mk_3_m2, mk_3_0, mk_3_1, mk_3_2, mk_3_3, mk_3_4, mk_3_5, mk_4_m2, mk_4_m1, mk_5_m2, mk_5_m1, mk_11_m2, mk_11_m1, mk_42_m2, mk_42_m1, mk_73_m2, mk_73_0, mk_73_1, mk_73_2, mk_74_m2, mk_74_m1, mk_572_m2, mk_572_m1, mk_715_m2, mk_715_m1, mk_717_m2, mk_717_m1, mk_718_m2, mk_718_m1, mk_722_m2, mk_722_m1, mk_723_m2, mk_723_m1, mk_724_m2, mk_724_m1, mk_725_m2, mk_725_m1, mk_726_m2, mk_726_m1, mk_727_m2, mk_727_m1, mk_728_m2, mk_728_m1, mk_716_m2, mk_716_0, mk_716_1, mk_716_2, mk_716_3, mk_716_4, mk_721_m2, mk_721_0, mk_721_1, mk_721_2, mk_721_3, mk_721_4, mk_721_5, mk_721_6, mk_721_7, mk_721_8, mk_721_9, mk_721_10, mk_721_11, mk_721_12, mk_721_13, mk_721_14, mk_719_m2, mk_74_at, mk_572_at, mk_715_at, mk_717_at, mk_718_at, mk_722_at, mk_723_at, mk_724_at, mk_725_at, mk_726_at, mk_727_at, mk_728_at, mk_4_at, mk_5_at, mk_11_at, mk_42_at, mk_O_k, mk_O_0, mk_O_1, mk_O_2, mk_O_3, mk_L_k, mk_L_0, mk_L_1, mk_L_2, mk_L_3, mk_L_4, mk_L_5, mk_L_6, mk_L_7, mk_L_8, mk_L_9, mk_L_10, mk_X_k, mk_X_0, mk_X_1, mk_X_2, mk_X_3, mk_X_4, mk_75_k, mk_573_k, r_1_6, r_73_1, r_73_2, r_716_1, r_716_2, r_716_3, r_721_2, r_721_5, r_721_6, r_721_8, r_721_9, r_721_10, r_721_11, r_721_13, r_715, r_717, r_718, r_723, r_724, r_725, r_726, r_727, r_728, s_O0, s_O1, s_O2, s_O3, s_L0, s_L1, s_L2, s_L3, s_L4, s_L5, s_L6, s_L7, s_L8, s_L9, s_L10, s_X0, s_X1, s_X2, s_X3, s_X4, s_2_4, s_2_5, s_2_6, s_2_7, s_2_8, s_2_9, s_2_10, s_3_1, s_3_2, s_3_3, s_3_4, s_3_5, s_4]
  exact h
theorem br_13 (hN : 5000 ≤ N) (S : zST K w c a) (hK : K + 100 ≤ 60000) {k18 : Int → Int → Int → Int → Int → Mm → Rs} {x3 bc bs : Int} (hx : 0 ≤ x3 ∧ x3 + 5 ≤ sl ∧ sl ≤ 2560) (hb : 10 ≤ bc ∧ 2000 ≤ bs)
    (H : ∀ w' c' a', zST (K + 100) w' c' a' → ∃ μ', k18 1 721 (x3 + 5) bc bs (mk w' c' w' a') = some (1, μ')) : ∃ μ', f_L_law_b601 sc sl N k18 1 721 x3 bc bs (mk w c w a) = some (1, μ') := by
  obtain ⟨r, w', c', a1, a', X, M, S'⟩ := ok_pass hN S hK (sc (x3 + 1))
  obtain ⟨μ', h⟩ := H w' c' a' S'
  refine ⟨μ', ?_⟩
  unfold f_L_law_b601 f_L_law_b1029
  simp only [to_bz, to_nz, to_cz, to_iz]
  simp (disch := omega) only [X, M, bz_t, nz_t, cz_T, cz_t, iz_T, iz_F, iz_y, iz_n, not_true_eq_false, not_false_eq_true, true_and, and_true, w32_e, w64_e, mset_e, mset_n, up_e, up_n, if_y, if_n, Int.add_zero, mk_1_m2, mk_1_0, mk_1_1, mk_1_2, mk_1_3, mk_1_4, mk_1_5, mk_1_6, mk_2_m2, mk_2_0, mk_2_1, mk_2_2, mk_2_3, mk_2_4, mk_2_5, mk_2_6, mk_2_7, mk_2_8, mk_2_9, mk_2_10, mk_3_m2, mk_3_0, mk_3_1, mk_3_2, mk_3_3, mk_3_4, mk_3_5, mk_4_m2, mk_4_m1, mk_5_m2, mk_5_m1, mk_11_m2, mk_11_m1, mk_42_m2, mk_42_m1, mk_73_m2, mk_73_0, mk_73_1, mk_73_2, mk_74_m2, mk_74_m1, mk_572_m2, mk_572_m1, mk_715_m2, mk_715_m1, mk_717_m2, mk_717_m1, mk_718_m2, mk_718_m1, mk_722_m2, mk_722_m1, mk_723_m2, mk_723_m1, mk_724_m2, mk_724_m1, mk_725_m2, mk_725_m1, mk_726_m2, mk_726_m1, mk_727_m2, mk_727_m1, mk_728_m2, mk_728_m1, mk_716_m2, mk_716_0, mk_716_1, mk_716_2, mk_716_3, mk_716_4, mk_721_m2, mk_721_0, mk_721_1, mk_721_2, mk_721_3, mk_721_4, mk_721_5, mk_721_6, mk_721_7, mk_721_8, mk_721_9, mk_721_10, mk_721_11, mk_721_12, mk_721_13, mk_721_14, mk_719_m2, mk_74_at, mk_572_at, mk_715_at, mk_717_at, mk_718_at, mk_722_at, mk_723_at, mk_724_at, mk_725_at, mk_726_at, mk_727_at, mk_728_at, mk_4_at, mk_5_at, mk_11_at, mk_42_at, mk_O_k, mk_O_0, mk_O_1, mk_O_2, mk_O_3, mk_L_k, mk_L_0, mk_L_1, mk_L_2, mk_L_3, mk_L_4, mk_L_5, mk_L_6, mk_L_7, mk_L_8, mk_L_9, mk_L_10, mk_X_k, mk_X_0, mk_X_1, mk_X_2, mk_X_3, mk_X_4, mk_75_k, mk_573_k, r_1_6, r_73_1, r_73_2, r_716_1, r_716_2, r_716_3, r_721_2, r_721_5, r_721_6, r_721_8, r_721_9, r_721_10, r_721_11, r_721_13, r_715, r_717, r_718, r_723, r_724, r_725, r_726, r_727, r_728, s_O0, s_O1, s_O2, s_O3, s_L0, s_L1, s_L2, s_L3, s_L4, s_L5, s_L6, s_L7, s_L8, s_L9, s_L10, s_X0, s_X1, s_X2, s_X3, s_X4, s_2_4, s_2_5, s_2_6, s_2_7, s_2_8, s_2_9, s_2_10, s_3_1, s_3_2, s_3_3, s_3_4, s_3_5, s_4]
  exact h
theorem br_14 (hN : 5000 ≤ N) (S : zST K w c a) (hK : K + 100 ≤ 60000) {k18 : Int → Int → Int → Int → Int → Mm → Rs} {x3 bc bs : Int} (hx : 0 ≤ x3 ∧ x3 + 5 ≤ sl ∧ sl ≤ 2560) (hb : 10 ≤ bc ∧ 2000 ≤ bs)
    (H : ∀ w' c' a', zST (K + 100) w' c' a' → ∃ μ', k18 1 721 (x3 + 5) bc bs (mk w' c' w' a') = some (1, μ')) : ∃ μ', f_L_law_b624 sc sl N k18 1 721 x3 bc bs (mk w c w a) = some (1, μ') := by
  obtain ⟨r, w', c', a1, a', X, M, S'⟩ := ok_type (N := N) S hK (o_i2c (sc (x3 + 1))) (i2c_r _)
  obtain ⟨μ', h⟩ := H w' c' a' S'
  refine ⟨μ', ?_⟩
  unfold f_L_law_b624 f_L_law_b1029
  simp only [to_bz, to_nz, to_cz, to_iz]
  simp (disch := omega) only [X, M, bz_t, nz_t, cz_T, cz_t, iz_T, iz_F, iz_y, iz_n, not_true_eq_false, not_false_eq_true, true_and, and_true, w32_e, w64_e, mset_e, mset_n, up_e, up_n, if_y, if_n, Int.add_zero, mk_1_m2, mk_1_0, mk_1_1, mk_1_2, mk_1_3, mk_1_4, mk_1_5, mk_1_6, mk_2_m2, mk_2_0, mk_2_1, mk_2_2, mk_2_3, mk_2_4, mk_2_5, mk_2_6, mk_2_7, mk_2_8, mk_2_9, mk_2_10, mk_3_m2, mk_3_0, mk_3_1, mk_3_2, mk_3_3, mk_3_4, mk_3_5, mk_4_m2, mk_4_m1, mk_5_m2, mk_5_m1, mk_11_m2, mk_11_m1, mk_42_m2, mk_42_m1, mk_73_m2, mk_73_0, mk_73_1, mk_73_2, mk_74_m2, mk_74_m1, mk_572_m2, mk_572_m1, mk_715_m2, mk_715_m1, mk_717_m2, mk_717_m1, mk_718_m2, mk_718_m1, mk_722_m2, mk_722_m1, mk_723_m2, mk_723_m1, mk_724_m2, mk_724_m1, mk_725_m2, mk_725_m1, mk_726_m2, mk_726_m1, mk_727_m2, mk_727_m1, mk_728_m2, mk_728_m1, mk_716_m2, mk_716_0, mk_716_1, mk_716_2, mk_716_3, mk_716_4, mk_721_m2, mk_721_0, mk_721_1, mk_721_2, mk_721_3, mk_721_4, mk_721_5, mk_721_6, mk_721_7, mk_721_8, mk_721_9, mk_721_10, mk_721_11, mk_721_12, mk_721_13, mk_721_14, mk_719_m2, mk_74_at, mk_572_at, mk_715_at, mk_717_at, mk_718_at, mk_722_at, mk_723_at, mk_724_at, mk_725_at, mk_726_at, mk_727_at, mk_728_at, mk_4_at, mk_5_at, mk_11_at, mk_42_at, mk_O_k, mk_O_0, mk_O_1, mk_O_2, mk_O_3, mk_L_k, mk_L_0, mk_L_1, mk_L_2, mk_L_3, mk_L_4, mk_L_5, mk_L_6, mk_L_7, mk_L_8, mk_L_9, mk_L_10, mk_X_k, mk_X_0, mk_X_1, mk_X_2, mk_X_3, mk_X_4, mk_75_k, mk_573_k, r_1_6, r_73_1, r_73_2, r_716_1, r_716_2, r_716_3, r_721_2, r_721_5, r_721_6, r_721_8, r_721_9, r_721_10, r_721_11, r_721_13, r_715, r_717, r_718, r_723, r_724, r_725, r_726, r_727, r_728, s_O0, s_O1, s_O2, s_O3, s_L0, s_L1, s_L2, s_L3, s_L4, s_L5, s_L6, s_L7, s_L8, s_L9, s_L10, s_X0, s_X1, s_X2, s_X3, s_X4, s_2_4, s_2_5, s_2_6, s_2_7, s_2_8, s_2_9, s_2_10, s_3_1, s_3_2, s_3_3, s_3_4, s_3_5, s_4]
  exact h
theorem br_15 (hN : 5000 ≤ N) (S : zST K w c a) (hK : K + 100 ≤ 60000) {k18 : Int → Int → Int → Int → Int → Mm → Rs} {x3 bc bs : Int} (hx : 0 ≤ x3 ∧ x3 + 5 ≤ sl ∧ sl ≤ 2560) (hb : 10 ≤ bc ∧ 2000 ≤ bs)
    (H : ∀ w' c' a', zST (K + 100) w' c' a' → ∃ μ', k18 1 721 (x3 + 5) bc bs (mk w' c' w' a') = some (1, μ')) : ∃ μ', f_L_law_b649 sc sl N k18 1 721 x3 bc bs (mk w c w a) = some (1, μ') := by
  obtain ⟨r, w', c', a1, a', X, M, S'⟩ := ok_clearText (N := N) S hK 
  obtain ⟨μ', h⟩ := H w' c' a' S'
  refine ⟨μ', ?_⟩
  unfold f_L_law_b649 f_L_law_b1029
  simp only [to_bz, to_nz, to_cz, to_iz]
  simp (disch := omega) only [X, M, bz_t, nz_t, cz_T, cz_t, iz_T, iz_F, iz_y, iz_n, not_true_eq_false, not_false_eq_true, true_and, and_true, w32_e, w64_e, mset_e, mset_n, up_e, up_n, if_y, if_n, Int.add_zero, mk_1_m2, mk_1_0, mk_1_1, mk_1_2, mk_1_3, mk_1_4, mk_1_5, mk_1_6, mk_2_m2, mk_2_0, mk_2_1, mk_2_2, mk_2_3, mk_2_4, mk_2_5, mk_2_6, mk_2_7, mk_2_8, mk_2_9, mk_2_10, mk_3_m2, mk_3_0, mk_3_1, mk_3_2, mk_3_3, mk_3_4, mk_3_5, mk_4_m2, mk_4_m1, mk_5_m2, mk_5_m1, mk_11_m2, mk_11_m1, mk_42_m2, mk_42_m1, mk_73_m2, mk_73_0, mk_73_1, mk_73_2, mk_74_m2, mk_74_m1, mk_572_m2, mk_572_m1, mk_715_m2, mk_715_m1, mk_717_m2, mk_717_m1, mk_718_m2, mk_718_m1, mk_722_m2, mk_722_m1, mk_723_m2, mk_723_m1, mk_724_m2, mk_724_m1, mk_725_m2, mk_725_m1, mk_726_m2, mk_726_m1, mk_727_m2, mk_727_m1, mk_728_m2, mk_728_m1, mk_716_m2, mk_716_0, mk_716_1, mk_716_2, mk_716_3, mk_716_4, mk_721_m2, mk_721_0, mk_721_1, mk_721_2, mk_721_3, mk_721_4, mk_721_5, mk_721_6, mk_721_7, mk_721_8, mk_721_9, mk_721_10, mk_721_11, mk_721_12, mk_721_13, mk_721_14, mk_719_m2, mk_74_at, mk_572_at, mk_715_at, mk_717_at, mk_718_at, mk_722_at, mk_723_at, mk_724_at, mk_725_at, mk_726_at, mk_727_at, mk_728_at, mk_4_at, mk_5_at, mk_11_at, mk_42_at, mk_O_k, mk_O_0, mk_O_1, mk_O_2, mk_O_3, mk_L_k, mk_L_0, mk_L_1, mk_L_2, mk_L_3, mk_L_4, mk_L_5, mk_L_6, mk_L_7, mk_L_8, mk_L_9, mk_L_10, mk_X_k, mk_X_0, mk_X_1, mk_X_2, mk_X_3, mk_X_4, mk_75_k, mk_573_k, r_1_6, r_73_1, r_73_2, r_716_1, r_716_2, r_716_3, r_721_2, r_721_5, r_721_6, r_721_8, r_721_9, r_721_10, r_721_11, r_721_13, r_715, r_717, r_718, r_723, r_724, r_725, r_726, r_727, r_728, s_O0, s_O1, s_O2, s_O3, s_L0, s_L1, s_L2, s_L3, s_L4, s_L5, s_L6, s_L7, s_L8, s_L9, s_L10, s_X0, s_X1, s_X2, s_X3, s_X4, s_2_4, s_2_5, s_2_6, s_2_7, s_2_8, s_2_9, s_2_10, s_3_1, s_3_2, s_3_3, s_3_4, s_3_5, s_4]
  exact h
theorem br_16 (hN : 5000 ≤ N) (S : zST K w c a) (hK : K + 100 ≤ 60000) {k18 : Int → Int → Int → Int → Int → Mm → Rs} {x3 bc bs : Int} (hx : 0 ≤ x3 ∧ x3 + 5 ≤ sl ∧ sl ≤ 2560) (hb : 10 ≤ bc ∧ 2000 ≤ bs)
    (H : ∀ w' c' a', zST (K + 100) w' c' a' → ∃ μ', k18 1 721 (x3 + 5) bc bs (mk w' c' w' a') = some (1, μ')) : ∃ μ', f_L_law_b662 sc sl N k18 1 721 x3 bc bs (mk w c w a) = some (1, μ') := by
  obtain ⟨r, w', c', a1, a', X, M, S'⟩ := ok_runOrders hN S hK 
  obtain ⟨μ', h⟩ := H w' c' a' S'
  refine ⟨μ', ?_⟩
  unfold f_L_law_b662 f_L_law_b1029
  simp only [to_bz, to_nz, to_cz, to_iz]
  simp (disch := omega) only [X, M, bz_t, nz_t, cz_T, cz_t, iz_T, iz_F, iz_y, iz_n, not_true_eq_false, not_false_eq_true, true_and, and_true, w32_e, w64_e, mset_e, mset_n, up_e, up_n, if_y, if_n, Int.add_zero, mk_1_m2, mk_1_0, mk_1_1, mk_1_2, mk_1_3, mk_1_4, mk_1_5, mk_1_6, mk_2_m2, mk_2_0, mk_2_1, mk_2_2, mk_2_3, mk_2_4, mk_2_5, mk_2_6, mk_2_7, mk_2_8, mk_2_9, mk_2_10, mk_3_m2, mk_3_0, mk_3_1, mk_3_2, mk_3_3, mk_3_4, mk_3_5, mk_4_m2, mk_4_m1, mk_5_m2, mk_5_m1, mk_11_m2, mk_11_m1, mk_42_m2, mk_42_m1, mk_73_m2, mk_73_0, mk_73_1, mk_73_2, mk_74_m2, mk_74_m1, mk_572_m2, mk_572_m1, mk_715_m2, mk_715_m1, mk_717_m2, mk_717_m1, mk_718_m2, mk_718_m1, mk_722_m2, mk_722_m1, mk_723_m2, mk_723_m1, mk_724_m2, mk_724_m1, mk_725_m2, mk_725_m1, mk_726_m2, mk_726_m1, mk_727_m2, mk_727_m1, mk_728_m2, mk_728_m1, mk_716_m2, mk_716_0, mk_716_1, mk_716_2, mk_716_3, mk_716_4, mk_721_m2, mk_721_0, mk_721_1, mk_721_2, mk_721_3, mk_721_4, mk_721_5, mk_721_6, mk_721_7, mk_721_8, mk_721_9, mk_721_10, mk_721_11, mk_721_12, mk_721_13, mk_721_14, mk_719_m2, mk_74_at, mk_572_at, mk_715_at, mk_717_at, mk_718_at, mk_722_at, mk_723_at, mk_724_at, mk_725_at, mk_726_at, mk_727_at, mk_728_at, mk_4_at, mk_5_at, mk_11_at, mk_42_at, mk_O_k, mk_O_0, mk_O_1, mk_O_2, mk_O_3, mk_L_k, mk_L_0, mk_L_1, mk_L_2, mk_L_3, mk_L_4, mk_L_5, mk_L_6, mk_L_7, mk_L_8, mk_L_9, mk_L_10, mk_X_k, mk_X_0, mk_X_1, mk_X_2, mk_X_3, mk_X_4, mk_75_k, mk_573_k, r_1_6, r_73_1, r_73_2, r_716_1, r_716_2, r_716_3, r_721_2, r_721_5, r_721_6, r_721_8, r_721_9, r_721_10, r_721_11, r_721_13, r_715, r_717, r_718, r_723, r_724, r_725, r_726, r_727, r_728, s_O0, s_O1, s_O2, s_O3, s_L0, s_L1, s_L2, s_L3, s_L4, s_L5, s_L6, s_L7, s_L8, s_L9, s_L10, s_X0, s_X1, s_X2, s_X3, s_X4, s_2_4, s_2_5, s_2_6, s_2_7, s_2_8, s_2_9, s_2_10, s_3_1, s_3_2, s_3_3, s_3_4, s_3_5, s_4]
  exact h
theorem br_17 (hN : 5000 ≤ N) (S : zST K w c a) (hK : K + 100 ≤ 60000) {k18 : Int → Int → Int → Int → Int → Mm → Rs} {x3 bc bs : Int} (hx : 0 ≤ x3 ∧ x3 + 5 ≤ sl ∧ sl ≤ 2560) (hb : 10 ≤ bc ∧ 2000 ≤ bs)
    (H : ∀ w' c' a', zST (K + 100) w' c' a' → ∃ μ', k18 1 721 (x3 + 5) bc bs (mk w' c' w' a') = some (1, μ')) : ∃ μ', f_L_law_b675 sc sl N k18 1 721 x3 bc bs (mk w c w a) = some (1, μ') := by
  obtain ⟨r, w', c', a1, a', X, M, S'⟩ := ok_undo hN S hK 
  obtain ⟨μ', h⟩ := H w' c' a' S'
  refine ⟨μ', ?_⟩
  unfold f_L_law_b675 f_L_law_b1029
  simp only [to_bz, to_nz, to_cz, to_iz]
  simp (disch := omega) only [X, M, bz_t, nz_t, cz_T, cz_t, iz_T, iz_F, iz_y, iz_n, not_true_eq_false, not_false_eq_true, true_and, and_true, w32_e, w64_e, mset_e, mset_n, up_e, up_n, if_y, if_n, Int.add_zero, mk_1_m2, mk_1_0, mk_1_1, mk_1_2, mk_1_3, mk_1_4, mk_1_5, mk_1_6, mk_2_m2, mk_2_0, mk_2_1, mk_2_2, mk_2_3, mk_2_4, mk_2_5, mk_2_6, mk_2_7, mk_2_8, mk_2_9, mk_2_10, mk_3_m2, mk_3_0, mk_3_1, mk_3_2, mk_3_3, mk_3_4, mk_3_5, mk_4_m2, mk_4_m1, mk_5_m2, mk_5_m1, mk_11_m2, mk_11_m1, mk_42_m2, mk_42_m1, mk_73_m2, mk_73_0, mk_73_1, mk_73_2, mk_74_m2, mk_74_m1, mk_572_m2, mk_572_m1, mk_715_m2, mk_715_m1, mk_717_m2, mk_717_m1, mk_718_m2, mk_718_m1, mk_722_m2, mk_722_m1, mk_723_m2, mk_723_m1, mk_724_m2, mk_724_m1, mk_725_m2, mk_725_m1, mk_726_m2, mk_726_m1, mk_727_m2, mk_727_m1, mk_728_m2, mk_728_m1, mk_716_m2, mk_716_0, mk_716_1, mk_716_2, mk_716_3, mk_716_4, mk_721_m2, mk_721_0, mk_721_1, mk_721_2, mk_721_3, mk_721_4, mk_721_5, mk_721_6, mk_721_7, mk_721_8, mk_721_9, mk_721_10, mk_721_11, mk_721_12, mk_721_13, mk_721_14, mk_719_m2, mk_74_at, mk_572_at, mk_715_at, mk_717_at, mk_718_at, mk_722_at, mk_723_at, mk_724_at, mk_725_at, mk_726_at, mk_727_at, mk_728_at, mk_4_at, mk_5_at, mk_11_at, mk_42_at, mk_O_k, mk_O_0, mk_O_1, mk_O_2, mk_O_3, mk_L_k, mk_L_0, mk_L_1, mk_L_2, mk_L_3, mk_L_4, mk_L_5, mk_L_6, mk_L_7, mk_L_8, mk_L_9, mk_L_10, mk_X_k, mk_X_0, mk_X_1, mk_X_2, mk_X_3, mk_X_4, mk_75_k, mk_573_k, r_1_6, r_73_1, r_73_2, r_716_1, r_716_2, r_716_3, r_721_2, r_721_5, r_721_6, r_721_8, r_721_9, r_721_10, r_721_11, r_721_13, r_715, r_717, r_718, r_723, r_724, r_725, r_726, r_727, r_728, s_O0, s_O1, s_O2, s_O3, s_L0, s_L1, s_L2, s_L3, s_L4, s_L5, s_L6, s_L7, s_L8, s_L9, s_L10, s_X0, s_X1, s_X2, s_X3, s_X4, s_2_4, s_2_5, s_2_6, s_2_7, s_2_8, s_2_9, s_2_10, s_3_1, s_3_2, s_3_3, s_3_4, s_3_5, s_4]
  exact h
theorem br_18 (hN : 5000 ≤ N) (S : zST K w c a) (hK : K + 100 ≤ 60000) {k18 : Int → Int → Int → Int → Int → Mm → Rs} {x3 bc bs : Int} (hx : 0 ≤ x3 ∧ x3 + 5 ≤ sl ∧ sl ≤ 2560) (hb : 10 ≤ bc ∧ 2000 ≤ bs)
    (H : ∀ w' c' a', zST (K + 100) w' c' a' → ∃ μ', k18 1 721 (x3 + 5) bc bs (mk w' c' w' a') = some (1, μ')) : ∃ μ', f_L_law_b688 sc sl N k18 1 721 x3 bc bs (mk w c w a) = some (1, μ') := by
  obtain ⟨r, w', c', a1, a', X, M, S'⟩ := ok_keep hN S hK (sc (x3 + 1))
  obtain ⟨μ', h⟩ := H w' c' a' S'
  refine ⟨μ', ?_⟩
  unfold f_L_law_b688 f_L_law_b1029
  simp only [to_bz, to_nz, to_cz, to_iz]
  simp (disch := omega) only [X, M, bz_t, nz_t, cz_T, cz_t, iz_T, iz_F, iz_y, iz_n, not_true_eq_false, not_false_eq_true, true_and, and_true, w32_e, w64_e, mset_e, mset_n, up_e, up_n, if_y, if_n, Int.add_zero, mk_1_m2, mk_1_0, mk_1_1, mk_1_2, mk_1_3, mk_1_4, mk_1_5, mk_1_6, mk_2_m2, mk_2_0, mk_2_1, mk_2_2, mk_2_3, mk_2_4, mk_2_5, mk_2_6, mk_2_7, mk_2_8, mk_2_9, mk_2_10, mk_3_m2, mk_3_0, mk_3_1, mk_3_2, mk_3_3, mk_3_4, mk_3_5, mk_4_m2, mk_4_m1, mk_5_m2, mk_5_m1, mk_11_m2, mk_11_m1, mk_42_m2, mk_42_m1, mk_73_m2, mk_73_0, mk_73_1, mk_73_2, mk_74_m2, mk_74_m1, mk_572_m2, mk_572_m1, mk_715_m2, mk_715_m1, mk_717_m2, mk_717_m1, mk_718_m2, mk_718_m1, mk_722_m2, mk_722_m1, mk_723_m2, mk_723_m1, mk_724_m2, mk_724_m1, mk_725_m2, mk_725_m1, mk_726_m2, mk_726_m1, mk_727_m2, mk_727_m1, mk_728_m2, mk_728_m1, mk_716_m2, mk_716_0, mk_716_1, mk_716_2, mk_716_3, mk_716_4, mk_721_m2, mk_721_0, mk_721_1, mk_721_2, mk_721_3, mk_721_4, mk_721_5, mk_721_6, mk_721_7, mk_721_8, mk_721_9, mk_721_10, mk_721_11, mk_721_12, mk_721_13, mk_721_14, mk_719_m2, mk_74_at, mk_572_at, mk_715_at, mk_717_at, mk_718_at, mk_722_at, mk_723_at, mk_724_at, mk_725_at, mk_726_at, mk_727_at, mk_728_at, mk_4_at, mk_5_at, mk_11_at, mk_42_at, mk_O_k, mk_O_0, mk_O_1, mk_O_2, mk_O_3, mk_L_k, mk_L_0, mk_L_1, mk_L_2, mk_L_3, mk_L_4, mk_L_5, mk_L_6, mk_L_7, mk_L_8, mk_L_9, mk_L_10, mk_X_k, mk_X_0, mk_X_1, mk_X_2, mk_X_3, mk_X_4, mk_75_k, mk_573_k, r_1_6, r_73_1, r_73_2, r_716_1, r_716_2, r_716_3, r_721_2, r_721_5, r_721_6, r_721_8, r_721_9, r_721_10, r_721_11, r_721_13, r_715, r_717, r_718, r_723, r_724, r_725, r_726, r_727, r_728, s_O0, s_O1, s_O2, s_O3, s_L0, s_L1, s_L2, s_L3, s_L4, s_L5, s_L6, s_L7, s_L8, s_L9, s_L10, s_X0, s_X1, s_X2, s_X3, s_X4, s_2_4, s_2_5, s_2_6, s_2_7, s_2_8, s_2_9, s_2_10, s_3_1, s_3_2, s_3_3, s_3_4, s_3_5, s_4]
  exact h
theorem br_19 (hN : 5000 ≤ N) (S : zST K w c a) (hK : K + 100 ≤ 60000) {k18 : Int → Int → Int → Int → Int → Mm → Rs} {x3 bc bs : Int} (hx : 0 ≤ x3 ∧ x3 + 5 ≤ sl ∧ sl ≤ 2560) (hb : 10 ≤ bc ∧ 2000 ≤ bs)
    (H : ∀ w' c' a', zST (K + 100) w' c' a' → ∃ μ', k18 1 721 (x3 + 5) bc bs (mk w' c' w' a') = some (1, μ')) : ∃ μ', f_L_law_b711 sc sl N k18 1 721 x3 bc bs (mk w c w a) = some (1, μ') := by
  obtain ⟨r, w', c', a1, a', X, M, S'⟩ := ok_restore hN S hK (sc (x3 + 1))
  obtain ⟨μ', h⟩ := H w' c' a' S'
  refine ⟨μ', ?_⟩
  unfold f_L_law_b711 f_L_law_b1029
  simp only [to_bz, to_nz, to_cz, to_iz]
  simp (disch := omega) only [X, M, bz_t, nz_t, cz_T, cz_t, iz_T, iz_F, iz_y, iz_n, not_true_eq_false, not_false_eq_true, true_and, and_true, w32_e, w64_e, mset_e, mset_n, up_e, up_n, if_y, if_n, Int.add_zero, mk_1_m2, mk_1_0, mk_1_1, mk_1_2, mk_1_3, mk_1_4, mk_1_5, mk_1_6, mk_2_m2, mk_2_0, mk_2_1, mk_2_2, mk_2_3, mk_2_4, mk_2_5, mk_2_6, mk_2_7, mk_2_8, mk_2_9, mk_2_10, mk_3_m2, mk_3_0, mk_3_1, mk_3_2, mk_3_3, mk_3_4, mk_3_5, mk_4_m2, mk_4_m1, mk_5_m2, mk_5_m1, mk_11_m2, mk_11_m1, mk_42_m2, mk_42_m1, mk_73_m2, mk_73_0, mk_73_1, mk_73_2, mk_74_m2, mk_74_m1, mk_572_m2, mk_572_m1, mk_715_m2, mk_715_m1, mk_717_m2, mk_717_m1, mk_718_m2, mk_718_m1, mk_722_m2, mk_722_m1, mk_723_m2, mk_723_m1, mk_724_m2, mk_724_m1, mk_725_m2, mk_725_m1, mk_726_m2, mk_726_m1, mk_727_m2, mk_727_m1, mk_728_m2, mk_728_m1, mk_716_m2, mk_716_0, mk_716_1, mk_716_2, mk_716_3, mk_716_4, mk_721_m2, mk_721_0, mk_721_1, mk_721_2, mk_721_3, mk_721_4, mk_721_5, mk_721_6, mk_721_7, mk_721_8, mk_721_9, mk_721_10, mk_721_11, mk_721_12, mk_721_13, mk_721_14, mk_719_m2, mk_74_at, mk_572_at, mk_715_at, mk_717_at, mk_718_at, mk_722_at, mk_723_at, mk_724_at, mk_725_at, mk_726_at, mk_727_at, mk_728_at, mk_4_at, mk_5_at, mk_11_at, mk_42_at, mk_O_k, mk_O_0, mk_O_1, mk_O_2, mk_O_3, mk_L_k, mk_L_0, mk_L_1, mk_L_2, mk_L_3, mk_L_4, mk_L_5, mk_L_6, mk_L_7, mk_L_8, mk_L_9, mk_L_10, mk_X_k, mk_X_0, mk_X_1, mk_X_2, mk_X_3, mk_X_4, mk_75_k, mk_573_k, r_1_6, r_73_1, r_73_2, r_716_1, r_716_2, r_716_3, r_721_2, r_721_5, r_721_6, r_721_8, r_721_9, r_721_10, r_721_11, r_721_13, r_715, r_717, r_718, r_723, r_724, r_725, r_726, r_727, r_728, s_O0, s_O1, s_O2, s_O3, s_L0, s_L1, s_L2, s_L3, s_L4, s_L5, s_L6, s_L7, s_L8, s_L9, s_L10, s_X0, s_X1, s_X2, s_X3, s_X4, s_2_4, s_2_5, s_2_6, s_2_7, s_2_8, s_2_9, s_2_10, s_3_1, s_3_2, s_3_3, s_3_4, s_3_5, s_4]
  exact h
theorem br_20 (hN : 5000 ≤ N) (S : zST K w c a) (hK : K + 100 ≤ 60000) {k18 : Int → Int → Int → Int → Int → Mm → Rs} {x3 bc bs : Int} (hx : 0 ≤ x3 ∧ x3 + 5 ≤ sl ∧ sl ≤ 2560) (hb : 10 ≤ bc ∧ 2000 ≤ bs)
    (H : ∀ w' c' a', zST (K + 100) w' c' a' → ∃ μ', k18 1 721 (x3 + 5) bc bs (mk w' c' w' a') = some (1, μ')) : ∃ μ', f_L_law_b734 sc sl N k18 1 721 x3 bc bs (mk w c w a) = some (1, μ') := by
  obtain ⟨r, w', c', a1, a', X, M, S'⟩ := ok_owner hN S hK (sc (x3 + 1)) (sc (x3 + 2))
  obtain ⟨μ', h⟩ := H w' c' a' S'
  refine ⟨μ', ?_⟩
  unfold f_L_law_b734 f_L_law_b1029
  simp only [to_bz, to_nz, to_cz, to_iz]
  simp (disch := omega) only [X, M, bz_t, nz_t, cz_T, cz_t, iz_T, iz_F, iz_y, iz_n, not_true_eq_false, not_false_eq_true, true_and, and_true, w32_e, w64_e, mset_e, mset_n, up_e, up_n, if_y, if_n, Int.add_zero, mk_1_m2, mk_1_0, mk_1_1, mk_1_2, mk_1_3, mk_1_4, mk_1_5, mk_1_6, mk_2_m2, mk_2_0, mk_2_1, mk_2_2, mk_2_3, mk_2_4, mk_2_5, mk_2_6, mk_2_7, mk_2_8, mk_2_9, mk_2_10, mk_3_m2, mk_3_0, mk_3_1, mk_3_2, mk_3_3, mk_3_4, mk_3_5, mk_4_m2, mk_4_m1, mk_5_m2, mk_5_m1, mk_11_m2, mk_11_m1, mk_42_m2, mk_42_m1, mk_73_m2, mk_73_0, mk_73_1, mk_73_2, mk_74_m2, mk_74_m1, mk_572_m2, mk_572_m1, mk_715_m2, mk_715_m1, mk_717_m2, mk_717_m1, mk_718_m2, mk_718_m1, mk_722_m2, mk_722_m1, mk_723_m2, mk_723_m1, mk_724_m2, mk_724_m1, mk_725_m2, mk_725_m1, mk_726_m2, mk_726_m1, mk_727_m2, mk_727_m1, mk_728_m2, mk_728_m1, mk_716_m2, mk_716_0, mk_716_1, mk_716_2, mk_716_3, mk_716_4, mk_721_m2, mk_721_0, mk_721_1, mk_721_2, mk_721_3, mk_721_4, mk_721_5, mk_721_6, mk_721_7, mk_721_8, mk_721_9, mk_721_10, mk_721_11, mk_721_12, mk_721_13, mk_721_14, mk_719_m2, mk_74_at, mk_572_at, mk_715_at, mk_717_at, mk_718_at, mk_722_at, mk_723_at, mk_724_at, mk_725_at, mk_726_at, mk_727_at, mk_728_at, mk_4_at, mk_5_at, mk_11_at, mk_42_at, mk_O_k, mk_O_0, mk_O_1, mk_O_2, mk_O_3, mk_L_k, mk_L_0, mk_L_1, mk_L_2, mk_L_3, mk_L_4, mk_L_5, mk_L_6, mk_L_7, mk_L_8, mk_L_9, mk_L_10, mk_X_k, mk_X_0, mk_X_1, mk_X_2, mk_X_3, mk_X_4, mk_75_k, mk_573_k, r_1_6, r_73_1, r_73_2, r_716_1, r_716_2, r_716_3, r_721_2, r_721_5, r_721_6, r_721_8, r_721_9, r_721_10, r_721_11, r_721_13, r_715, r_717, r_718, r_723, r_724, r_725, r_726, r_727, r_728, s_O0, s_O1, s_O2, s_O3, s_L0, s_L1, s_L2, s_L3, s_L4, s_L5, s_L6, s_L7, s_L8, s_L9, s_L10, s_X0, s_X1, s_X2, s_X3, s_X4, s_2_4, s_2_5, s_2_6, s_2_7, s_2_8, s_2_9, s_2_10, s_3_1, s_3_2, s_3_3, s_3_4, s_3_5, s_4]
  exact h
theorem br_21 (hN : 5000 ≤ N) (S : zST K w c a) (hK : K + 100 ≤ 60000) {k18 : Int → Int → Int → Int → Int → Mm → Rs} {x3 bc bs : Int} (hx : 0 ≤ x3 ∧ x3 + 5 ≤ sl ∧ sl ≤ 2560) (hb : 10 ≤ bc ∧ 2000 ≤ bs)
    (H : ∀ w' c' a', zST (K + 100) w' c' a' → ∃ μ', k18 1 721 (x3 + 5) bc bs (mk w' c' w' a') = some (1, μ')) : ∃ μ', f_L_law_b768 sc sl N k18 1 721 x3 bc bs (mk w c w a) = some (1, μ') := by
  obtain ⟨r, w', c', a1, a', X, M, S'⟩ := ok_lot hN S hK (sc (x3 + 1)) (sc (x3 + 2))
  obtain ⟨μ', h⟩ := H w' c' a' S'
  refine ⟨μ', ?_⟩
  unfold f_L_law_b768 f_L_law_b1029
  simp only [to_bz, to_nz, to_cz, to_iz]
  simp (disch := omega) only [X, M, bz_t, nz_t, cz_T, cz_t, iz_T, iz_F, iz_y, iz_n, not_true_eq_false, not_false_eq_true, true_and, and_true, w32_e, w64_e, mset_e, mset_n, up_e, up_n, if_y, if_n, Int.add_zero, mk_1_m2, mk_1_0, mk_1_1, mk_1_2, mk_1_3, mk_1_4, mk_1_5, mk_1_6, mk_2_m2, mk_2_0, mk_2_1, mk_2_2, mk_2_3, mk_2_4, mk_2_5, mk_2_6, mk_2_7, mk_2_8, mk_2_9, mk_2_10, mk_3_m2, mk_3_0, mk_3_1, mk_3_2, mk_3_3, mk_3_4, mk_3_5, mk_4_m2, mk_4_m1, mk_5_m2, mk_5_m1, mk_11_m2, mk_11_m1, mk_42_m2, mk_42_m1, mk_73_m2, mk_73_0, mk_73_1, mk_73_2, mk_74_m2, mk_74_m1, mk_572_m2, mk_572_m1, mk_715_m2, mk_715_m1, mk_717_m2, mk_717_m1, mk_718_m2, mk_718_m1, mk_722_m2, mk_722_m1, mk_723_m2, mk_723_m1, mk_724_m2, mk_724_m1, mk_725_m2, mk_725_m1, mk_726_m2, mk_726_m1, mk_727_m2, mk_727_m1, mk_728_m2, mk_728_m1, mk_716_m2, mk_716_0, mk_716_1, mk_716_2, mk_716_3, mk_716_4, mk_721_m2, mk_721_0, mk_721_1, mk_721_2, mk_721_3, mk_721_4, mk_721_5, mk_721_6, mk_721_7, mk_721_8, mk_721_9, mk_721_10, mk_721_11, mk_721_12, mk_721_13, mk_721_14, mk_719_m2, mk_74_at, mk_572_at, mk_715_at, mk_717_at, mk_718_at, mk_722_at, mk_723_at, mk_724_at, mk_725_at, mk_726_at, mk_727_at, mk_728_at, mk_4_at, mk_5_at, mk_11_at, mk_42_at, mk_O_k, mk_O_0, mk_O_1, mk_O_2, mk_O_3, mk_L_k, mk_L_0, mk_L_1, mk_L_2, mk_L_3, mk_L_4, mk_L_5, mk_L_6, mk_L_7, mk_L_8, mk_L_9, mk_L_10, mk_X_k, mk_X_0, mk_X_1, mk_X_2, mk_X_3, mk_X_4, mk_75_k, mk_573_k, r_1_6, r_73_1, r_73_2, r_716_1, r_716_2, r_716_3, r_721_2, r_721_5, r_721_6, r_721_8, r_721_9, r_721_10, r_721_11, r_721_13, r_715, r_717, r_718, r_723, r_724, r_725, r_726, r_727, r_728, s_O0, s_O1, s_O2, s_O3, s_L0, s_L1, s_L2, s_L3, s_L4, s_L5, s_L6, s_L7, s_L8, s_L9, s_L10, s_X0, s_X1, s_X2, s_X3, s_X4, s_2_4, s_2_5, s_2_6, s_2_7, s_2_8, s_2_9, s_2_10, s_3_1, s_3_2, s_3_3, s_3_4, s_3_5, s_4]
  exact h
theorem br_22 (hN : 5000 ≤ N) (S : zST K w c a) (hK : K + 100 ≤ 60000) {k18 : Int → Int → Int → Int → Int → Mm → Rs} {x3 bc bs : Int} (hx : 0 ≤ x3 ∧ x3 + 5 ≤ sl ∧ sl ≤ 2560) (hb : 10 ≤ bc ∧ 2000 ≤ bs)
    (H : ∀ w' c' a', zST (K + 100) w' c' a' → ∃ μ', k18 1 721 (x3 + 5) bc bs (mk w' c' w' a') = some (1, μ')) : ∃ μ', f_L_law_b801 sc sl N k18 1 721 x3 bc bs (mk w c w a) = some (1, μ') := by
  obtain ⟨r, w', c', a1, a', X, M, S'⟩ := ok_exported (N := N) S hK (sc (x3 + 1)) (sc (x3 + 2))
  obtain ⟨μ', h⟩ := H w' c' a' S'
  refine ⟨μ', ?_⟩
  unfold f_L_law_b801 f_L_law_b1029
  simp only [to_bz, to_nz, to_cz, to_iz]
  simp (disch := omega) only [X, M, bz_t, nz_t, cz_T, cz_t, iz_T, iz_F, iz_y, iz_n, not_true_eq_false, not_false_eq_true, true_and, and_true, w32_e, w64_e, mset_e, mset_n, up_e, up_n, if_y, if_n, Int.add_zero, mk_1_m2, mk_1_0, mk_1_1, mk_1_2, mk_1_3, mk_1_4, mk_1_5, mk_1_6, mk_2_m2, mk_2_0, mk_2_1, mk_2_2, mk_2_3, mk_2_4, mk_2_5, mk_2_6, mk_2_7, mk_2_8, mk_2_9, mk_2_10, mk_3_m2, mk_3_0, mk_3_1, mk_3_2, mk_3_3, mk_3_4, mk_3_5, mk_4_m2, mk_4_m1, mk_5_m2, mk_5_m1, mk_11_m2, mk_11_m1, mk_42_m2, mk_42_m1, mk_73_m2, mk_73_0, mk_73_1, mk_73_2, mk_74_m2, mk_74_m1, mk_572_m2, mk_572_m1, mk_715_m2, mk_715_m1, mk_717_m2, mk_717_m1, mk_718_m2, mk_718_m1, mk_722_m2, mk_722_m1, mk_723_m2, mk_723_m1, mk_724_m2, mk_724_m1, mk_725_m2, mk_725_m1, mk_726_m2, mk_726_m1, mk_727_m2, mk_727_m1, mk_728_m2, mk_728_m1, mk_716_m2, mk_716_0, mk_716_1, mk_716_2, mk_716_3, mk_716_4, mk_721_m2, mk_721_0, mk_721_1, mk_721_2, mk_721_3, mk_721_4, mk_721_5, mk_721_6, mk_721_7, mk_721_8, mk_721_9, mk_721_10, mk_721_11, mk_721_12, mk_721_13, mk_721_14, mk_719_m2, mk_74_at, mk_572_at, mk_715_at, mk_717_at, mk_718_at, mk_722_at, mk_723_at, mk_724_at, mk_725_at, mk_726_at, mk_727_at, mk_728_at, mk_4_at, mk_5_at, mk_11_at, mk_42_at, mk_O_k, mk_O_0, mk_O_1, mk_O_2, mk_O_3, mk_L_k, mk_L_0, mk_L_1, mk_L_2, mk_L_3, mk_L_4, mk_L_5, mk_L_6, mk_L_7, mk_L_8, mk_L_9, mk_L_10, mk_X_k, mk_X_0, mk_X_1, mk_X_2, mk_X_3, mk_X_4, mk_75_k, mk_573_k, r_1_6, r_73_1, r_73_2, r_716_1, r_716_2, r_716_3, r_721_2, r_721_5, r_721_6, r_721_8, r_721_9, r_721_10, r_721_11, r_721_13, r_715, r_717, r_718, r_723, r_724, r_725, r_726, r_727, r_728, s_O0, s_O1, s_O2, s_O3, s_L0, s_L1, s_L2, s_L3, s_L4, s_L5, s_L6, s_L7, s_L8, s_L9, s_L10, s_X0, s_X1, s_X2, s_X3, s_X4, s_2_4, s_2_5, s_2_6, s_2_7, s_2_8, s_2_9, s_2_10, s_3_1, s_3_2, s_3_3, s_3_4, s_3_5, s_4]
  exact h
theorem br_23 (hN : 5000 ≤ N) (S : zST K w c a) (hK : K + 100 ≤ 60000) {k18 : Int → Int → Int → Int → Int → Mm → Rs} {x3 bc bs : Int} (hx : 0 ≤ x3 ∧ x3 + 5 ≤ sl ∧ sl ≤ 2560) (hb : 10 ≤ bc ∧ 2000 ≤ bs)
    (H : ∀ w' c' a', zST (K + 100) w' c' a' → ∃ μ', k18 1 721 (x3 + 5) (bc - 10) (bs - 2000) (mk w' c' w' a') = some (1, μ')) : ∃ μ', f_L_law_b834 sc sl N k18 1 721 x3 bc bs (mk w c w a) = some (1, μ') := by
  obtain ⟨r, w', c', a1, a', X, M, S'⟩ := ok_documentLength hN S hK (sc (x3 + 1))
  obtain ⟨μ', h⟩ := H w' c' a' S'
  refine ⟨μ', ?_⟩
  unfold f_L_law_b834 f_L_law_b1029
  simp only [to_bz, to_nz, to_cz, to_iz]
  simp (disch := omega) only [X, M, bz_t, nz_t, cz_T, cz_t, iz_T, iz_F, iz_y, iz_n, not_true_eq_false, not_false_eq_true, true_and, and_true, w32_e, w64_e, mset_e, mset_n, up_e, up_n, if_y, if_n, Int.add_zero, mk_1_m2, mk_1_0, mk_1_1, mk_1_2, mk_1_3, mk_1_4, mk_1_5, mk_1_6, mk_2_m2, mk_2_0, mk_2_1, mk_2_2, mk_2_3, mk_2_4, mk_2_5, mk_2_6, mk_2_7, mk_2_8, mk_2_9, mk_2_10, mk_3_m2, mk_3_0, mk_3_1, mk_3_2, mk_3_3, mk_3_4, mk_3_5, mk_4_m2, mk_4_m1, mk_5_m2, mk_5_m1, mk_11_m2, mk_11_m1, mk_42_m2, mk_42_m1, mk_73_m2, mk_73_0, mk_73_1, mk_73_2, mk_74_m2, mk_74_m1, mk_572_m2, mk_572_m1, mk_715_m2, mk_715_m1, mk_717_m2, mk_717_m1, mk_718_m2, mk_718_m1, mk_722_m2, mk_722_m1, mk_723_m2, mk_723_m1, mk_724_m2, mk_724_m1, mk_725_m2, mk_725_m1, mk_726_m2, mk_726_m1, mk_727_m2, mk_727_m1, mk_728_m2, mk_728_m1, mk_716_m2, mk_716_0, mk_716_1, mk_716_2, mk_716_3, mk_716_4, mk_721_m2, mk_721_0, mk_721_1, mk_721_2, mk_721_3, mk_721_4, mk_721_5, mk_721_6, mk_721_7, mk_721_8, mk_721_9, mk_721_10, mk_721_11, mk_721_12, mk_721_13, mk_721_14, mk_719_m2, mk_74_at, mk_572_at, mk_715_at, mk_717_at, mk_718_at, mk_722_at, mk_723_at, mk_724_at, mk_725_at, mk_726_at, mk_727_at, mk_728_at, mk_4_at, mk_5_at, mk_11_at, mk_42_at, mk_O_k, mk_O_0, mk_O_1, mk_O_2, mk_O_3, mk_L_k, mk_L_0, mk_L_1, mk_L_2, mk_L_3, mk_L_4, mk_L_5, mk_L_6, mk_L_7, mk_L_8, mk_L_9, mk_L_10, mk_X_k, mk_X_0, mk_X_1, mk_X_2, mk_X_3, mk_X_4, mk_75_k, mk_573_k, r_1_6, r_73_1, r_73_2, r_716_1, r_716_2, r_716_3, r_721_2, r_721_5, r_721_6, r_721_8, r_721_9, r_721_10, r_721_11, r_721_13, r_715, r_717, r_718, r_723, r_724, r_725, r_726, r_727, r_728, s_O0, s_O1, s_O2, s_O3, s_L0, s_L1, s_L2, s_L3, s_L4, s_L5, s_L6, s_L7, s_L8, s_L9, s_L10, s_X0, s_X1, s_X2, s_X3, s_X4, s_2_4, s_2_5, s_2_6, s_2_7, s_2_8, s_2_9, s_2_10, s_3_1, s_3_2, s_3_3, s_3_4, s_3_5, s_4]
  exact h
theorem br_24 (hN : 5000 ≤ N) (S : zST K w c a) (hK : K + 100 ≤ 60000) {k18 : Int → Int → Int → Int → Int → Mm → Rs} {x3 bc bs : Int} (hx : 0 ≤ x3 ∧ x3 + 5 ≤ sl ∧ sl ≤ 2560) (hb : 10 ≤ bc ∧ 2000 ≤ bs)
    (H : ∀ w' c' a', zST (K + 100) w' c' a' → ∃ μ', k18 1 721 (x3 + 5) (bc - 10) (bs - 2000) (mk w' c' w' a') = some (1, μ')) : ∃ μ', f_L_law_b857 sc sl N k18 1 721 x3 bc bs (mk w c w a) = some (1, μ') := by
  obtain ⟨r, w', c', a1, a', X, M, S'⟩ := ok_documentAt hN S hK (sc (x3 + 1)) (sc (x3 + 2))
  obtain ⟨μ', h⟩ := H w' c' a' S'
  refine ⟨μ', ?_⟩
  unfold f_L_law_b857 f_L_law_b1029
  simp only [to_bz, to_nz, to_cz, to_iz]
  simp (disch := omega) only [X, M, bz_t, nz_t, cz_T, cz_t, iz_T, iz_F, iz_y, iz_n, not_true_eq_false, not_false_eq_true, true_and, and_true, w32_e, w64_e, mset_e, mset_n, up_e, up_n, if_y, if_n, Int.add_zero, mk_1_m2, mk_1_0, mk_1_1, mk_1_2, mk_1_3, mk_1_4, mk_1_5, mk_1_6, mk_2_m2, mk_2_0, mk_2_1, mk_2_2, mk_2_3, mk_2_4, mk_2_5, mk_2_6, mk_2_7, mk_2_8, mk_2_9, mk_2_10, mk_3_m2, mk_3_0, mk_3_1, mk_3_2, mk_3_3, mk_3_4, mk_3_5, mk_4_m2, mk_4_m1, mk_5_m2, mk_5_m1, mk_11_m2, mk_11_m1, mk_42_m2, mk_42_m1, mk_73_m2, mk_73_0, mk_73_1, mk_73_2, mk_74_m2, mk_74_m1, mk_572_m2, mk_572_m1, mk_715_m2, mk_715_m1, mk_717_m2, mk_717_m1, mk_718_m2, mk_718_m1, mk_722_m2, mk_722_m1, mk_723_m2, mk_723_m1, mk_724_m2, mk_724_m1, mk_725_m2, mk_725_m1, mk_726_m2, mk_726_m1, mk_727_m2, mk_727_m1, mk_728_m2, mk_728_m1, mk_716_m2, mk_716_0, mk_716_1, mk_716_2, mk_716_3, mk_716_4, mk_721_m2, mk_721_0, mk_721_1, mk_721_2, mk_721_3, mk_721_4, mk_721_5, mk_721_6, mk_721_7, mk_721_8, mk_721_9, mk_721_10, mk_721_11, mk_721_12, mk_721_13, mk_721_14, mk_719_m2, mk_74_at, mk_572_at, mk_715_at, mk_717_at, mk_718_at, mk_722_at, mk_723_at, mk_724_at, mk_725_at, mk_726_at, mk_727_at, mk_728_at, mk_4_at, mk_5_at, mk_11_at, mk_42_at, mk_O_k, mk_O_0, mk_O_1, mk_O_2, mk_O_3, mk_L_k, mk_L_0, mk_L_1, mk_L_2, mk_L_3, mk_L_4, mk_L_5, mk_L_6, mk_L_7, mk_L_8, mk_L_9, mk_L_10, mk_X_k, mk_X_0, mk_X_1, mk_X_2, mk_X_3, mk_X_4, mk_75_k, mk_573_k, r_1_6, r_73_1, r_73_2, r_716_1, r_716_2, r_716_3, r_721_2, r_721_5, r_721_6, r_721_8, r_721_9, r_721_10, r_721_11, r_721_13, r_715, r_717, r_718, r_723, r_724, r_725, r_726, r_727, r_728, s_O0, s_O1, s_O2, s_O3, s_L0, s_L1, s_L2, s_L3, s_L4, s_L5, s_L6, s_L7, s_L8, s_L9, s_L10, s_X0, s_X1, s_X2, s_X3, s_X4, s_2_4, s_2_5, s_2_6, s_2_7, s_2_8, s_2_9, s_2_10, s_3_1, s_3_2, s_3_3, s_3_4, s_3_5, s_4]
  exact h
theorem br_25 (hN : 5000 ≤ N) (S : zST K w c a) (hK : K + 100 ≤ 60000) {k18 : Int → Int → Int → Int → Int → Mm → Rs} {x3 bc bs : Int} (hx : 0 ≤ x3 ∧ x3 + 5 ≤ sl ∧ sl ≤ 2560) (hb : 10 ≤ bc ∧ 2000 ≤ bs)
    (H : ∀ w' c' a', zST (K + 100) w' c' a' → ∃ μ', k18 1 721 (x3 + 5) bc bs (mk w' c' w' a') = some (1, μ')) : ∃ μ', f_L_law_b890 sc sl N k18 1 721 x3 bc bs (mk w c w a) = some (1, μ') := by
  obtain ⟨r, w', c', a1, a', X, M, S'⟩ := ok_nextDeadline hN S hK 
  obtain ⟨μ', h⟩ := H w' c' a' S'
  refine ⟨μ', ?_⟩
  unfold f_L_law_b890 f_L_law_b1029
  simp only [to_bz, to_nz, to_cz, to_iz]
  simp (disch := omega) only [X, M, bz_t, nz_t, cz_T, cz_t, iz_T, iz_F, iz_y, iz_n, not_true_eq_false, not_false_eq_true, true_and, and_true, w32_e, w64_e, mset_e, mset_n, up_e, up_n, if_y, if_n, Int.add_zero, mk_1_m2, mk_1_0, mk_1_1, mk_1_2, mk_1_3, mk_1_4, mk_1_5, mk_1_6, mk_2_m2, mk_2_0, mk_2_1, mk_2_2, mk_2_3, mk_2_4, mk_2_5, mk_2_6, mk_2_7, mk_2_8, mk_2_9, mk_2_10, mk_3_m2, mk_3_0, mk_3_1, mk_3_2, mk_3_3, mk_3_4, mk_3_5, mk_4_m2, mk_4_m1, mk_5_m2, mk_5_m1, mk_11_m2, mk_11_m1, mk_42_m2, mk_42_m1, mk_73_m2, mk_73_0, mk_73_1, mk_73_2, mk_74_m2, mk_74_m1, mk_572_m2, mk_572_m1, mk_715_m2, mk_715_m1, mk_717_m2, mk_717_m1, mk_718_m2, mk_718_m1, mk_722_m2, mk_722_m1, mk_723_m2, mk_723_m1, mk_724_m2, mk_724_m1, mk_725_m2, mk_725_m1, mk_726_m2, mk_726_m1, mk_727_m2, mk_727_m1, mk_728_m2, mk_728_m1, mk_716_m2, mk_716_0, mk_716_1, mk_716_2, mk_716_3, mk_716_4, mk_721_m2, mk_721_0, mk_721_1, mk_721_2, mk_721_3, mk_721_4, mk_721_5, mk_721_6, mk_721_7, mk_721_8, mk_721_9, mk_721_10, mk_721_11, mk_721_12, mk_721_13, mk_721_14, mk_719_m2, mk_74_at, mk_572_at, mk_715_at, mk_717_at, mk_718_at, mk_722_at, mk_723_at, mk_724_at, mk_725_at, mk_726_at, mk_727_at, mk_728_at, mk_4_at, mk_5_at, mk_11_at, mk_42_at, mk_O_k, mk_O_0, mk_O_1, mk_O_2, mk_O_3, mk_L_k, mk_L_0, mk_L_1, mk_L_2, mk_L_3, mk_L_4, mk_L_5, mk_L_6, mk_L_7, mk_L_8, mk_L_9, mk_L_10, mk_X_k, mk_X_0, mk_X_1, mk_X_2, mk_X_3, mk_X_4, mk_75_k, mk_573_k, r_1_6, r_73_1, r_73_2, r_716_1, r_716_2, r_716_3, r_721_2, r_721_5, r_721_6, r_721_8, r_721_9, r_721_10, r_721_11, r_721_13, r_715, r_717, r_718, r_723, r_724, r_725, r_726, r_727, r_728, s_O0, s_O1, s_O2, s_O3, s_L0, s_L1, s_L2, s_L3, s_L4, s_L5, s_L6, s_L7, s_L8, s_L9, s_L10, s_X0, s_X1, s_X2, s_X3, s_X4, s_2_4, s_2_5, s_2_6, s_2_7, s_2_8, s_2_9, s_2_10, s_3_1, s_3_2, s_3_3, s_3_4, s_3_5, s_4]
  exact h
theorem br_26 (hN : 5000 ≤ N) (S : zST K w c a) (hK : K + 100 ≤ 60000) {k18 : Int → Int → Int → Int → Int → Mm → Rs} {x3 bc bs : Int} (hx : 0 ≤ x3 ∧ x3 + 5 ≤ sl ∧ sl ≤ 2560) (hb : 10 ≤ bc ∧ 2000 ≤ bs)
    (H : ∀ w' c' a', zST (K + 100) w' c' a' → ∃ μ', k18 1 721 (x3 + 5) bc bs (mk w' c' w' a') = some (1, μ')) : ∃ μ', f_L_law_b903 sc sl N k18 1 721 x3 bc bs (mk w c w a) = some (1, μ') := by
  obtain ⟨r, w', c', a1, a', X, M, S'⟩ := ok_calledIn hN S hK (sc (x3 + 1))
  obtain ⟨μ', h⟩ := H w' c' a' S'
  refine ⟨μ', ?_⟩
  unfold f_L_law_b903 f_L_law_b1029
  simp only [to_bz, to_nz, to_cz, to_iz]
  simp (disch := omega) only [X, M, bz_t, nz_t, cz_T, cz_t, iz_T, iz_F, iz_y, iz_n, not_true_eq_false, not_false_eq_true, true_and, and_true, w32_e, w64_e, mset_e, mset_n, up_e, up_n, if_y, if_n, Int.add_zero, mk_1_m2, mk_1_0, mk_1_1, mk_1_2, mk_1_3, mk_1_4, mk_1_5, mk_1_6, mk_2_m2, mk_2_0, mk_2_1, mk_2_2, mk_2_3, mk_2_4, mk_2_5, mk_2_6, mk_2_7, mk_2_8, mk_2_9, mk_2_10, mk_3_m2, mk_3_0, mk_3_1, mk_3_2, mk_3_3, mk_3_4, mk_3_5, mk_4_m2, mk_4_m1, mk_5_m2, mk_5_m1, mk_11_m2, mk_11_m1, mk_42_m2, mk_42_m1, mk_73_m2, mk_73_0, mk_73_1, mk_73_2, mk_74_m2, mk_74_m1, mk_572_m2, mk_572_m1, mk_715_m2, mk_715_m1, mk_717_m2, mk_717_m1, mk_718_m2, mk_718_m1, mk_722_m2, mk_722_m1, mk_723_m2, mk_723_m1, mk_724_m2, mk_724_m1, mk_725_m2, mk_725_m1, mk_726_m2, mk_726_m1, mk_727_m2, mk_727_m1, mk_728_m2, mk_728_m1, mk_716_m2, mk_716_0, mk_716_1, mk_716_2, mk_716_3, mk_716_4, mk_721_m2, mk_721_0, mk_721_1, mk_721_2, mk_721_3, mk_721_4, mk_721_5, mk_721_6, mk_721_7, mk_721_8, mk_721_9, mk_721_10, mk_721_11, mk_721_12, mk_721_13, mk_721_14, mk_719_m2, mk_74_at, mk_572_at, mk_715_at, mk_717_at, mk_718_at, mk_722_at, mk_723_at, mk_724_at, mk_725_at, mk_726_at, mk_727_at, mk_728_at, mk_4_at, mk_5_at, mk_11_at, mk_42_at, mk_O_k, mk_O_0, mk_O_1, mk_O_2, mk_O_3, mk_L_k, mk_L_0, mk_L_1, mk_L_2, mk_L_3, mk_L_4, mk_L_5, mk_L_6, mk_L_7, mk_L_8, mk_L_9, mk_L_10, mk_X_k, mk_X_0, mk_X_1, mk_X_2, mk_X_3, mk_X_4, mk_75_k, mk_573_k, r_1_6, r_73_1, r_73_2, r_716_1, r_716_2, r_716_3, r_721_2, r_721_5, r_721_6, r_721_8, r_721_9, r_721_10, r_721_11, r_721_13, r_715, r_717, r_718, r_723, r_724, r_725, r_726, r_727, r_728, s_O0, s_O1, s_O2, s_O3, s_L0, s_L1, s_L2, s_L3, s_L4, s_L5, s_L6, s_L7, s_L8, s_L9, s_L10, s_X0, s_X1, s_X2, s_X3, s_X4, s_2_4, s_2_5, s_2_6, s_2_7, s_2_8, s_2_9, s_2_10, s_3_1, s_3_2, s_3_3, s_3_4, s_3_5, s_4]
  exact h
theorem br_27 (hN : 5000 ≤ N) (S : zST K w c a) (hK : K + 100 ≤ 60000) {k18 : Int → Int → Int → Int → Int → Mm → Rs} {x3 bc bs : Int} (hx : 0 ≤ x3 ∧ x3 + 5 ≤ sl ∧ sl ≤ 2560) (hb : 10 ≤ bc ∧ 2000 ≤ bs)
    (H : ∀ w' c' a', zST (K + 100) w' c' a' → ∃ μ', k18 1 721 (x3 + 5) bc bs (mk w' c' w' a') = some (1, μ')) : ∃ μ', f_L_law_b926 sc sl N k18 1 721 x3 bc bs (mk w c w a) = some (1, μ') := by
  obtain ⟨r, w', c', a1, a', X, M, S'⟩ := ok_greatestValue hN S hK (sc (x3 + 1)) (sc (x3 + 2))
  obtain ⟨μ', h⟩ := H w' c' a' S'
  refine ⟨μ', ?_⟩
  unfold f_L_law_b926 f_L_law_b1029
  simp only [to_bz, to_nz, to_cz, to_iz]
  simp (disch := omega) only [X, M, bz_t, nz_t, cz_T, cz_t, iz_T, iz_F, iz_y, iz_n, not_true_eq_false, not_false_eq_true, true_and, and_true, w32_e, w64_e, mset_e, mset_n, up_e, up_n, if_y, if_n, Int.add_zero, mk_1_m2, mk_1_0, mk_1_1, mk_1_2, mk_1_3, mk_1_4, mk_1_5, mk_1_6, mk_2_m2, mk_2_0, mk_2_1, mk_2_2, mk_2_3, mk_2_4, mk_2_5, mk_2_6, mk_2_7, mk_2_8, mk_2_9, mk_2_10, mk_3_m2, mk_3_0, mk_3_1, mk_3_2, mk_3_3, mk_3_4, mk_3_5, mk_4_m2, mk_4_m1, mk_5_m2, mk_5_m1, mk_11_m2, mk_11_m1, mk_42_m2, mk_42_m1, mk_73_m2, mk_73_0, mk_73_1, mk_73_2, mk_74_m2, mk_74_m1, mk_572_m2, mk_572_m1, mk_715_m2, mk_715_m1, mk_717_m2, mk_717_m1, mk_718_m2, mk_718_m1, mk_722_m2, mk_722_m1, mk_723_m2, mk_723_m1, mk_724_m2, mk_724_m1, mk_725_m2, mk_725_m1, mk_726_m2, mk_726_m1, mk_727_m2, mk_727_m1, mk_728_m2, mk_728_m1, mk_716_m2, mk_716_0, mk_716_1, mk_716_2, mk_716_3, mk_716_4, mk_721_m2, mk_721_0, mk_721_1, mk_721_2, mk_721_3, mk_721_4, mk_721_5, mk_721_6, mk_721_7, mk_721_8, mk_721_9, mk_721_10, mk_721_11, mk_721_12, mk_721_13, mk_721_14, mk_719_m2, mk_74_at, mk_572_at, mk_715_at, mk_717_at, mk_718_at, mk_722_at, mk_723_at, mk_724_at, mk_725_at, mk_726_at, mk_727_at, mk_728_at, mk_4_at, mk_5_at, mk_11_at, mk_42_at, mk_O_k, mk_O_0, mk_O_1, mk_O_2, mk_O_3, mk_L_k, mk_L_0, mk_L_1, mk_L_2, mk_L_3, mk_L_4, mk_L_5, mk_L_6, mk_L_7, mk_L_8, mk_L_9, mk_L_10, mk_X_k, mk_X_0, mk_X_1, mk_X_2, mk_X_3, mk_X_4, mk_75_k, mk_573_k, r_1_6, r_73_1, r_73_2, r_716_1, r_716_2, r_716_3, r_721_2, r_721_5, r_721_6, r_721_8, r_721_9, r_721_10, r_721_11, r_721_13, r_715, r_717, r_718, r_723, r_724, r_725, r_726, r_727, r_728, s_O0, s_O1, s_O2, s_O3, s_L0, s_L1, s_L2, s_L3, s_L4, s_L5, s_L6, s_L7, s_L8, s_L9, s_L10, s_X0, s_X1, s_X2, s_X3, s_X4, s_2_4, s_2_5, s_2_6, s_2_7, s_2_8, s_2_9, s_2_10, s_3_1, s_3_2, s_3_3, s_3_4, s_3_5, s_4]
  exact h
theorem br_28 (hN : 5000 ≤ N) (S : zST K w c a) (hK : K + 100 ≤ 60000) {k18 : Int → Int → Int → Int → Int → Mm → Rs} {x3 bc bs : Int} (hx : 0 ≤ x3 ∧ x3 + 5 ≤ sl ∧ sl ≤ 2560) (hb : 10 ≤ bc ∧ 2000 ≤ bs)
    (H : ∀ w' c' a', zST (K + 100) w' c' a' → ∃ μ', k18 1 721 (x3 + 5) bc bs (mk w' c' w' a') = some (1, μ')) : ∃ μ', f_L_law_b959 sc sl N k18 1 721 x3 bc bs (mk w c w a) = some (1, μ') := by
  obtain ⟨r, w', c', a1, a', X, M, S'⟩ := ok_account hN S hK (sc (x3 + 1))
  obtain ⟨μ', h⟩ := H w' c' a' S'
  refine ⟨μ', ?_⟩
  unfold f_L_law_b959 f_L_law_b1029
  simp only [to_bz, to_nz, to_cz, to_iz]
  simp (disch := omega) only [X, M, bz_t, nz_t, cz_T, cz_t, iz_T, iz_F, iz_y, iz_n, not_true_eq_false, not_false_eq_true, true_and, and_true, w32_e, w64_e, mset_e, mset_n, up_e, up_n, if_y, if_n, Int.add_zero, mk_1_m2, mk_1_0, mk_1_1, mk_1_2, mk_1_3, mk_1_4, mk_1_5, mk_1_6, mk_2_m2, mk_2_0, mk_2_1, mk_2_2, mk_2_3, mk_2_4, mk_2_5, mk_2_6, mk_2_7, mk_2_8, mk_2_9, mk_2_10, mk_3_m2, mk_3_0, mk_3_1, mk_3_2, mk_3_3, mk_3_4, mk_3_5, mk_4_m2, mk_4_m1, mk_5_m2, mk_5_m1, mk_11_m2, mk_11_m1, mk_42_m2, mk_42_m1, mk_73_m2, mk_73_0, mk_73_1, mk_73_2, mk_74_m2, mk_74_m1, mk_572_m2, mk_572_m1, mk_715_m2, mk_715_m1, mk_717_m2, mk_717_m1, mk_718_m2, mk_718_m1, mk_722_m2, mk_722_m1, mk_723_m2, mk_723_m1, mk_724_m2, mk_724_m1, mk_725_m2, mk_725_m1, mk_726_m2, mk_726_m1, mk_727_m2, mk_727_m1, mk_728_m2, mk_728_m1, mk_716_m2, mk_716_0, mk_716_1, mk_716_2, mk_716_3, mk_716_4, mk_721_m2, mk_721_0, mk_721_1, mk_721_2, mk_721_3, mk_721_4, mk_721_5, mk_721_6, mk_721_7, mk_721_8, mk_721_9, mk_721_10, mk_721_11, mk_721_12, mk_721_13, mk_721_14, mk_719_m2, mk_74_at, mk_572_at, mk_715_at, mk_717_at, mk_718_at, mk_722_at, mk_723_at, mk_724_at, mk_725_at, mk_726_at, mk_727_at, mk_728_at, mk_4_at, mk_5_at, mk_11_at, mk_42_at, mk_O_k, mk_O_0, mk_O_1, mk_O_2, mk_O_3, mk_L_k, mk_L_0, mk_L_1, mk_L_2, mk_L_3, mk_L_4, mk_L_5, mk_L_6, mk_L_7, mk_L_8, mk_L_9, mk_L_10, mk_X_k, mk_X_0, mk_X_1, mk_X_2, mk_X_3, mk_X_4, mk_75_k, mk_573_k, r_1_6, r_73_1, r_73_2, r_716_1, r_716_2, r_716_3, r_721_2, r_721_5, r_721_6, r_721_8, r_721_9, r_721_10, r_721_11, r_721_13, r_715, r_717, r_718, r_723, r_724, r_725, r_726, r_727, r_728, s_O0, s_O1, s_O2, s_O3, s_L0, s_L1, s_L2, s_L3, s_L4, s_L5, s_L6, s_L7, s_L8, s_L9, s_L10, s_X0, s_X1, s_X2, s_X3, s_X4, s_2_4, s_2_5, s_2_6, s_2_7, s_2_8, s_2_9, s_2_10, s_3_1, s_3_2, s_3_3, s_3_4, s_3_5, s_4]
  exact h
theorem br_29 (hN : 5000 ≤ N) (S : zST K w c a) (hK : K + 100 ≤ 60000) {k18 : Int → Int → Int → Int → Int → Mm → Rs} {x3 bc bs : Int} (hx : 0 ≤ x3 ∧ x3 + 5 ≤ sl ∧ sl ≤ 2560) (hb : 10 ≤ bc ∧ 2000 ≤ bs)
    (H : ∀ w' c' a', zST (K + 100) w' c' a' → ∃ μ', k18 1 721 (x3 + 5) bc bs (mk w' c' w' a') = some (1, μ')) : ∃ μ', f_L_law_b983 sc sl N k18 1 721 x3 bc bs (mk w c w a) = some (1, μ') := by
  obtain ⟨r, w', c', a1, a', X, M, S'⟩ := ok_count hN S hK (sc (x3 + 1))
  obtain ⟨μ', h⟩ := H w' c' a' S'
  refine ⟨μ', ?_⟩
  unfold f_L_law_b983 f_L_law_b1029
  simp only [to_bz, to_nz, to_cz, to_iz]
  simp (disch := omega) only [X, M, bz_t, nz_t, cz_T, cz_t, iz_T, iz_F, iz_y, iz_n, not_true_eq_false, not_false_eq_true, true_and, and_true, w32_e, w64_e, mset_e, mset_n, up_e, up_n, if_y, if_n, Int.add_zero, mk_1_m2, mk_1_0, mk_1_1, mk_1_2, mk_1_3, mk_1_4, mk_1_5, mk_1_6, mk_2_m2, mk_2_0, mk_2_1, mk_2_2, mk_2_3, mk_2_4, mk_2_5, mk_2_6, mk_2_7, mk_2_8, mk_2_9, mk_2_10, mk_3_m2, mk_3_0, mk_3_1, mk_3_2, mk_3_3, mk_3_4, mk_3_5, mk_4_m2, mk_4_m1, mk_5_m2, mk_5_m1, mk_11_m2, mk_11_m1, mk_42_m2, mk_42_m1, mk_73_m2, mk_73_0, mk_73_1, mk_73_2, mk_74_m2, mk_74_m1, mk_572_m2, mk_572_m1, mk_715_m2, mk_715_m1, mk_717_m2, mk_717_m1, mk_718_m2, mk_718_m1, mk_722_m2, mk_722_m1, mk_723_m2, mk_723_m1, mk_724_m2, mk_724_m1, mk_725_m2, mk_725_m1, mk_726_m2, mk_726_m1, mk_727_m2, mk_727_m1, mk_728_m2, mk_728_m1, mk_716_m2, mk_716_0, mk_716_1, mk_716_2, mk_716_3, mk_716_4, mk_721_m2, mk_721_0, mk_721_1, mk_721_2, mk_721_3, mk_721_4, mk_721_5, mk_721_6, mk_721_7, mk_721_8, mk_721_9, mk_721_10, mk_721_11, mk_721_12, mk_721_13, mk_721_14, mk_719_m2, mk_74_at, mk_572_at, mk_715_at, mk_717_at, mk_718_at, mk_722_at, mk_723_at, mk_724_at, mk_725_at, mk_726_at, mk_727_at, mk_728_at, mk_4_at, mk_5_at, mk_11_at, mk_42_at, mk_O_k, mk_O_0, mk_O_1, mk_O_2, mk_O_3, mk_L_k, mk_L_0, mk_L_1, mk_L_2, mk_L_3, mk_L_4, mk_L_5, mk_L_6, mk_L_7, mk_L_8, mk_L_9, mk_L_10, mk_X_k, mk_X_0, mk_X_1, mk_X_2, mk_X_3, mk_X_4, mk_75_k, mk_573_k, r_1_6, r_73_1, r_73_2, r_716_1, r_716_2, r_716_3, r_721_2, r_721_5, r_721_6, r_721_8, r_721_9, r_721_10, r_721_11, r_721_13, r_715, r_717, r_718, r_723, r_724, r_725, r_726, r_727, r_728, s_O0, s_O1, s_O2, s_O3, s_L0, s_L1, s_L2, s_L3, s_L4, s_L5, s_L6, s_L7, s_L8, s_L9, s_L10, s_X0, s_X1, s_X2, s_X3, s_X4, s_2_4, s_2_5, s_2_6, s_2_7, s_2_8, s_2_9, s_2_10, s_3_1, s_3_2, s_3_3, s_3_4, s_3_5, s_4]
  exact h
theorem br_30 (hN : 5000 ≤ N) (S : zST K w c a) (hK : K + 100 ≤ 60000) {k18 : Int → Int → Int → Int → Int → Mm → Rs} {x3 bc bs : Int} (hx : 0 ≤ x3 ∧ x3 + 5 ≤ sl ∧ sl ≤ 2560) (hb : 10 ≤ bc ∧ 2000 ≤ bs)
    (H : ∀ w' c' a', zST (K + 100) w' c' a' → ∃ μ', k18 1 721 (x3 + 5) bc bs (mk w' c' w' a') = some (1, μ')) : ∃ μ', f_L_law_b1006 sc sl N k18 1 721 x3 bc bs (mk w c w a) = some (1, μ') := by
  obtain ⟨r, w', c', a1, a', X, M, S'⟩ := ok_rate (N := N) S hK (sc (x3 + 1))
  obtain ⟨μ', h⟩ := H w' c' a' S'
  refine ⟨μ', ?_⟩
  unfold f_L_law_b1006 f_L_law_b1029
  simp only [to_bz, to_nz, to_cz, to_iz]
  simp (disch := omega) only [X, M, bz_t, nz_t, cz_T, cz_t, iz_T, iz_F, iz_y, iz_n, not_true_eq_false, not_false_eq_true, true_and, and_true, w32_e, w64_e, mset_e, mset_n, up_e, up_n, if_y, if_n, Int.add_zero, mk_1_m2, mk_1_0, mk_1_1, mk_1_2, mk_1_3, mk_1_4, mk_1_5, mk_1_6, mk_2_m2, mk_2_0, mk_2_1, mk_2_2, mk_2_3, mk_2_4, mk_2_5, mk_2_6, mk_2_7, mk_2_8, mk_2_9, mk_2_10, mk_3_m2, mk_3_0, mk_3_1, mk_3_2, mk_3_3, mk_3_4, mk_3_5, mk_4_m2, mk_4_m1, mk_5_m2, mk_5_m1, mk_11_m2, mk_11_m1, mk_42_m2, mk_42_m1, mk_73_m2, mk_73_0, mk_73_1, mk_73_2, mk_74_m2, mk_74_m1, mk_572_m2, mk_572_m1, mk_715_m2, mk_715_m1, mk_717_m2, mk_717_m1, mk_718_m2, mk_718_m1, mk_722_m2, mk_722_m1, mk_723_m2, mk_723_m1, mk_724_m2, mk_724_m1, mk_725_m2, mk_725_m1, mk_726_m2, mk_726_m1, mk_727_m2, mk_727_m1, mk_728_m2, mk_728_m1, mk_716_m2, mk_716_0, mk_716_1, mk_716_2, mk_716_3, mk_716_4, mk_721_m2, mk_721_0, mk_721_1, mk_721_2, mk_721_3, mk_721_4, mk_721_5, mk_721_6, mk_721_7, mk_721_8, mk_721_9, mk_721_10, mk_721_11, mk_721_12, mk_721_13, mk_721_14, mk_719_m2, mk_74_at, mk_572_at, mk_715_at, mk_717_at, mk_718_at, mk_722_at, mk_723_at, mk_724_at, mk_725_at, mk_726_at, mk_727_at, mk_728_at, mk_4_at, mk_5_at, mk_11_at, mk_42_at, mk_O_k, mk_O_0, mk_O_1, mk_O_2, mk_O_3, mk_L_k, mk_L_0, mk_L_1, mk_L_2, mk_L_3, mk_L_4, mk_L_5, mk_L_6, mk_L_7, mk_L_8, mk_L_9, mk_L_10, mk_X_k, mk_X_0, mk_X_1, mk_X_2, mk_X_3, mk_X_4, mk_75_k, mk_573_k, r_1_6, r_73_1, r_73_2, r_716_1, r_716_2, r_716_3, r_721_2, r_721_5, r_721_6, r_721_8, r_721_9, r_721_10, r_721_11, r_721_13, r_715, r_717, r_718, r_723, r_724, r_725, r_726, r_727, r_728, s_O0, s_O1, s_O2, s_O3, s_L0, s_L1, s_L2, s_L3, s_L4, s_L5, s_L6, s_L7, s_L8, s_L9, s_L10, s_X0, s_X1, s_X2, s_X3, s_X4, s_2_4, s_2_5, s_2_6, s_2_7, s_2_8, s_2_9, s_2_10, s_3_1, s_3_2, s_3_3, s_3_4, s_3_5, s_4]
  exact h
theorem br_d {k18 : Int → Int → Int → Int → Int → Mm → Rs} {x3 bc bs : Int} (hx : 0 ≤ x3 ∧ x3 + 5 ≤ sl ∧ sl ≤ 2560) (S : zST K w c a) (hK : K + 100 ≤ 60000)
    (H : ∀ w' c' a', zST (K + 100) w' c' a' → ∃ μ', k18 1 721 (x3 + 5) bc bs (mk w' c' w' a') = some (1, μ')) : ∃ μ', f_L_law_b1029 sc sl N k18 1 721 x3 bc bs (mk w c w a) = some (1, μ') := by
  have hk := zST_K S
  obtain ⟨S1, S2, S3, S4, S5, S6⟩ := S
  obtain ⟨μ', h⟩ := H w c a ⟨IV_mono S1 (by omega), zH_i S2 rfl rfl rfl (fun _ => rfl) (by omega), zS_f S3 zF_i (fun _ _ => rfl) (by omega), S4, S5, S6⟩
  refine ⟨μ', ?_⟩
  unfold f_L_law_b1029
  simp only [to_bz, to_nz, to_cz, to_iz]
  simp (disch := omega) only [bz_t, nz_t, cz_T, cz_t, iz_T, iz_F, iz_y, iz_n, not_true_eq_false, not_false_eq_true, true_and, and_true, w32_e, w64_e, mset_e, mset_n, up_e, up_n, if_y, if_n, Int.add_zero, mk_1_m2, mk_1_0, mk_1_1, mk_1_2, mk_1_3, mk_1_4, mk_1_5, mk_1_6, mk_2_m2, mk_2_0, mk_2_1, mk_2_2, mk_2_3, mk_2_4, mk_2_5, mk_2_6, mk_2_7, mk_2_8, mk_2_9, mk_2_10, mk_3_m2, mk_3_0, mk_3_1, mk_3_2, mk_3_3, mk_3_4, mk_3_5, mk_4_m2, mk_4_m1, mk_5_m2, mk_5_m1, mk_11_m2, mk_11_m1, mk_42_m2, mk_42_m1, mk_73_m2, mk_73_0, mk_73_1, mk_73_2, mk_74_m2, mk_74_m1, mk_572_m2, mk_572_m1, mk_715_m2, mk_715_m1, mk_717_m2, mk_717_m1, mk_718_m2, mk_718_m1, mk_722_m2, mk_722_m1, mk_723_m2, mk_723_m1, mk_724_m2, mk_724_m1, mk_725_m2, mk_725_m1, mk_726_m2, mk_726_m1, mk_727_m2, mk_727_m1, mk_728_m2, mk_728_m1, mk_716_m2, mk_716_0, mk_716_1, mk_716_2, mk_716_3, mk_716_4, mk_721_m2, mk_721_0, mk_721_1, mk_721_2, mk_721_3, mk_721_4, mk_721_5, mk_721_6, mk_721_7, mk_721_8, mk_721_9, mk_721_10, mk_721_11, mk_721_12, mk_721_13, mk_721_14, mk_719_m2, mk_74_at, mk_572_at, mk_715_at, mk_717_at, mk_718_at, mk_722_at, mk_723_at, mk_724_at, mk_725_at, mk_726_at, mk_727_at, mk_728_at, mk_4_at, mk_5_at, mk_11_at, mk_42_at, mk_O_k, mk_O_0, mk_O_1, mk_O_2, mk_O_3, mk_L_k, mk_L_0, mk_L_1, mk_L_2, mk_L_3, mk_L_4, mk_L_5, mk_L_6, mk_L_7, mk_L_8, mk_L_9, mk_L_10, mk_X_k, mk_X_0, mk_X_1, mk_X_2, mk_X_3, mk_X_4, mk_75_k, mk_573_k, r_1_6, r_73_1, r_73_2, r_716_1, r_716_2, r_716_3, r_721_2, r_721_5, r_721_6, r_721_8, r_721_9, r_721_10, r_721_11, r_721_13, r_715, r_717, r_718, r_723, r_724, r_725, r_726, r_727, r_728, s_O0, s_O1, s_O2, s_O3, s_L0, s_L1, s_L2, s_L3, s_L4, s_L5, s_L6, s_L7, s_L8, s_L9, s_L10, s_X0, s_X1, s_X2, s_X3, s_X4, s_2_4, s_2_5, s_2_6, s_2_7, s_2_8, s_2_9, s_2_10, s_3_1, s_3_2, s_3_3, s_3_4, s_3_5, s_4]
  exact h
theorem law_loop (hN : 5000 ≤ N) (hsl : 0 ≤ sl ∧ sl ≤ 2560) : ∀ (k n : Nat) (x3 bc bs K : Int) (w : Int → Int) (c : Int → Int → Int) (a : Mm), zST K w c a → K + 100 * k ≤ 60000 → 0 ≤ x3 ∧ x3 ≤ 2560 → sl - x3 ≤ 5 * k + 4 → 10 * (k : Int) ≤ bc → 2000 * (k : Int) ≤ bs → k < n →
    ∃ μ', f_L_law_b18 sc sl N n 1 721 x3 bc bs (mk w c w a) = some (1, μ') := by
  intro k
  induction k with
  | zero =>
    intro n x3 bc bs K w c a S hK hx h1 h2 h3 h4
    obtain ⟨n, rfl⟩ : ∃ m, n = m + 1 := ⟨n - 1, by omega⟩
    refine ⟨mk w c w a, ?_⟩
    rw [f_L_law_b18]
    simp only [to_bz, to_nz, to_cz, to_iz]
    simp (disch := omega) only [bz_t, nz_t, cz_T, cz_t, iz_T, iz_F, iz_y, iz_n, not_true_eq_false, not_false_eq_true, true_and, and_true, w32_e, w64_e, mset_e, mset_n, up_e, up_n, if_y, if_n, Int.add_zero, mk_1_m2, mk_1_0, mk_1_1, mk_1_2, mk_1_3, mk_1_4, mk_1_5, mk_1_6, mk_2_m2, mk_2_0, mk_2_1, mk_2_2, mk_2_3, mk_2_4, mk_2_5, mk_2_6, mk_2_7, mk_2_8, mk_2_9, mk_2_10, mk_3_m2, mk_3_0, mk_3_1, mk_3_2, mk_3_3, mk_3_4, mk_3_5, mk_4_m2, mk_4_m1, mk_5_m2, mk_5_m1, mk_11_m2, mk_11_m1, mk_42_m2, mk_42_m1, mk_73_m2, mk_73_0, mk_73_1, mk_73_2, mk_74_m2, mk_74_m1, mk_572_m2, mk_572_m1, mk_715_m2, mk_715_m1, mk_717_m2, mk_717_m1, mk_718_m2, mk_718_m1, mk_722_m2, mk_722_m1, mk_723_m2, mk_723_m1, mk_724_m2, mk_724_m1, mk_725_m2, mk_725_m1, mk_726_m2, mk_726_m1, mk_727_m2, mk_727_m1, mk_728_m2, mk_728_m1, mk_716_m2, mk_716_0, mk_716_1, mk_716_2, mk_716_3, mk_716_4, mk_721_m2, mk_721_0, mk_721_1, mk_721_2, mk_721_3, mk_721_4, mk_721_5, mk_721_6, mk_721_7, mk_721_8, mk_721_9, mk_721_10, mk_721_11, mk_721_12, mk_721_13, mk_721_14, mk_719_m2, mk_74_at, mk_572_at, mk_715_at, mk_717_at, mk_718_at, mk_722_at, mk_723_at, mk_724_at, mk_725_at, mk_726_at, mk_727_at, mk_728_at, mk_4_at, mk_5_at, mk_11_at, mk_42_at, mk_O_k, mk_O_0, mk_O_1, mk_O_2, mk_O_3, mk_L_k, mk_L_0, mk_L_1, mk_L_2, mk_L_3, mk_L_4, mk_L_5, mk_L_6, mk_L_7, mk_L_8, mk_L_9, mk_L_10, mk_X_k, mk_X_0, mk_X_1, mk_X_2, mk_X_3, mk_X_4, mk_75_k, mk_573_k, r_1_6, r_73_1, r_73_2, r_716_1, r_716_2, r_716_3, r_721_2, r_721_5, r_721_6, r_721_8, r_721_9, r_721_10, r_721_11, r_721_13, r_715, r_717, r_718, r_723, r_724, r_725, r_726, r_727, r_728, s_O0, s_O1, s_O2, s_O3, s_L0, s_L1, s_L2, s_L3, s_L4, s_L5, s_L6, s_L7, s_L8, s_L9, s_L10, s_X0, s_X1, s_X2, s_X3, s_X4, s_2_4, s_2_5, s_2_6, s_2_7, s_2_8, s_2_9, s_2_10, s_3_1, s_3_2, s_3_3, s_3_4, s_3_5, s_4]
  | succ k ih =>
    intro n x3 bc bs K w c a S hK hx h1 h2 h3 h4
    obtain ⟨n, rfl⟩ : ∃ m, n = m + 1 := ⟨n - 1, by omega⟩
    by_cases q : sl - 5 < x3
    · refine ⟨mk w c w a, ?_⟩
      rw [f_L_law_b18]
      simp only [to_bz, to_nz, to_cz, to_iz]
      simp (disch := omega) only [bz_t, nz_t, cz_T, cz_t, iz_T, iz_F, iz_y, iz_n, not_true_eq_false, not_false_eq_true, true_and, and_true, w32_e, w64_e, mset_e, mset_n, up_e, up_n, if_y, if_n, Int.add_zero, mk_1_m2, mk_1_0, mk_1_1, mk_1_2, mk_1_3, mk_1_4, mk_1_5, mk_1_6, mk_2_m2, mk_2_0, mk_2_1, mk_2_2, mk_2_3, mk_2_4, mk_2_5, mk_2_6, mk_2_7, mk_2_8, mk_2_9, mk_2_10, mk_3_m2, mk_3_0, mk_3_1, mk_3_2, mk_3_3, mk_3_4, mk_3_5, mk_4_m2, mk_4_m1, mk_5_m2, mk_5_m1, mk_11_m2, mk_11_m1, mk_42_m2, mk_42_m1, mk_73_m2, mk_73_0, mk_73_1, mk_73_2, mk_74_m2, mk_74_m1, mk_572_m2, mk_572_m1, mk_715_m2, mk_715_m1, mk_717_m2, mk_717_m1, mk_718_m2, mk_718_m1, mk_722_m2, mk_722_m1, mk_723_m2, mk_723_m1, mk_724_m2, mk_724_m1, mk_725_m2, mk_725_m1, mk_726_m2, mk_726_m1, mk_727_m2, mk_727_m1, mk_728_m2, mk_728_m1, mk_716_m2, mk_716_0, mk_716_1, mk_716_2, mk_716_3, mk_716_4, mk_721_m2, mk_721_0, mk_721_1, mk_721_2, mk_721_3, mk_721_4, mk_721_5, mk_721_6, mk_721_7, mk_721_8, mk_721_9, mk_721_10, mk_721_11, mk_721_12, mk_721_13, mk_721_14, mk_719_m2, mk_74_at, mk_572_at, mk_715_at, mk_717_at, mk_718_at, mk_722_at, mk_723_at, mk_724_at, mk_725_at, mk_726_at, mk_727_at, mk_728_at, mk_4_at, mk_5_at, mk_11_at, mk_42_at, mk_O_k, mk_O_0, mk_O_1, mk_O_2, mk_O_3, mk_L_k, mk_L_0, mk_L_1, mk_L_2, mk_L_3, mk_L_4, mk_L_5, mk_L_6, mk_L_7, mk_L_8, mk_L_9, mk_L_10, mk_X_k, mk_X_0, mk_X_1, mk_X_2, mk_X_3, mk_X_4, mk_75_k, mk_573_k, r_1_6, r_73_1, r_73_2, r_716_1, r_716_2, r_716_3, r_721_2, r_721_5, r_721_6, r_721_8, r_721_9, r_721_10, r_721_11, r_721_13, r_715, r_717, r_718, r_723, r_724, r_725, r_726, r_727, r_728, s_O0, s_O1, s_O2, s_O3, s_L0, s_L1, s_L2, s_L3, s_L4, s_L5, s_L6, s_L7, s_L8, s_L9, s_L10, s_X0, s_X1, s_X2, s_X3, s_X4, s_2_4, s_2_5, s_2_6, s_2_7, s_2_8, s_2_9, s_2_10, s_3_1, s_3_2, s_3_3, s_3_4, s_3_5, s_4]
    · have H : ∀ w' c' a', zST (K + 100) w' c' a' → ∃ μ', f_L_law_b18 sc sl N n 1 721 (x3 + 5) bc bs (mk w' c' w' a') = some (1, μ') := fun w' c' a' S' => ih n (x3 + 5) bc bs (K + 100) w' c' a' S' (by omega) (by omega) (by omega) (by omega) (by omega) (by omega)
      have H2 : ∀ w' c' a', zST (K + 100) w' c' a' → ∃ μ', f_L_law_b18 sc sl N n 1 721 (x3 + 5) (bc - 10) (bs - 2000) (mk w' c' w' a') = some (1, μ') := fun w' c' a' S' => ih n (x3 + 5) (bc - 10) (bs - 2000) (K + 100) w' c' a' S' (by omega) (by omega) (by omega) (by omega) (by omega) (by omega)
      rw [f_L_law_b18]
      generalize hz : o_and (sc x3) 31 = z
      rw [nm_t, if_neg (show ¬ w32 (sl - 5) < x3 by rw [w32_e (by omega)]; exact q), ck_t (show (0 : Int) ≤ x3 ∧ x3 < sl by omega), nm_t]
      by_cases z0 : z = 0
      · rw [if_pos z0]
        exact br_0 hN S (by omega) (by omega) (by omega) H
      rw [if_neg z0]
      by_cases z1 : z = 1
      · rw [if_pos z1]
        exact br_1 hN S (by omega) (by omega) (by omega) H
      rw [if_neg z1]
      by_cases z2 : z = 2
      · rw [if_pos z2]
        exact br_2 hN S (by omega) (by omega) (by omega) H
      rw [if_neg z2]
      by_cases z3 : z = 3
      · rw [if_pos z3]
        exact br_3 hN S (by omega) (by omega) (by omega) H
      rw [if_neg z3]
      by_cases z4 : z = 4
      · rw [if_pos z4]
        exact br_4 hN S (by omega) (by omega) (by omega) H
      rw [if_neg z4]
      by_cases z5 : z = 5
      · rw [if_pos z5]
        exact br_5 hN S (by omega) (by omega) (by omega) H
      rw [if_neg z5]
      by_cases z6 : z = 6
      · rw [if_pos z6]
        exact br_6 hN S (by omega) (by omega) (by omega) H
      rw [if_neg z6]
      by_cases z7 : z = 7
      · rw [if_pos z7]
        exact br_7 hN S (by omega) (by omega) (by omega) H
      rw [if_neg z7]
      by_cases z8 : z = 8
      · rw [if_pos z8]
        exact br_8 hN S (by omega) (by omega) (by omega) H
      rw [if_neg z8]
      by_cases z9 : z = 9
      · rw [if_pos z9]
        exact br_9 hN S (by omega) (by omega) (by omega) H
      rw [if_neg z9]
      by_cases z10 : z = 10
      · rw [if_pos z10]
        exact br_10 hN S (by omega) (by omega) (by omega) H
      rw [if_neg z10]
      by_cases z11 : z = 11
      · rw [if_pos z11]
        exact br_11 hN S (by omega) (by omega) (by omega) H
      rw [if_neg z11]
      by_cases z12 : z = 12
      · rw [if_pos z12]
        exact br_12 hN S (by omega) (by omega) (by omega) H
      rw [if_neg z12]
      by_cases z13 : z = 13
      · rw [if_pos z13]
        exact br_13 hN S (by omega) (by omega) (by omega) H
      rw [if_neg z13]
      by_cases z14 : z = 14
      · rw [if_pos z14]
        exact br_14 hN S (by omega) (by omega) (by omega) H
      rw [if_neg z14]
      by_cases z15 : z = 15
      · rw [if_pos z15]
        exact br_15 hN S (by omega) (by omega) (by omega) H
      rw [if_neg z15]
      by_cases z16 : z = 16
      · rw [if_pos z16]
        exact br_16 hN S (by omega) (by omega) (by omega) H
      rw [if_neg z16]
      by_cases z17 : z = 17
      · rw [if_pos z17]
        exact br_17 hN S (by omega) (by omega) (by omega) H
      rw [if_neg z17]
      by_cases z18 : z = 18
      · rw [if_pos z18]
        exact br_18 hN S (by omega) (by omega) (by omega) H
      rw [if_neg z18]
      by_cases z19 : z = 19
      · rw [if_pos z19]
        exact br_19 hN S (by omega) (by omega) (by omega) H
      rw [if_neg z19]
      by_cases z20 : z = 20
      · rw [if_pos z20]
        exact br_20 hN S (by omega) (by omega) (by omega) H
      rw [if_neg z20]
      by_cases z21 : z = 21
      · rw [if_pos z21]
        exact br_21 hN S (by omega) (by omega) (by omega) H
      rw [if_neg z21]
      by_cases z22 : z = 22
      · rw [if_pos z22]
        exact br_22 hN S (by omega) (by omega) (by omega) H
      rw [if_neg z22]
      by_cases z23 : z = 23
      · rw [if_pos z23]
        exact br_23 hN S (by omega) (by omega) (by omega) H2
      rw [if_neg z23]
      by_cases z24 : z = 24
      · rw [if_pos z24]
        exact br_24 hN S (by omega) (by omega) (by omega) H2
      rw [if_neg z24]
      by_cases z25 : z = 25
      · rw [if_pos z25]
        exact br_25 hN S (by omega) (by omega) (by omega) H
      rw [if_neg z25]
      by_cases z26 : z = 26
      · rw [if_pos z26]
        exact br_26 hN S (by omega) (by omega) (by omega) H
      rw [if_neg z26]
      by_cases z27 : z = 27
      · rw [if_pos z27]
        exact br_27 hN S (by omega) (by omega) (by omega) H
      rw [if_neg z27]
      by_cases z28 : z = 28
      · rw [if_pos z28]
        exact br_28 hN S (by omega) (by omega) (by omega) H
      rw [if_neg z28]
      by_cases z29 : z = 29
      · rw [if_pos z29]
        exact br_29 hN S (by omega) (by omega) (by omega) H
      rw [if_neg z29]
      by_cases z30 : z = 30
      · rw [if_pos z30]
        exact br_30 hN S (by omega) (by omega) (by omega) H
      rw [if_neg z30]
      exact br_d (by omega) S (by omega) H
end LAWL
