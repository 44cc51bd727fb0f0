/-! orders carried out -/
def yO (w : Int → Int) (k : Int) (A : Nat → Int) : Int := if k = 0 then yEn w (A 0) (A 1) (A 2) (A 3) else if k = 1 then yRe w (A 0) (A 1) else if k = 2 then ySa w (A 0) (A 1) else if k = 3 then yXp w (A 0) (A 1) else if k = 4 then yPr w (A 0) else if k = 5 then yDe w (A 0) (A 1) else if k = 6 then yGi w (A 0) (A 1) else 0
def rO' (w : Int → Int) (k : Int) (A : Nat → Int) : Int := if k = 0 then w 2 else if k = 1 then dt w (A 0) (w (40 + 11 * A 0 + 7)) (A 1) else if k = 2 then sd w (A 0) (A 1) else if k = 3 then w 3 else if k = 4 then w (370 + 5 * A 0 + 2) else if k = 5 then dt w (A 0) (w (40 + 11 * A 0 + 7)) (A 1) else if k = 6 then w (40 + 11 * A 0) else pS w (A 0)
def uO (w : Int → Int) (k : Int) (A : Nat → Int) : Int → Int := if k = 0 then dEn w (A 0) (A 1) (A 2) (A 3) else if k = 1 then dRe w (A 0) (A 1) else if k = 2 then dSa w (A 0) (A 1) else if k = 3 then dXp w (A 0) (A 1) else if k = 4 then dPr w (A 0) else if k = 5 then dDe w (A 0) (A 1) else if k = 6 then dGi w (A 0) (A 1) else pR w (A 0)
section EXEC
variable {N : Nat} {v : Int → Int} {c : Int → Int → Int} {m : Int → Int} {a : Mm} {w : Int → Int} {K : Int}
theorem k8 {k : Int} (h : 0 ≤ k ∧ k ≤ 7) : k = 0 ∨ k = 1 ∨ k = 2 ∨ k = 3 ∨ k = 4 ∨ k = 5 ∨ k = 6 ∨ k = 7 := by omega
theorem yO_6 (w : Int → Int) (k : Int) (A : Nat → Int) : yO w k A ≤ 6 := by
  unfold yO
  (repeat' split)
  · unfold yEn; (repeat' split) <;> omega
  · unfold yRe; (repeat' split) <;> first | omega | exact yUn_6 _ _ _
  · unfold ySa; (repeat' split) <;> first | omega | exact yUn_6 _ _ _
  · unfold yXp; (repeat' split) <;> first | omega | exact yUn_6 _ _ _
  · unfold yPr; (repeat' split) <;> omega
  · unfold yDe; (repeat' split) <;> first | omega | exact yUn_6 _ _ _
  · unfold yGi; (repeat' split) <;> omega
  · omega
theorem O_c {k : Int} (hk : 0 ≤ k ∧ k ≤ 7) {A B : Nat → Int} (h : ∀ j, j < (plc k).length → A j = B j) : yO w k A = yO w k B ∧ rO' w k A = rO' w k B ∧ uO w k A = uO w k B := by
  rcases k8 hk with e | e | e | e | e | e | e | e <;> subst e
  · have h0 := h 0 (by decide)
    have h1 := h 1 (by decide)
    have h2 := h 2 (by decide)
    have h3 := h 3 (by decide)
    unfold yO rO' uO; simp only [h0, h1, h2, h3, and_self]
  · have h0 := h 0 (by decide)
    have h1 := h 1 (by decide)
    unfold yO rO' uO; simp only [h0, h1, if_neg (show ¬ (1 : Int) = 0 by decide), if_pos, and_self]
  · have h0 := h 0 (by decide)
    have h1 := h 1 (by decide)
    unfold yO rO' uO; simp only [h0, h1, if_neg (show ¬ (2 : Int) = 0 by decide), if_neg (show ¬ (2 : Int) = 1 by decide), if_pos, and_self]
  · have h0 := h 0 (by decide)
    have h1 := h 1 (by decide)
    unfold yO rO' uO; simp only [h0, h1, if_neg (show ¬ (3 : Int) = 0 by decide), if_neg (show ¬ (3 : Int) = 1 by decide), if_neg (show ¬ (3 : Int) = 2 by decide), if_pos, and_self]
  · have h0 := h 0 (by decide)
    unfold yO rO' uO; simp only [h0, if_neg (show ¬ (4 : Int) = 0 by decide), if_neg (show ¬ (4 : Int) = 1 by decide), if_neg (show ¬ (4 : Int) = 2 by decide), if_neg (show ¬ (4 : Int) = 3 by decide), if_pos, and_self]
  · have h0 := h 0 (by decide)
    have h1 := h 1 (by decide)
    unfold yO rO' uO; simp only [h0, h1, if_neg (show ¬ (5 : Int) = 0 by decide), if_neg (show ¬ (5 : Int) = 1 by decide), if_neg (show ¬ (5 : Int) = 2 by decide), if_neg (show ¬ (5 : Int) = 3 by decide), if_neg (show ¬ (5 : Int) = 4 by decide), if_pos, and_self]
  · have h0 := h 0 (by decide)
    have h1 := h 1 (by decide)
    unfold yO rO' uO; simp only [h0, h1, if_neg (show ¬ (6 : Int) = 0 by decide), if_neg (show ¬ (6 : Int) = 1 by decide), if_neg (show ¬ (6 : Int) = 2 by decide), if_neg (show ¬ (6 : Int) = 3 by decide), if_neg (show ¬ (6 : Int) = 4 by decide), if_neg (show ¬ (6 : Int) = 5 by decide), if_pos, and_self]
  · have h0 := h 0 (by decide)
    unfold yO rO' uO; simp only [h0, if_neg (show ¬ (7 : Int) = 0 by decide), if_neg (show ¬ (7 : Int) = 1 by decide), if_neg (show ¬ (7 : Int) = 2 by decide), if_neg (show ¬ (7 : Int) = 3 by decide), if_neg (show ¬ (7 : Int) = 4 by decide), if_neg (show ¬ (7 : Int) = 5 by decide), if_neg (show ¬ (7 : Int) = 6 by decide), and_self]
theorem O_iv (I : IV K w) (hK : K + 1 ≤ 60000) {k : Int} (hk : 0 ≤ k ∧ k ≤ 7) {A : Nat → Int} (h7 : k = 7 → 1 ≤ A 0 ∧ A 0 ≤ 100) (y : yO w k A = 0) : IV (K + 1) (uO w k A) ∧ 0 ≤ rO' w k A := by
  have g := I.1.hd; unfold HEAD at g
  rcases k8 hk with e | e | e | e | e | e | e | e <;> subst e
  · exact ⟨IV_En I hK y, by show 0 ≤ w 2; omega⟩
  · exact ⟨IV_Re I hK y, (I.1.sub (by have y1 : yRe w (A 0) (A 1) = 0 := y; unfold yRe at y1; split at y1 <;> assumption)).1⟩
  · exact ⟨IV_Sa I hK y, sd_0 I.1 y⟩
  · exact ⟨IV_Xp I hK y, by show 0 ≤ w 3; omega⟩
  · refine ⟨IV_Pr I hK y, ?_⟩
    have y1 : yPr w (A 0) = 0 := y
    have x := I.1.xp (e := A 0) (by unfold yPr at y1; split at y1; assumption; omega); unfold EXP at x
    show 0 ≤ w (370 + 5 * A 0 + 2)
    omega
  · exact ⟨IV_De I hK y, (I.1.sub (by have y1 : yDe w (A 0) (A 1) = 0 := y; unfold yDe at y1; split at y1 <;> assumption)).1⟩
  · refine ⟨IV_Gi I hK y, ?_⟩
    have x := I.1.lot (yGi_0 (w := w) (l := A 0) (o := A 1) y).1; unfold LOT at x
    show 0 ≤ w (40 + 11 * A 0)
    omega
  · exact ⟨IV_pass I hK (h7 rfl), (pS_b I.1 _).1⟩
theorem x_carry (hN : 5000 ≤ N) (I : IA K v) {k : Int} (hk : 0 ≤ k ∧ k ≤ 7) {A : Nat → Int} (h7 : k = 7 → 1 ≤ A 0 ∧ A 0 ≤ 100) (h3 : a 716 3 = k) (hA : ∀ j : Nat, j < (plc k).length → a 718 (j : Int) = A j) :
    f_X7_carryOutOrder N 1 (mk v c m a) = some (an (yO v k A) (rO' v k A), mk (rw0 (yO v k A) (uO v k A) v) c m (rb (yO v k A) a)) := by
  rcases k8 hk with e | e | e | e | e | e | e | e <;> subst e
  · have q0 : a 718 0 = A 0 := hA 0 (by decide)
    have q1 : a 718 1 = A 1 := hA 1 (by decide)
    have q2 : a 718 2 = A 2 := hA 2 (by decide)
    have q3 : a 718 3 = A 3 := hA 3 (by decide)
    have d := a_enter N c m a hN I (A 0) (A 1) (A 2) (A 3)
    unfold f_X7_carryOutOrder f_X7_carryOutOrder_b56
    simp only [to_bz, to_nz, to_cz, to_iz]
    simp (disch := omega) only [h3, q0, q1, q2, q3, d, bz_t, nz_t, cz_T, cz_t, iz_T, iz_F, iz_y, iz_n, not_true_eq_false, not_false_eq_true, true_and, and_true, w32_e, w64_e, mset_e, mset_n, up_e, up_n, if_y, if_n, Int.add_zero, mk_1_m2, mk_1_0, mk_1_1, mk_1_2, mk_1_3, mk_1_4, mk_1_5, mk_1_6, mk_2_m2, mk_2_0, mk_2_1, mk_2_2, mk_2_3, mk_2_4, mk_2_5, mk_2_6, mk_2_7, mk_2_8, mk_2_9, mk_2_10, mk_3_m2, mk_3_0, mk_3_1, mk_3_2, mk_3_3, mk_3_4, mk_3_5, mk_4_m2, mk_4_m1, mk_5_m2, mk_5_m1, mk_11_m2, mk_11_m1, mk_42_m2, mk_42_m1, mk_73_m2, mk_73_0, mk_73_1, mk_73_2, mk_74_m2, mk_74_m1, mk_572_m2, mk_572_m1, mk_715_m2, mk_715_m1, mk_717_m2, mk_717_m1, mk_718_m2, mk_718_m1, mk_716_m2, mk_716_0, mk_716_1, mk_716_2, mk_716_3, mk_716_4, mk_719_m2, mk_74_at, mk_572_at, mk_715_at, mk_717_at, mk_718_at, mk_4_at, mk_5_at, mk_11_at, mk_42_at, mk_O_k, mk_O_0, mk_O_1, mk_O_2, mk_O_3, mk_L_k, mk_L_0, mk_L_1, mk_L_2, mk_L_3, mk_L_4, mk_L_5, mk_L_6, mk_L_7, mk_L_8, mk_L_9, mk_L_10, mk_X_k, mk_X_0, mk_X_1, mk_X_2, mk_X_3, mk_X_4, mk_75_k, mk_573_k, r_1_6, r_73_1, r_73_2, r_716_1, r_716_2, r_716_3, r_715, r_717, r_718, s_O0, s_O1, s_O2, s_O3, s_L0, s_L1, s_L2, s_L3, s_L4, s_L5, s_L6, s_L7, s_L8, s_L9, s_L10, s_X0, s_X1, s_X2, s_X3, s_X4, s_2_4, s_2_5, s_2_6, s_2_7, s_2_8, s_2_9, s_2_10, s_3_1, s_3_2, s_3_3, s_3_4, s_3_5, s_4]
    rfl
  · have q0 : a 718 0 = A 0 := hA 0 (by decide)
    have q1 : a 718 1 = A 1 := hA 1 (by decide)
    have d := a_release N c m a I (A 0) (A 1)
    unfold f_X7_carryOutOrder f_X7_carryOutOrder_b73
    simp only [to_bz, to_nz, to_cz, to_iz]
    simp (disch := omega) only [h3, q0, q1, d, bz_t, nz_t, cz_T, cz_t, iz_T, iz_F, iz_y, iz_n, not_true_eq_false, not_false_eq_true, true_and, and_true, w32_e, w64_e, mset_e, mset_n, up_e, up_n, if_y, if_n, Int.add_zero, mk_1_m2, mk_1_0, mk_1_1, mk_1_2, mk_1_3, mk_1_4, mk_1_5, mk_1_6, mk_2_m2, mk_2_0, mk_2_1, mk_2_2, mk_2_3, mk_2_4, mk_2_5, mk_2_6, mk_2_7, mk_2_8, mk_2_9, mk_2_10, mk_3_m2, mk_3_0, mk_3_1, mk_3_2, mk_3_3, mk_3_4, mk_3_5, mk_4_m2, mk_4_m1, mk_5_m2, mk_5_m1, mk_11_m2, mk_11_m1, mk_42_m2, mk_42_m1, mk_73_m2, mk_73_0, mk_73_1, mk_73_2, mk_74_m2, mk_74_m1, mk_572_m2, mk_572_m1, mk_715_m2, mk_715_m1, mk_717_m2, mk_717_m1, mk_718_m2, mk_718_m1, mk_716_m2, mk_716_0, mk_716_1, mk_716_2, mk_716_3, mk_716_4, mk_719_m2, mk_74_at, mk_572_at, mk_715_at, mk_717_at, mk_718_at, mk_4_at, mk_5_at, mk_11_at, mk_42_at, mk_O_k, mk_O_0, mk_O_1, mk_O_2, mk_O_3, mk_L_k, mk_L_0, mk_L_1, mk_L_2, mk_L_3, mk_L_4, mk_L_5, mk_L_6, mk_L_7, mk_L_8, mk_L_9, mk_L_10, mk_X_k, mk_X_0, mk_X_1, mk_X_2, mk_X_3, mk_X_4, mk_75_k, mk_573_k, r_1_6, r_73_1, r_73_2, r_716_1, r_716_2, r_716_3, r_715, r_717, r_718, s_O0, s_O1, s_O2, s_O3, s_L0, s_L1, s_L2, s_L3, s_L4, s_L5, s_L6, s_L7, s_L8, s_L9, s_L10, s_X0, s_X1, s_X2, s_X3, s_X4, s_2_4, s_2_5, s_2_6, s_2_7, s_2_8, s_2_9, s_2_10, s_3_1, s_3_2, s_3_3, s_3_4, s_3_5, s_4]
    rfl
  · have q0 : a 718 0 = A 0 := hA 0 (by decide)
    have q1 : a 718 1 = A 1 := hA 1 (by decide)
    have d := a_sample N c m a I (A 0) (A 1)
    unfold f_X7_carryOutOrder f_X7_carryOutOrder_b84
    simp only [to_bz, to_nz, to_cz, to_iz]
    simp (disch := omega) only [h3, q0, q1, d, bz_t, nz_t, cz_T, cz_t, iz_T, iz_F, iz_y, iz_n, not_true_eq_false, not_false_eq_true, true_and, and_true, w32_e, w64_e, mset_e, mset_n, up_e, up_n, if_y, if_n, Int.add_zero, mk_1_m2, mk_1_0, mk_1_1, mk_1_2, mk_1_3, mk_1_4, mk_1_5, mk_1_6, mk_2_m2, mk_2_0, mk_2_1, mk_2_2, mk_2_3, mk_2_4, mk_2_5, mk_2_6, mk_2_7, mk_2_8, mk_2_9, mk_2_10, mk_3_m2, mk_3_0, mk_3_1, mk_3_2, mk_3_3, mk_3_4, mk_3_5, mk_4_m2, mk_4_m1, mk_5_m2, mk_5_m1, mk_11_m2, mk_11_m1, mk_42_m2, mk_42_m1, mk_73_m2, mk_73_0, mk_73_1, mk_73_2, mk_74_m2, mk_74_m1, mk_572_m2, mk_572_m1, mk_715_m2, mk_715_m1, mk_717_m2, mk_717_m1, mk_718_m2, mk_718_m1, mk_716_m2, mk_716_0, mk_716_1, mk_716_2, mk_716_3, mk_716_4, mk_719_m2, mk_74_at, mk_572_at, mk_715_at, mk_717_at, mk_718_at, mk_4_at, mk_5_at, mk_11_at, mk_42_at, mk_O_k, mk_O_0, mk_O_1, mk_O_2, mk_O_3, mk_L_k, mk_L_0, mk_L_1, mk_L_2, mk_L_3, mk_L_4, mk_L_5, mk_L_6, mk_L_7, mk_L_8, mk_L_9, mk_L_10, mk_X_k, mk_X_0, mk_X_1, mk_X_2, mk_X_3, mk_X_4, mk_75_k, mk_573_k, r_1_6, r_73_1, r_73_2, r_716_1, r_716_2, r_716_3, r_715, r_717, r_718, s_O0, s_O1, s_O2, s_O3, s_L0, s_L1, s_L2, s_L3, s_L4, s_L5, s_L6, s_L7, s_L8, s_L9, s_L10, s_X0, s_X1, s_X2, s_X3, s_X4, s_2_4, s_2_5, s_2_6, s_2_7, s_2_8, s_2_9, s_2_10, s_3_1, s_3_2, s_3_3, s_3_4, s_3_5, s_4]
    rfl
  · have q0 : a 718 0 = A 0 := hA 0 (by decide)
    have q1 : a 718 1 = A 1 := hA 1 (by decide)
    have d := a_export N c m a I (A 0) (A 1)
    unfold f_X7_carryOutOrder f_X7_carryOutOrder_b95
    simp only [to_bz, to_nz, to_cz, to_iz]
    simp (disch := omega) only [h3, q0, q1, d, bz_t, nz_t, cz_T, cz_t, iz_T, iz_F, iz_y, iz_n, not_true_eq_false, not_false_eq_true, true_and, and_true, w32_e, w64_e, mset_e, mset_n, up_e, up_n, if_y, if_n, Int.add_zero, mk_1_m2, mk_1_0, mk_1_1, mk_1_2, mk_1_3, mk_1_4, mk_1_5, mk_1_6, mk_2_m2, mk_2_0, mk_2_1, mk_2_2, mk_2_3, mk_2_4, mk_2_5, mk_2_6, mk_2_7, mk_2_8, mk_2_9, mk_2_10, mk_3_m2, mk_3_0, mk_3_1, mk_3_2, mk_3_3, mk_3_4, mk_3_5, mk_4_m2, mk_4_m1, mk_5_m2, mk_5_m1, mk_11_m2, mk_11_m1, mk_42_m2, mk_42_m1, mk_73_m2, mk_73_0, mk_73_1, mk_73_2, mk_74_m2, mk_74_m1, mk_572_m2, mk_572_m1, mk_715_m2, mk_715_m1, mk_717_m2, mk_717_m1, mk_718_m2, mk_718_m1, mk_716_m2, mk_716_0, mk_716_1, mk_716_2, mk_716_3, mk_716_4, mk_719_m2, mk_74_at, mk_572_at, mk_715_at, mk_717_at, mk_718_at, mk_4_at, mk_5_at, mk_11_at, mk_42_at, mk_O_k, mk_O_0, mk_O_1, mk_O_2, mk_O_3, mk_L_k, mk_L_0, mk_L_1, mk_L_2, mk_L_3, mk_L_4, mk_L_5, mk_L_6, mk_L_7, mk_L_8, mk_L_9, mk_L_10, mk_X_k, mk_X_0, mk_X_1, mk_X_2, mk_X_3, mk_X_4, mk_75_k, mk_573_k, r_1_6, r_73_1, r_73_2, r_716_1, r_716_2, r_716_3, r_715, r_717, r_718, s_O0, s_O1, s_O2, s_O3, s_L0, s_L1, s_L2, s_L3, s_L4, s_L5, s_L6, s_L7, s_L8, s_L9, s_L10, s_X0, s_X1, s_X2, s_X3, s_X4, s_2_4, s_2_5, s_2_6, s_2_7, s_2_8, s_2_9, s_2_10, s_3_1, s_3_2, s_3_3, s_3_4, s_3_5, s_4]
    rfl
  · have q0 : a 718 0 = A 0 := hA 0 (by decide)
    have d := a_prove N c m a I (A 0)
    unfold f_X7_carryOutOrder f_X7_carryOutOrder_b106
    simp only [to_bz, to_nz, to_cz, to_iz]
    simp (disch := omega) only [h3, q0, d, bz_t, nz_t, cz_T, cz_t, iz_T, iz_F, iz_y, iz_n, not_true_eq_false, not_false_eq_true, true_and, and_true, w32_e, w64_e, mset_e, mset_n, up_e, up_n, if_y, if_n, Int.add_zero, mk_1_m2, mk_1_0, mk_1_1, mk_1_2, mk_1_3, mk_1_4, mk_1_5, mk_1_6, mk_2_m2, mk_2_0, mk_2_1, mk_2_2, mk_2_3, mk_2_4, mk_2_5, mk_2_6, mk_2_7, mk_2_8, mk_2_9, mk_2_10, mk_3_m2, mk_3_0, mk_3_1, mk_3_2, mk_3_3, mk_3_4, mk_3_5, mk_4_m2, mk_4_m1, mk_5_m2, mk_5_m1, mk_11_m2, mk_11_m1, mk_42_m2, mk_42_m1, mk_73_m2, mk_73_0, mk_73_1, mk_73_2, mk_74_m2, mk_74_m1, mk_572_m2, mk_572_m1, mk_715_m2, mk_715_m1, mk_717_m2, mk_717_m1, mk_718_m2, mk_718_m1, mk_716_m2, mk_716_0, mk_716_1, mk_716_2, mk_716_3, mk_716_4, mk_719_m2, mk_74_at, mk_572_at, mk_715_at, mk_717_at, mk_718_at, mk_4_at, mk_5_at, mk_11_at, mk_42_at, mk_O_k, mk_O_0, mk_O_1, mk_O_2, mk_O_3, mk_L_k, mk_L_0, mk_L_1, mk_L_2, mk_L_3, mk_L_4, mk_L_5, mk_L_6, mk_L_7, mk_L_8, mk_L_9, mk_L_10, mk_X_k, mk_X_0, mk_X_1, mk_X_2, mk_X_3, mk_X_4, mk_75_k, mk_573_k, r_1_6, r_73_1, r_73_2, r_716_1, r_716_2, r_716_3, r_715, r_717, r_718, s_O0, s_O1, s_O2, s_O3, s_L0, s_L1, s_L2, s_L3, s_L4, s_L5, s_L6, s_L7, s_L8, s_L9, s_L10, s_X0, s_X1, s_X2, s_X3, s_X4, s_2_4, s_2_5, s_2_6, s_2_7, s_2_8, s_2_9, s_2_10, s_3_1, s_3_2, s_3_3, s_3_4, s_3_5, s_4]
    rfl
  · have q0 : a 718 0 = A 0 := hA 0 (by decide)
    have q1 : a 718 1 = A 1 := hA 1 (by decide)
    have d := a_destroy N c m a I (A 0) (A 1)
    unfold f_X7_carryOutOrder f_X7_carryOutOrder_b114
    simp only [to_bz, to_nz, to_cz, to_iz]
    simp (disch := omega) only [h3, q0, q1, d, bz_t, nz_t, cz_T, cz_t, iz_T, iz_F, iz_y, iz_n, not_true_eq_false, not_false_eq_true, true_and, and_true, w32_e, w64_e, mset_e, mset_n, up_e, up_n, if_y, if_n, Int.add_zero, mk_1_m2, mk_1_0, mk_1_1, mk_1_2, mk_1_3, mk_1_4, mk_1_5, mk_1_6, mk_2_m2, mk_2_0, mk_2_1, mk_2_2, mk_2_3, mk_2_4, mk_2_5, mk_2_6, mk_2_7, mk_2_8, mk_2_9, mk_2_10, mk_3_m2, mk_3_0, mk_3_1, mk_3_2, mk_3_3, mk_3_4, mk_3_5, mk_4_m2, mk_4_m1, mk_5_m2, mk_5_m1, mk_11_m2, mk_11_m1, mk_42_m2, mk_42_m1, mk_73_m2, mk_73_0, mk_73_1, mk_73_2, mk_74_m2, mk_74_m1, mk_572_m2, mk_572_m1, mk_715_m2, mk_715_m1, mk_717_m2, mk_717_m1, mk_718_m2, mk_718_m1, mk_716_m2, mk_716_0, mk_716_1, mk_716_2, mk_716_3, mk_716_4, mk_719_m2, mk_74_at, mk_572_at, mk_715_at, mk_717_at, mk_718_at, mk_4_at, mk_5_at, mk_11_at, mk_42_at, mk_O_k, mk_O_0, mk_O_1, mk_O_2, mk_O_3, mk_L_k, mk_L_0, mk_L_1, mk_L_2, mk_L_3, mk_L_4, mk_L_5, mk_L_6, mk_L_7, mk_L_8, mk_L_9, mk_L_10, mk_X_k, mk_X_0, mk_X_1, mk_X_2, mk_X_3, mk_X_4, mk_75_k, mk_573_k, r_1_6, r_73_1, r_73_2, r_716_1, r_716_2, r_716_3, r_715, r_717, r_718, s_O0, s_O1, s_O2, s_O3, s_L0, s_L1, s_L2, s_L3, s_L4, s_L5, s_L6, s_L7, s_L8, s_L9, s_L10, s_X0, s_X1, s_X2, s_X3, s_X4, s_2_4, s_2_5, s_2_6, s_2_7, s_2_8, s_2_9, s_2_10, s_3_1, s_3_2, s_3_3, s_3_4, s_3_5, s_4]
    rfl
  · have q0 : a 718 0 = A 0 := hA 0 (by decide)
    have q1 : a 718 1 = A 1 := hA 1 (by decide)
    have d := a_give N c m a hN I (A 0) (A 1)
    unfold f_X7_carryOutOrder f_X7_carryOutOrder_b125
    simp only [to_bz, to_nz, to_cz, to_iz]
    simp (disch := omega) only [h3, q0, q1, d, bz_t, nz_t, cz_T, cz_t, iz_T, iz_F, iz_y, iz_n, not_true_eq_false, not_false_eq_true, true_and, and_true, w32_e, w64_e, mset_e, mset_n, up_e, up_n, if_y, if_n, Int.add_zero, mk_1_m2, mk_1_0, mk_1_1, mk_1_2, mk_1_3, mk_1_4, mk_1_5, mk_1_6, mk_2_m2, mk_2_0, mk_2_1, mk_2_2, mk_2_3, mk_2_4, mk_2_5, mk_2_6, mk_2_7, mk_2_8, mk_2_9, mk_2_10, mk_3_m2, mk_3_0, mk_3_1, mk_3_2, mk_3_3, mk_3_4, mk_3_5, mk_4_m2, mk_4_m1, mk_5_m2, mk_5_m1, mk_11_m2, mk_11_m1, mk_42_m2, mk_42_m1, mk_73_m2, mk_73_0, mk_73_1, mk_73_2, mk_74_m2, mk_74_m1, mk_572_m2, mk_572_m1, mk_715_m2, mk_715_m1, mk_717_m2, mk_717_m1, mk_718_m2, mk_718_m1, mk_716_m2, mk_716_0, mk_716_1, mk_716_2, mk_716_3, mk_716_4, mk_719_m2, mk_74_at, mk_572_at, mk_715_at, mk_717_at, mk_718_at, mk_4_at, mk_5_at, mk_11_at, mk_42_at, mk_O_k, mk_O_0, mk_O_1, mk_O_2, mk_O_3, mk_L_k, mk_L_0, mk_L_1, mk_L_2, mk_L_3, mk_L_4, mk_L_5, mk_L_6, mk_L_7, mk_L_8, mk_L_9, mk_L_10, mk_X_k, mk_X_0, mk_X_1, mk_X_2, mk_X_3, mk_X_4, mk_75_k, mk_573_k, r_1_6, r_73_1, r_73_2, r_716_1, r_716_2, r_716_3, r_715, r_717, r_718, s_O0, s_O1, s_O2, s_O3, s_L0, s_L1, s_L2, s_L3, s_L4, s_L5, s_L6, s_L7, s_L8, s_L9, s_L10, s_X0, s_X1, s_X2, s_X3, s_X4, s_2_4, s_2_5, s_2_6, s_2_7, s_2_8, s_2_9, s_2_10, s_3_1, s_3_2, s_3_3, s_3_4, s_3_5, s_4]
    rfl
  · have q0 : a 718 0 = A 0 := hA 0 (by decide)
    have d := a_pass_g N c m a hN I (A 0) (h7 rfl)
    unfold f_X7_carryOutOrder f_X7_carryOutOrder_b136
    simp only [to_bz, to_nz, to_cz, to_iz]
    simp (disch := omega) only [h3, q0, d, bz_t, nz_t, cz_T, cz_t, iz_T, iz_F, iz_y, iz_n, not_true_eq_false, not_false_eq_true, true_and, and_true, w32_e, w64_e, mset_e, mset_n, up_e, up_n, if_y, if_n, Int.add_zero, mk_1_m2, mk_1_0, mk_1_1, mk_1_2, mk_1_3, mk_1_4, mk_1_5, mk_1_6, mk_2_m2, mk_2_0, mk_2_1, mk_2_2, mk_2_3, mk_2_4, mk_2_5, mk_2_6, mk_2_7, mk_2_8, mk_2_9, mk_2_10, mk_3_m2, mk_3_0, mk_3_1, mk_3_2, mk_3_3, mk_3_4, mk_3_5, mk_4_m2, mk_4_m1, mk_5_m2, mk_5_m1, mk_11_m2, mk_11_m1, mk_42_m2, mk_42_m1, mk_73_m2, mk_73_0, mk_73_1, mk_73_2, mk_74_m2, mk_74_m1, mk_572_m2, mk_572_m1, mk_715_m2, mk_715_m1, mk_717_m2, mk_717_m1, mk_718_m2, mk_718_m1, mk_716_m2, mk_716_0, mk_716_1, mk_716_2, mk_716_3, mk_716_4, mk_719_m2, mk_74_at, mk_572_at, mk_715_at, mk_717_at, mk_718_at, mk_4_at, mk_5_at, mk_11_at, mk_42_at, mk_O_k, mk_O_0, mk_O_1, mk_O_2, mk_O_3, mk_L_k, mk_L_0, mk_L_1, mk_L_2, mk_L_3, mk_L_4, mk_L_5, mk_L_6, mk_L_7, mk_L_8, mk_L_9, mk_L_10, mk_X_k, mk_X_0, mk_X_1, mk_X_2, mk_X_3, mk_X_4, mk_75_k, mk_573_k, r_1_6, r_73_1, r_73_2, r_716_1, r_716_2, r_716_3, r_715, r_717, r_718, s_O0, s_O1, s_O2, s_O3, s_L0, s_L1, s_L2, s_L3, s_L4, s_L5, s_L6, s_L7, s_L8, s_L9, s_L10, s_X0, s_X1, s_X2, s_X3, s_X4, s_2_4, s_2_5, s_2_6, s_2_7, s_2_8, s_2_9, s_2_10, s_3_1, s_3_2, s_3_3, s_3_4, s_3_5, s_4]
    rfl
end EXEC
