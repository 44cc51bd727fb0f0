/-- all that runOrders may change besides rows -/
def zQ (a F : Mm) : Prop := ∀ r k, r ≠ 73 → r ≠ 718 → ¬ (r = 716 ∧ (k = 2 ∨ k = 3)) → ¬ (r = 1 ∧ k = 6) → F r k = a r k
section RUN2
variable {N : Nat} {c : Int → Int → Int} {a : Mm} {w : Int → Int} {K : Int}
theorem zQ_t {a b d : Mm} (h : zQ a b) (g : zQ b d) : zQ a d := fun r k h1 h2 h3 h4 => (g r k h1 h2 h3 h4).trans (h r k h1 h2 h3 h4)
theorem zQ_F {a b : Mm} (h : zF a b) : zQ a b := fun r k h1 h2 h3 h4 => h r k h1 h4
theorem apA_c {A : Mm} (h : ∀ k, A 73 k = a 73 k) (k : Int) : apA A 73 k = apA a 73 k := by
  unfold apA
  rw [h, h]
  split
  · by_cases e : k = 1
    · rw [e, mset_e, mset_e]
    · rw [mset_n (Or.inr e), mset_n (Or.inr e)]; exact h k
  · by_cases e : k = 2
    · rw [e, mset_e, mset_e]
    · rw [mset_n (Or.inr e), mset_n (Or.inr e)]; exact h k
theorem apA_o {r k : Int} (h : r ≠ 73) : apA a r k = a r k := by unfold apA; split <;> exact mset_n (Or.inl h)
theorem x_run_f (m : Int → Int) {T : Int → Int} {L : Int} (hN : 5000 ≤ N) (S : zST K w c a) (hL : a 716 1 = L) (hT : ∀ i, 0 ≤ i ∧ i < L → a 717 i = T i) (ff : fF T L 81 0 ≠ -1) :
    ∃ A, f_X7_runOrders N 1 (mk w c m a) = some (-100 - fF T L 81 0, mk w c m A) ∧ zQ a A ∧ (∀ k, A 73 k = a 73 k) ∧ A 1 6 = a 1 6 := by
  have t2 := S.2.2.2.2.1
  unfold zT at t2
  rw [hL] at t2
  obtain ⟨b1, p1, q1, x1, x2⟩ := x_findFault w c m (N := N) (T := T) hN hL t2 hT
  have fb : 0 ≤ fF T L 81 0 ∧ fF T L 81 0 ≤ L := by
    have aux : ∀ (m : Nat) (p : Int), 0 ≤ p → p ≤ L → fF T L m p = -1 ∨ (0 ≤ fF T L m p ∧ fF T L m p ≤ L) := by
      intro m
      induction m with
      | zero => intro p h0 h1; right; exact ⟨h0, h1⟩
      | succ m ih =>
        intro p h0 h1
        have ob := oF_b (T := T) (L := L) h0 h1
        rw [fF_s]
        by_cases q : oF T L p = -1
        · rw [if_pos q]
          by_cases e : oE T L p = L
          · rw [if_pos e]; left; rfl
          · rw [if_neg e]; exact ih _ (by omega) (by omega)
        · rw [if_neg q]; right; omega
    have := aux 81 0 (by omega) (by omega)
    omega
  refine ⟨xP b1 p1 q1, ?_, fun r k h1 h2 h3 h4 => by rw [xP_o (by omega)]; exact x2 r k h2, fun k => by rw [xP_o (by omega)]; exact x2 73 k (by omega), by rw [xP_o (by omega)]; exact x2 1 6 (by omega)⟩
  unfold f_X7_runOrders
  simp only [to_bz, to_nz, to_cz, to_iz]
  simp (disch := omega) only [x1, xP_2, xP_3, xP_o, xP_s2, xP_s3, xP_s, bz_t, nz_t, cz_T, cz_t, iz_T, iz_F, iz_y, iz_n, not_true_eq_false, not_false_eq_true, true_and, and_true, w32_e, w64_e, mset_e, mset_n, up_e, up_n, if_y, if_n, Int.add_zero, mk_1_m2, mk_1_0, mk_1_1, mk_1_2, mk_1_3, mk_1_4, mk_1_5, mk_1_6, mk_2_m2, mk_2_0, mk_2_1, mk_2_2, mk_2_3, mk_2_4, mk_2_5, mk_2_6, mk_2_7, mk_2_8, mk_2_9, mk_2_10, mk_3_m2, mk_3_0, mk_3_1, mk_3_2, mk_3_3, mk_3_4, mk_3_5, mk_4_m2, mk_4_m1, mk_5_m2, mk_5_m1, mk_11_m2, mk_11_m1, mk_42_m2, mk_42_m1, mk_73_m2, mk_73_0, mk_73_1, mk_73_2, mk_74_m2, mk_74_m1, mk_572_m2, mk_572_m1, mk_715_m2, mk_715_m1, mk_717_m2, mk_717_m1, mk_718_m2, mk_718_m1, mk_716_m2, mk_716_0, mk_716_1, mk_716_2, mk_716_3, mk_716_4, mk_719_m2, mk_74_at, mk_572_at, mk_715_at, mk_717_at, mk_718_at, mk_4_at, mk_5_at, mk_11_at, mk_42_at, mk_O_k, mk_O_0, mk_O_1, mk_O_2, mk_O_3, mk_L_k, mk_L_0, mk_L_1, mk_L_2, mk_L_3, mk_L_4, mk_L_5, mk_L_6, mk_L_7, mk_L_8, mk_L_9, mk_L_10, mk_X_k, mk_X_0, mk_X_1, mk_X_2, mk_X_3, mk_X_4, mk_75_k, mk_573_k, r_1_6, r_73_1, r_73_2, r_716_1, r_716_2, r_716_3, r_715, r_717, r_718, s_O0, s_O1, s_O2, s_O3, s_L0, s_L1, s_L2, s_L3, s_L4, s_L5, s_L6, s_L7, s_L8, s_L9, s_L10, s_X0, s_X1, s_X2, s_X3, s_X4, s_2_4, s_2_5, s_2_6, s_2_7, s_2_8, s_2_9, s_2_10, s_3_1, s_3_2, s_3_3, s_3_4, s_3_5, s_4]
theorem x_run (m : Int → Int) {T : Int → Int} {L : Int} (hN : 5000 ≤ N) (S : zST K w c a) (hL : a 716 1 = L) (hT : ∀ i, 0 ≤ i ∧ i < L → a 717 i = T i) (hK : K + 20 ≤ 60000) (ff : fF T L 81 0 = -1) :
    ∃ A, f_X7_runOrders N 1 (mk w c m a) = some ((ex T L (oC T L 81 0) 0 w).1, mk (ex T L (oC T L 81 0) 0 w).2.1 (uc c ((a 73 1 + a 73 2) % 7 + 1) w) m (apA A)) ∧ zQ a A ∧ (∀ k, A 73 k = a 73 k) ∧
      A 1 6 = if 1 ≤ (ex T L (oC T L 81 0) 0 w).2.2 then (ex T L (oC T L 81 0) 0 w).2.2 else a 1 6 := by
  have hk := zST_K S
  obtain ⟨S1, S2, S3, S4, S5, S6⟩ := S
  have t2 := S5
  unfold zT at t2
  rw [hL] at t2
  obtain ⟨b1, p1, q1, x1, x2⟩ := x_findFault w c m (N := N) (T := T) hN hL t2 hT
  have cb := oC_b (T := T) (L := L) 81 0 (by omega) (by omega) (by omega) ff
  have iv := ex_iv (T := T) (L := L) 81 0 w K S1.1 (by omega) (by omega) (by omega) (by omega) ff
  rw [ff] at x1
  have h1 := S2.1
  have h2 := S2.2.1
  have n1 : ∀ k, xP b1 p1 q1 73 k = a 73 k := fun k => (xP_o (by omega)).trans (x2 73 k (by omega))
  have p := eq_bd (b_prepare N w c m (xP b1 p1 q1) hN (by rw [n1]; exact h1) (by rw [n1, ]; exact h2))
  rw [n1, n1] at p
  obtain ⟨b2, p2, q2, l1, l2⟩ := x_loop (N := N) (c := uc c ((a 73 1 + a 73 2) % 7 + 1) w) (T := T) (L := L) hN t2 m 81 N b1 0 q1 0 w K S1.1 (by omega) ((x2 716 1 (by omega)).trans hL) (fun i hi => (x2 717 i (by omega)).trans (hT i hi)) (by omega) (by omega) (by omega) (by omega) ff (by omega)
  generalize hcn : oC T L 81 0 = cn at *
  generalize hr1 : (ex T L cn 0 w).1 = r1 at *
  generalize hr2 : (ex T L cn 0 w).2.1 = u at *
  generalize hr3 : (ex T L cn 0 w).2.2 = y at *
  rw [Int.zero_add] at l1
  generalize hA : rb y (xP b2 p2 q2) = A at *
  have nA : ∀ r k, r ≠ 718 → r ≠ 1 → ¬ (r = 716 ∧ (k = 2 ∨ k = 3)) → A r k = a r k := fun r k g1 g2 g3 => by
    rw [← hA, rb_718 y _ g2, xP_o (by omega)]
    exact (l2 r k g1).trans (x2 r k g1)
  have nA1 : A 1 6 = if 1 ≤ y then y else a 1 6 := by
    rw [← hA]
    unfold rb
    by_cases z : 1 ≤ y
    · rw [if_pos z, if_pos z, mset_e]
    · rw [if_neg z, if_neg z, xP_o (by omega)]
      exact (l2 1 6 (by omega)).trans (x2 1 6 (by omega))
  have nA2 : ∀ k, k ≠ 6 → A 1 k = a 1 k := fun k hk => by
    rw [← hA]
    unfold rb
    split
    · rw [mset_n (Or.inr hk), xP_o (by omega)]
      exact (l2 1 k (by omega)).trans (x2 1 k (by omega))
    · rw [xP_o (by omega)]
      exact (l2 1 k (by omega)).trans (x2 1 k (by omega))
  have nA73 : ∀ k, A 73 k = a 73 k := fun k => nA 73 k (by omega) (by omega) (by omega)
  have fin := eq_bd (b_finishAct N u (uc c ((a 73 1 + a 73 2) % 7 + 1) w) m A (by rw [nA73]; exact h1) (by rw [nA73]; exact h2) r1)
  rw [if_neg (show ¬ r1 < 0 by omega)] at fin
  refine ⟨A, ?_, fun r k g1 g2 g3 g4 => ?_, nA73, nA1⟩
  · unfold f_X7_runOrders f_X7_carryOutOrders f_X3_goToStart
    simp only [to_bz, to_nz, to_cz, to_iz]
    simp (disch := omega) only [x1, p, l1, fin, xP_2, xP_3, xP_o, xP_s2, xP_s3, xP_s, bz_t, nz_t, cz_T, cz_t, iz_T, iz_F, iz_y, iz_n, not_true_eq_false, not_false_eq_true, true_and, and_true, w32_e, w64_e, mset_e, mset_n, up_e, up_n, if_y, if_n, Int.add_zero, mk_1_m2, mk_1_0, mk_1_1, mk_1_2, mk_1_3, mk_1_4, mk_1_5, mk_1_6, mk_2_m2, mk_2_0, mk_2_1, mk_2_2, mk_2_3, mk_2_4, mk_2_5, mk_2_6, mk_2_7, mk_2_8, mk_2_9, mk_2_10, mk_3_m2, mk_3_0, mk_3_1, mk_3_2, mk_3_3, mk_3_4, mk_3_5, mk_4_m2, mk_4_m1, mk_5_m2, mk_5_m1, mk_11_m2, mk_11_m1, mk_42_m2, mk_42_m1, mk_73_m2, mk_73_0, mk_73_1, mk_73_2, mk_74_m2, mk_74_m1, mk_572_m2, mk_572_m1, mk_715_m2, mk_715_m1, mk_717_m2, mk_717_m1, mk_718_m2, mk_718_m1, mk_716_m2, mk_716_0, mk_716_1, mk_716_2, mk_716_3, mk_716_4, mk_719_m2, mk_74_at, mk_572_at, mk_715_at, mk_717_at, mk_718_at, mk_4_at, mk_5_at, mk_11_at, mk_42_at, mk_O_k, mk_O_0, mk_O_1, mk_O_2, mk_O_3, mk_L_k, mk_L_0, mk_L_1, mk_L_2, mk_L_3, mk_L_4, mk_L_5, mk_L_6, mk_L_7, mk_L_8, mk_L_9, mk_L_10, mk_X_k, mk_X_0, mk_X_1, mk_X_2, mk_X_3, mk_X_4, mk_75_k, mk_573_k, r_1_6, r_73_1, r_73_2, r_716_1, r_716_2, r_716_3, r_715, r_717, r_718, s_O0, s_O1, s_O2, s_O3, s_L0, s_L1, s_L2, s_L3, s_L4, s_L5, s_L6, s_L7, s_L8, s_L9, s_L10, s_X0, s_X1, s_X2, s_X3, s_X4, s_2_4, s_2_5, s_2_6, s_2_7, s_2_8, s_2_9, s_2_10, s_3_1, s_3_2, s_3_3, s_3_4, s_3_5, s_4]
  · by_cases r1 : r = 1
    · rw [r1]; exact nA2 k (by omega)
    · exact nA r k g2 r1 g3
end RUN2
