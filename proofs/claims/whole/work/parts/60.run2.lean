/-- all that runOrders may change besides rows -/
def zQ (a F : Mm) : Prop := ∀ r k, r ≠ 73 → r ≠ 718 → r ≠ 723 → r ≠ 727 → ¬ (r = 716 ∧ (k = 2 ∨ k = 3)) → ¬ (r = 721 ∧ (k = 2 ∨ k = 5 ∨ (8 ≤ k ∧ k ≤ 11))) → ¬ (r = 1 ∧ k = 6) → F r k = a r k
section RUN2
variable {N : Nat} {c : Int → Int → Int} {a : Mm} {w : Int → Int} {K : Int}
theorem zQ_t {a b d : Mm} (h : zQ a b) (g : zQ b d) : zQ a d := fun r k h1 h2 h3 h4 h5 h6 h7 => (g r k h1 h2 h3 h4 h5 h6 h7).trans (h r k h1 h2 h3 h4 h5 h6 h7)
theorem zQ_F {a b : Mm} (h : zF a b) : zQ a b := fun r k h1 h2 h3 h4 h5 h6 h7 => h r k h1 h3 (fun z => h6 ⟨z.1, by omega⟩) h7
theorem zQ_xP {a b : Mm} {p q : Int} (h : ∀ r k, r ≠ 718 → b r k = a r k) : zQ a (xP b p q) := fun r k h1 h2 h3 h4 h5 h6 h7 => (xP_o (by omega)).trans (h r k h2)
theorem zQ_mP {a b : Mm} {p q x y : Int} (h : ∀ r k, r ≠ 727 → b r k = a r k) : zQ a (mP b p q x y) := fun r k h1 h2 h3 h4 h5 h6 h7 => (mP_o (by omega)).trans (h r k h4)
theorem zQ_rb (y : Int) : zQ a (rb y a) := by unfold rb; split; exact zQ_F (zF_16 _); exact zQ_F zF_i
theorem zQ_ra (y : Int) : zQ a (ra y a) := by unfold ra; split; exact zQ_F (zF_7215 _); exact zQ_F zF_i
theorem apA_c {A : Mm} (h : ∀ k, A 73 k = a 73 k) (k : Int) : apA A 73 k = apA a 73 k := by
  unfold apA
  rw [h, h]
  split
  · by_cases e : k = 1
    · rw [e, mset_e, mset_e]
    · rw [mset_n (Or.inr e), mset_n (Or.inr e)]; exact h k
  · by_cases e : k = 2
    · rw [e, mset_e, mset_e]
    · rw [mset_n (Or.inr e), mset_n (Or.inr e)]; exact h k
theorem apA_o {r k : Int} (h : r ≠ 73) : apA a r k = a r k := by unfold apA; split <;> exact mset_n (Or.inl h)
theorem rec_c {A : Mm} (w : Int → Int) (h1 : ∀ k, A 73 k = a 73 k) (h2 : A 721 2 = a 721 2) (h3 : ∀ i, A 723 i = a 723 i) : (∀ k, recA w A 73 k = recA w a 73 k) ∧ recA w A 721 2 = recA w a 721 2 ∧ ∀ i, recA w A 723 i = recA w a 723 i := by
  have h3' : A 723 = a 723 := funext h3
  unfold recA
  rw [h2]
  split
  · refine ⟨fun k => ?_, ?_, fun i => ?_⟩
    · rw [mset_n (by omega), sa_n (by omega), mset_n (by omega), mset_n (by omega), sa_n (by omega), mset_n (by omega)]; exact h1 k
    · rw [mset_e, mset_e]
    · rw [mset_n (by omega), sa_e, mset_n (by omega), sa_e, h3']
  · refine ⟨fun k => ?_, ?_, fun i => ?_⟩
    · rw [mset_n (by omega), sa_n (by omega), mset_n (by omega), sa_n (by omega)]; exact h1 k
    · rw [mset_e, mset_e]
    · rw [mset_n (by omega), sa_e, mset_n (by omega), sa_e, h3']
theorem rec_o (w : Int → Int) {r k : Int} (h : r ≠ 723 ∧ (r ≠ 721 ∨ k ≠ 2)) : recA w a r k = a r k := by
  unfold recA
  split
  · rw [mset_n h.2, sa_n h.1, mset_n h.2]
  · rw [mset_n h.2, sa_n h.1]
theorem ok_runOrders (hN : 5000 ≤ N) (S : zST K w c a) (hK : K + 100 ≤ 60000) : zOK K (f_X7_runOrders N 1) (f_X8_runOrders N 721) w c a := by
  have hk := zST_K S
  have S0 := S
  obtain ⟨S1, S2, S3, S4, S5, S6⟩ := S
  obtain ⟨t1, t2, t3⟩ := S5
  generalize hL : a 716 1 = L at *
  have hT : ∀ i, 0 ≤ i ∧ i < L → a 717 i = (fun j => a 717 j) i := fun i _ => rfl
  have hTc : ∀ i, 0 ≤ i ∧ i < L → 0 ≤ (fun j => a 717 j) i ∧ (fun j => a 717 j) i ≤ 65535 := fun i hi => (t3 i hi).2
  have hM : ∀ i, 0 ≤ i ∧ i < L → a 726 i = (fun j => a 717 j) i := fun i hi => (t3 i hi).1.symm
  generalize (fun j => a 717 j) = T at *
  obtain ⟨b1, p1, q1, x1, x2⟩ := x_findFault w c w (N := N) (T := T) hN hL t2 hT
  by_cases ff : fF T L 81 0 = -1
  · have cb := oC_b (T := T) (L := L) 81 0 (by omega) (by omega) (by omega) ff
    have iv := ex_iv (T := T) (L := L) 81 0 w K S1 (by omega) (by omega) (by omega) (by omega) ff
    rw [ff] at x1
    have h1 := S2.1
    have h2 := S2.2.1
    have n1 : ∀ k, xP b1 p1 q1 73 k = a 73 k := fun k => (xP_o (by omega)).trans (x2 73 k (by omega))
    have p := eq_bd (b_prepare N w c w (xP b1 p1 q1) hN (by rw [n1]; exact h1) (by rw [n1, ]; exact h2))
    rw [n1, n1] at p
    obtain ⟨b2, p2, q2, l1, l2⟩ := x_loop (N := N) (c := uc c ((a 73 1 + a 73 2) % 7 + 1) w) (T := T) (L := L) hN t2 w 81 N b1 0 q1 0 w K S1 (by omega) ((x2 716 1 (by omega)).trans hL) (fun i hi => (x2 717 i (by omega)).trans (hT i hi)) (by omega) (by omega) (by omega) (by omega) ff (by omega)
    generalize hcn : oC T L 81 0 = cn at *
    generalize hr1 : (ex T L cn 0 w).1 = r1 at *
    generalize hr2 : (ex T L cn 0 w).2.1 = u at *
    generalize hr3 : (ex T L cn 0 w).2.2 = y at *
    rw [Int.zero_add] at l1
    generalize hA : rb y (xP b2 p2 q2) = A at *
    have nA : ∀ r k, r ≠ 718 → r ≠ 1 → ¬ (r = 716 ∧ (k = 2 ∨ k = 3)) → A r k = a r k := fun r k g1 g2 g3 => by
      rw [← hA, rb_718 y _ g2, xP_o (by omega)]
      exact (l2 r k g1).trans (x2 r k g1)
    have nA1 : A 1 6 = if 1 ≤ y then y else a 1 6 := by
      rw [← hA]
      unfold rb
      by_cases z : 1 ≤ y
      · rw [if_pos z, if_pos z, mset_e]
      · rw [if_neg z, if_neg z, xP_o (by omega)]
        exact (l2 1 6 (by omega)).trans (x2 1 6 (by omega))
    have nA73 : ∀ k, A 73 k = a 73 k := fun k => nA 73 k (by omega) (by omega) (by omega)
    have fin := eq_bd (b_finishAct N u (uc c ((a 73 1 + a 73 2) % 7 + 1) w) w A (by rw [nA73]; exact h1) (by rw [nA73]; exact h2) r1)
    rw [if_neg (show ¬ r1 < 0 by omega)] at fin
    have X : f_X7_runOrders N 1 (mk w c w a) = some (r1, mk u (uc c ((a 73 1 + a 73 2) % 7 + 1) w) w (apA A)) := by
      unfold f_X7_runOrders f_X7_carryOutOrders f_X3_goToStart
      simp only [to_bz, to_nz, to_cz, to_iz]
      simp (disch := omega) only [x1, p, l1, fin, xP_2, xP_3, xP_o, xP_s2, xP_s3, xP_s, bz_t, nz_t, cz_T, cz_t, iz_T, iz_F, iz_y, iz_n, not_true_eq_false, not_false_eq_true, true_and, and_true, w32_e, w64_e, mset_e, mset_n, up_e, up_n, if_y, if_n, Int.add_zero, mk_1_m2, mk_1_0, mk_1_1, mk_1_2, mk_1_3, mk_1_4, mk_1_5, mk_1_6, mk_2_m2, mk_2_0, mk_2_1, mk_2_2, mk_2_3, mk_2_4, mk_2_5, mk_2_6, mk_2_7, mk_2_8, mk_2_9, mk_2_10, mk_3_m2, mk_3_0, mk_3_1, mk_3_2, mk_3_3, mk_3_4, mk_3_5, mk_4_m2, mk_4_m1, mk_5_m2, mk_5_m1, mk_11_m2, mk_11_m1, mk_42_m2, mk_42_m1, mk_73_m2, mk_73_0, mk_73_1, mk_73_2, mk_74_m2, mk_74_m1, mk_572_m2, mk_572_m1, mk_715_m2, mk_715_m1, mk_717_m2, mk_717_m1, mk_718_m2, mk_718_m1, mk_722_m2, mk_722_m1, mk_723_m2, mk_723_m1, mk_724_m2, mk_724_m1, mk_725_m2, mk_725_m1, mk_726_m2, mk_726_m1, mk_727_m2, mk_727_m1, mk_728_m2, mk_728_m1, mk_716_m2, mk_716_0, mk_716_1, mk_716_2, mk_716_3, mk_716_4, mk_721_m2, mk_721_0, mk_721_1, mk_721_2, mk_721_3, mk_721_4, mk_721_5, mk_721_6, mk_721_7, mk_721_8, mk_721_9, mk_721_10, mk_721_11, mk_721_12, mk_721_13, mk_721_14, mk_719_m2, mk_74_at, mk_572_at, mk_715_at, mk_717_at, mk_718_at, mk_722_at, mk_723_at, mk_724_at, mk_725_at, mk_726_at, mk_727_at, mk_728_at, mk_4_at, mk_5_at, mk_11_at, mk_42_at, mk_O_k, mk_O_0, mk_O_1, mk_O_2, mk_O_3, mk_L_k, mk_L_0, mk_L_1, mk_L_2, mk_L_3, mk_L_4, mk_L_5, mk_L_6, mk_L_7, mk_L_8, mk_L_9, mk_L_10, mk_X_k, mk_X_0, mk_X_1, mk_X_2, mk_X_3, mk_X_4, mk_75_k, mk_573_k, r_1_6, r_73_1, r_73_2, r_716_1, r_716_2, r_716_3, r_721_2, r_721_5, r_721_6, r_721_8, r_721_9, r_721_10, r_721_11, r_721_13, r_715, r_717, r_718, r_723, r_724, r_725, r_726, r_727, r_728, s_O0, s_O1, s_O2, s_O3, s_L0, s_L1, s_L2, s_L3, s_L4, s_L5, s_L6, s_L7, s_L8, s_L9, s_L10, s_X0, s_X1, s_X2, s_X3, s_X4, s_2_4, s_2_5, s_2_6, s_2_7, s_2_8, s_2_9, s_2_10, s_3_1, s_3_2, s_3_3, s_3_4, s_3_5, s_4]
    obtain ⟨b3, x8, x9, z, n', m1, m2, m3⟩ := m_readAll u (uc c ((a 73 1 + a 73 2) % 7 + 1) w) w (N := N) (T := T) (L := L) (a := apA A) hN (by rw [apA_o (by omega), nA 721 6 (by omega) (by omega) (by omega)]; omega) t2 (fun i hi => by rw [apA_o (by omega), nA 726 i (by omega) (by omega) (by omega)]; exact hM i hi) hTc
    rcases m3 with ⟨m3, m4, m5, m6⟩ | m3
    · rw [hcn] at m5 m6
      have kB : mP b3 x8 x9 z n' 721 2 = a 721 2 := by
        rw [mP_o (by omega), m2 721 2 (by omega), apA_o (by omega), nA 721 2 (by omega) (by omega) (by omega)]
      have rc := eq_bd (b_record N u (uc c ((a 73 1 + a 73 2) % 7 + 1) w) w (mP b3 x8 x9 z n') hN (by rw [kB, S2.2.2.1]; exact h2))
      have ml := m_loop (N := N) (c := uc c ((a 73 1 + a 73 2) % 7 + 1) w) (T := T) (L := L) hN t2 u (tot := cn) (by omega) 81 N 0 0 w K (recA w (mP b3 x8 x9 z n')) S1 (by omega) (by omega) (by omega) (by omega) (by omega) ff (by omega) (by rw [rec_o w (by omega), mP_11]; exact m5) (fun j hj => by
        rw [hcn] at hj
        have z := m6 j hj
        rw [show (((0 : Nat) : Int) + (j : Int)) = (j : Int) from by omega]
        refine ⟨?_, fun x hx => ?_⟩
        · rw [rec_o w (by omega), mP_o (by omega)]; exact z.1
        · rw [rec_o w (by omega), mP_o (by omega)]; exact z.2 x hx)
      rw [hcn, hr1, hr2, hr3, show (((0 : Nat) : Int) + r1) = r1 from by omega, show ((0 : Nat) : Int) = 0 from rfl] at ml
      have M : f_X8_runOrders N 721 (mk u (uc c ((a 73 1 + a 73 2) % 7 + 1) w) w (apA A)) = some (r1, mk u (uc c ((a 73 1 + a 73 2) % 7 + 1) w) u (ra y (recA w (mP b3 x8 x9 z n')))) := by
        unfold f_X8_runOrders
        simp only [to_bz, to_nz, to_cz, to_iz]
        simp (disch := omega) only [m1, rc, mP_8, mP_9, mP_10, mP_11, mP_o, mP_s8, mP_s9, mP_s10, mP_s11, mP_s, bz_t, nz_t, cz_T, cz_t, iz_T, iz_F, iz_y, iz_n, not_true_eq_false, not_false_eq_true, true_and, and_true, w32_e, w64_e, mset_e, mset_n, up_e, up_n, if_y, if_n, Int.add_zero, mk_1_m2, mk_1_0, mk_1_1, mk_1_2, mk_1_3, mk_1_4, mk_1_5, mk_1_6, mk_2_m2, mk_2_0, mk_2_1, mk_2_2, mk_2_3, mk_2_4, mk_2_5, mk_2_6, mk_2_7, mk_2_8, mk_2_9, mk_2_10, mk_3_m2, mk_3_0, mk_3_1, mk_3_2, mk_3_3, mk_3_4, mk_3_5, mk_4_m2, mk_4_m1, mk_5_m2, mk_5_m1, mk_11_m2, mk_11_m1, mk_42_m2, mk_42_m1, mk_73_m2, mk_73_0, mk_73_1, mk_73_2, mk_74_m2, mk_74_m1, mk_572_m2, mk_572_m1, mk_715_m2, mk_715_m1, mk_717_m2, mk_717_m1, mk_718_m2, mk_718_m1, mk_722_m2, mk_722_m1, mk_723_m2, mk_723_m1, mk_724_m2, mk_724_m1, mk_725_m2, mk_725_m1, mk_726_m2, mk_726_m1, mk_727_m2, mk_727_m1, mk_728_m2, mk_728_m1, mk_716_m2, mk_716_0, mk_716_1, mk_716_2, mk_716_3, mk_716_4, mk_721_m2, mk_721_0, mk_721_1, mk_721_2, mk_721_3, mk_721_4, mk_721_5, mk_721_6, mk_721_7, mk_721_8, mk_721_9, mk_721_10, mk_721_11, mk_721_12, mk_721_13, mk_721_14, mk_719_m2, mk_74_at, mk_572_at, mk_715_at, mk_717_at, mk_718_at, mk_722_at, mk_723_at, mk_724_at, mk_725_at, mk_726_at, mk_727_at, mk_728_at, mk_4_at, mk_5_at, mk_11_at, mk_42_at, mk_O_k, mk_O_0, mk_O_1, mk_O_2, mk_O_3, mk_L_k, mk_L_0, mk_L_1, mk_L_2, mk_L_3, mk_L_4, mk_L_5, mk_L_6, mk_L_7, mk_L_8, mk_L_9, mk_L_10, mk_X_k, mk_X_0, mk_X_1, mk_X_2, mk_X_3, mk_X_4, mk_75_k, mk_573_k, r_1_6, r_73_1, r_73_2, r_716_1, r_716_2, r_716_3, r_721_2, r_721_5, r_721_6, r_721_8, r_721_9, r_721_10, r_721_11, r_721_13, r_715, r_717, r_718, r_723, r_724, r_725, r_726, r_727, r_728, s_O0, s_O1, s_O2, s_O3, s_L0, s_L1, s_L2, s_L3, s_L4, s_L5, s_L6, s_L7, s_L8, s_L9, s_L10, s_X0, s_X1, s_X2, s_X3, s_X4, s_2_4, s_2_5, s_2_6, s_2_7, s_2_8, s_2_9, s_2_10, s_3_1, s_3_2, s_3_3, s_3_4, s_3_5, s_4]
        exact ml
      have q : zQ a (ra y (recA w (mP b3 x8 x9 z n'))) := by
        refine zQ_t (zQ_t (zQ_t (zQ_t (b := A) ?_ (zQ_F zF_ap)) (zQ_mP (b := b3) (p := x8) (q := x9) (x := z) (y := n') m2)) (zQ_F (zF_rec w))) (zQ_ra y)
        exact fun r k g1 g2 g3 g4 g5 g6 g7 => by
          by_cases r1 : r = 1
          · rw [← hA]
            refine (zQ_rb y r k g1 g2 g3 g4 g5 g6 g7).trans ?_
            rw [xP_o (by omega)]
            exact (l2 r k g2).trans (x2 r k g2)
          · exact nA r k g2 r1 g5
      have rq := rec_c (A := mP b3 x8 x9 z n') (a := apA a) w (fun k => by rw [mP_o (by omega), m2 73 k (by omega)]; exact apA_c nA73 k) (by rw [kB, apA_o (by omega)]) (fun i => by rw [mP_o (by omega), m2 723 i (by omega), apA_o (by omega), nA 723 i (by omega) (by omega) (by omega), apA_o (by omega)])
      have zh := zH_rec S2 S1 (K' := K + 100) (by omega)
      refine ⟨r1, u, uc c ((a 73 1 + a 73 2) % 7 + 1) w, apA A, _, X, M, IV_mono iv.1 (by omega), zH_i zh ?_ ?_ ?_ (fun i => ?_) (by omega), ?_, ?_, ?_, ?_⟩
      · rw [ra_o y _ (by omega)]; exact rq.1 1
      · rw [ra_o y _ (by omega)]; exact rq.1 2
      · rw [ra_o y _ (by omega)]; exact rq.2.1
      · rw [ra_o y _ (by omega)]; exact rq.2.2 i
      · intro s hs
        obtain ⟨g1, g2, g3⟩ := S3 s hs
        have e1 := q 715 s (by omega) (by omega) (by omega) (by omega) (by omega) (by omega) (by omega)
        have e2 := q 725 s (by omega) (by omega) (by omega) (by omega) (by omega) (by omega) (by omega)
        rw [e1, e2, uc_s (c := c) w (by omega) hs]
        refine ⟨g1, g2, fun z => ⟨IV_mono (g3 z).1 (by omega), fun i hi => ?_⟩⟩
        rw [q 724 _ (by omega) (by omega) (by omega) (by omega) (by omega) (by omega) (by omega)]
        exact (g3 z).2 i hi
      · have e1 : ra y (recA w (mP b3 x8 x9 z n')) 1 6 = if 1 ≤ y then y else a 1 6 := by
          rw [ra_o y _ (by omega), rec_o w (by omega), mP_o (by omega), m2 1 6 (by omega), apA_o (by omega), nA1]
        have e2 : ra y (recA w (mP b3 x8 x9 z n')) 721 5 = if 1 ≤ y then y else a 721 5 := by
          unfold ra
          by_cases z : 1 ≤ y
          · rw [if_pos z, if_pos z, mset_e]
          · rw [if_neg z, if_neg z, rec_o w (by omega), mP_o (by omega), m2 721 5 (by omega), apA_o (by omega), nA 721 5 (by omega) (by omega) (by omega)]
        unfold zR
        rw [e1, e2]
        unfold zR at S4
        split <;> omega
      · unfold zT
        rw [q 716 1 (by omega) (by omega) (by omega) (by omega) (by omega) (by omega) (by omega), q 721 6 (by omega) (by omega) (by omega) (by omega) (by omega) (by omega) (by omega), hL]
        refine ⟨t1, t2, fun i hi => ?_⟩
        rw [q 717 i (by omega) (by omega) (by omega) (by omega) (by omega) (by omega) (by omega), q 726 i (by omega) (by omega) (by omega) (by omega) (by omega) (by omega) (by omega)]
        exact t3 i hi
      · have d := S6
        unfold zD at d ⊢
        rw [q 719 0 (by omega) (by omega) (by omega) (by omega) (by omega) (by omega) (by omega), q 0 0 (by omega) (by omega) (by omega) (by omega) (by omega) (by omega) (by omega), q 719 1 (by omega) (by omega) (by omega) (by omega) (by omega) (by omega) (by omega), q 719 3 (by omega) (by omega) (by omega) (by omega) (by omega) (by omega) (by omega), q (a 719 0) _ (by omega) (by omega) (by omega) (by omega) (by omega) (by omega) (by omega), q (a 719 0) _ (by omega) (by omega) (by omega) (by omega) (by omega) (by omega) (by omega)]
        exact d
    · exact absurd ff m3.1
  · obtain ⟨b3, x8, x9, z, n', m1, m2, m3⟩ := m_readAll w c w (N := N) (T := T) (L := L) (a := xP b1 p1 q1) hN (by rw [xP_o (by omega), x2 721 6 (by omega)]; omega) t2 (fun i hi => by rw [xP_o (by omega), x2 726 i (by omega)]; exact hM i hi) hTc
    have fb : 0 ≤ fF T L 81 0 ∧ fF T L 81 0 ≤ L := by
      have aux : ∀ (m : Nat) (p : Int), 0 ≤ p → p ≤ L → fF T L m p = -1 ∨ (0 ≤ fF T L m p ∧ fF T L m p ≤ L) := by
        intro m
        induction m with
        | zero => intro p h0 h1; right; exact ⟨h0, h1⟩
        | succ m ih =>
          intro p h0 h1
          have ob := oF_b (T := T) (L := L) h0 h1
          rw [fF_s]
          by_cases q : oF T L p = -1
          · rw [if_pos q]
            by_cases e : oE T L p = L
            · rw [if_pos e]; left; rfl
            · rw [if_neg e]; exact ih _ (by omega) (by omega)
          · rw [if_neg q]; right; omega
      have := aux 81 0 (by omega) (by omega)
      omega
    rcases m3 with ⟨m3, m4, m5, m6⟩ | ⟨m3, m4⟩
    · exact absurd m3 ff
    · refine OK_txt (r := -100 - fF T L 81 0) (a1 := xP b1 p1 q1) (b := mP b3 x8 x9 z n') S0 hK ?_ ?_ (fun r k g1 g2 g3 g4 g5 g6 g7 => by rw [mP_o (by omega), m2 r k g6, xP_o (by omega)]; exact x2 r k g3) (by rw [mP_o (by omega), m2 721 2 (by omega), xP_o (by omega)]; exact x2 721 2 (by omega)) (by rw [mP_o (by omega), m2 721 5 (by omega), xP_o (by omega)]; exact x2 721 5 (by omega)) ⟨?_, ?_, ?_⟩
      · unfold f_X7_runOrders
        simp only [to_bz, to_nz, to_cz, to_iz]
        simp (disch := omega) only [x1, xP_2, xP_3, xP_o, xP_s2, xP_s3, xP_s, bz_t, nz_t, cz_T, cz_t, iz_T, iz_F, iz_y, iz_n, not_true_eq_false, not_false_eq_true, true_and, and_true, w32_e, w64_e, mset_e, mset_n, up_e, up_n, if_y, if_n, Int.add_zero, mk_1_m2, mk_1_0, mk_1_1, mk_1_2, mk_1_3, mk_1_4, mk_1_5, mk_1_6, mk_2_m2, mk_2_0, mk_2_1, mk_2_2, mk_2_3, mk_2_4, mk_2_5, mk_2_6, mk_2_7, mk_2_8, mk_2_9, mk_2_10, mk_3_m2, mk_3_0, mk_3_1, mk_3_2, mk_3_3, mk_3_4, mk_3_5, mk_4_m2, mk_4_m1, mk_5_m2, mk_5_m1, mk_11_m2, mk_11_m1, mk_42_m2, mk_42_m1, mk_73_m2, mk_73_0, mk_73_1, mk_73_2, mk_74_m2, mk_74_m1, mk_572_m2, mk_572_m1, mk_715_m2, mk_715_m1, mk_717_m2, mk_717_m1, mk_718_m2, mk_718_m1, mk_722_m2, mk_722_m1, mk_723_m2, mk_723_m1, mk_724_m2, mk_724_m1, mk_725_m2, mk_725_m1, mk_726_m2, mk_726_m1, mk_727_m2, mk_727_m1, mk_728_m2, mk_728_m1, mk_716_m2, mk_716_0, mk_716_1, mk_716_2, mk_716_3, mk_716_4, mk_721_m2, mk_721_0, mk_721_1, mk_721_2, mk_721_3, mk_721_4, mk_721_5, mk_721_6, mk_721_7, mk_721_8, mk_721_9, mk_721_10, mk_721_11, mk_721_12, mk_721_13, mk_721_14, mk_719_m2, mk_74_at, mk_572_at, mk_715_at, mk_717_at, mk_718_at, mk_722_at, mk_723_at, mk_724_at, mk_725_at, mk_726_at, mk_727_at, mk_728_at, mk_4_at, mk_5_at, mk_11_at, mk_42_at, mk_O_k, mk_O_0, mk_O_1, mk_O_2, mk_O_3, mk_L_k, mk_L_0, mk_L_1, mk_L_2, mk_L_3, mk_L_4, mk_L_5, mk_L_6, mk_L_7, mk_L_8, mk_L_9, mk_L_10, mk_X_k, mk_X_0, mk_X_1, mk_X_2, mk_X_3, mk_X_4, mk_75_k, mk_573_k, r_1_6, r_73_1, r_73_2, r_716_1, r_716_2, r_716_3, r_721_2, r_721_5, r_721_6, r_721_8, r_721_9, r_721_10, r_721_11, r_721_13, r_715, r_717, r_718, r_723, r_724, r_725, r_726, r_727, r_728, s_O0, s_O1, s_O2, s_O3, s_L0, s_L1, s_L2, s_L3, s_L4, s_L5, s_L6, s_L7, s_L8, s_L9, s_L10, s_X0, s_X1, s_X2, s_X3, s_X4, s_2_4, s_2_5, s_2_6, s_2_7, s_2_8, s_2_9, s_2_10, s_3_1, s_3_2, s_3_3, s_3_4, s_3_5, s_4]
      · unfold f_X8_runOrders
        simp only [to_bz, to_nz, to_cz, to_iz]
        simp (disch := omega) only [m1, m4, mP_8, mP_9, mP_10, mP_11, mP_o, mP_s8, mP_s9, mP_s10, mP_s11, mP_s, bz_t, nz_t, cz_T, cz_t, iz_T, iz_F, iz_y, iz_n, not_true_eq_false, not_false_eq_true, true_and, and_true, w32_e, w64_e, mset_e, mset_n, up_e, up_n, if_y, if_n, Int.add_zero, mk_1_m2, mk_1_0, mk_1_1, mk_1_2, mk_1_3, mk_1_4, mk_1_5, mk_1_6, mk_2_m2, mk_2_0, mk_2_1, mk_2_2, mk_2_3, mk_2_4, mk_2_5, mk_2_6, mk_2_7, mk_2_8, mk_2_9, mk_2_10, mk_3_m2, mk_3_0, mk_3_1, mk_3_2, mk_3_3, mk_3_4, mk_3_5, mk_4_m2, mk_4_m1, mk_5_m2, mk_5_m1, mk_11_m2, mk_11_m1, mk_42_m2, mk_42_m1, mk_73_m2, mk_73_0, mk_73_1, mk_73_2, mk_74_m2, mk_74_m1, mk_572_m2, mk_572_m1, mk_715_m2, mk_715_m1, mk_717_m2, mk_717_m1, mk_718_m2, mk_718_m1, mk_722_m2, mk_722_m1, mk_723_m2, mk_723_m1, mk_724_m2, mk_724_m1, mk_725_m2, mk_725_m1, mk_726_m2, mk_726_m1, mk_727_m2, mk_727_m1, mk_728_m2, mk_728_m1, mk_716_m2, mk_716_0, mk_716_1, mk_716_2, mk_716_3, mk_716_4, mk_721_m2, mk_721_0, mk_721_1, mk_721_2, mk_721_3, mk_721_4, mk_721_5, mk_721_6, mk_721_7, mk_721_8, mk_721_9, mk_721_10, mk_721_11, mk_721_12, mk_721_13, mk_721_14, mk_719_m2, mk_74_at, mk_572_at, mk_715_at, mk_717_at, mk_718_at, mk_722_at, mk_723_at, mk_724_at, mk_725_at, mk_726_at, mk_727_at, mk_728_at, mk_4_at, mk_5_at, mk_11_at, mk_42_at, mk_O_k, mk_O_0, mk_O_1, mk_O_2, mk_O_3, mk_L_k, mk_L_0, mk_L_1, mk_L_2, mk_L_3, mk_L_4, mk_L_5, mk_L_6, mk_L_7, mk_L_8, mk_L_9, mk_L_10, mk_X_k, mk_X_0, mk_X_1, mk_X_2, mk_X_3, mk_X_4, mk_75_k, mk_573_k, r_1_6, r_73_1, r_73_2, r_716_1, r_716_2, r_716_3, r_721_2, r_721_5, r_721_6, r_721_8, r_721_9, r_721_10, r_721_11, r_721_13, r_715, r_717, r_718, r_723, r_724, r_725, r_726, r_727, r_728, s_O0, s_O1, s_O2, s_O3, s_L0, s_L1, s_L2, s_L3, s_L4, s_L5, s_L6, s_L7, s_L8, s_L9, s_L10, s_X0, s_X1, s_X2, s_X3, s_X4, s_2_4, s_2_5, s_2_6, s_2_7, s_2_8, s_2_9, s_2_10, s_3_1, s_3_2, s_3_3, s_3_4, s_3_5, s_4]
      · rw [mP_o (by omega), m2 716 1 (by omega), xP_o (by omega), x2 716 1 (by omega), mP_o (by omega), m2 721 6 (by omega), xP_o (by omega), x2 721 6 (by omega), hL]; exact t1
      · rw [mP_o (by omega), m2 716 1 (by omega), xP_o (by omega), x2 716 1 (by omega), hL]; exact t2
      · rw [mP_o (by omega), m2 716 1 (by omega), xP_o (by omega), x2 716 1 (by omega), hL]
        intro i hi
        rw [mP_o (by omega), m2 717 i (by omega), xP_o (by omega), x2 717 i (by omega), mP_o (by omega), m2 726 i (by omega), xP_o (by omega), x2 726 i (by omega)]
        exact t3 i hi
end RUN2
