/-! runOrders -/
def ex (T : Int → Int) (L : Int) : Nat → Int → (Int → Int) → Int × (Int → Int) × Int
  | 0, _, w => (0, w, 0)
  | n + 1, p, w => if yO w (oW T L p) (oN T L p) = 0 then ((ex T L n (oE T L p + 1) (uO w (oW T L p) (oN T L p))).1 + 1, (ex T L n (oE T L p + 1) (uO w (oW T L p) (oN T L p))).2.1, (ex T L n (oE T L p + 1) (uO w (oW T L p) (oN T L p))).2.2) else (0, w, yO w (oW T L p) (oN T L p))
section RUN
variable {N : Nat} {c : Int → Int → Int} {T : Int → Int} {L : Int}
theorem ex_s (n : Nat) (p : Int) (w : Int → Int) : ex T L (n + 1) p w = if yO w (oW T L p) (oN T L p) = 0 then ((ex T L n (oE T L p + 1) (uO w (oW T L p) (oN T L p))).1 + 1, (ex T L n (oE T L p + 1) (uO w (oW T L p) (oN T L p))).2.1, (ex T L n (oE T L p + 1) (uO w (oW T L p) (oN T L p))).2.2) else (0, w, yO w (oW T L p) (oN T L p)) := Eq.trans rfl rfl
theorem nbl_r (lo hi : Int) : ∀ (k : Nat) (i s : Int), nbl T lo hi k i s = -1 ∨ (lo ≤ nbl T lo hi k i s ∧ nbl T lo hi k i s ≤ hi) := by
  intro k
  induction k with
  | zero =>
    intro i s
    unfold nbl
    split
    · right; assumption
    · left; rfl
  | succ k ih =>
    intro i s
    unfold nbl
    split
    · exact ih _ _
    · left; rfl
theorem oN_7 {p : Int} (h0 : 0 ≤ p) (h1 : p ≤ L) (h : oF T L p = -1) : oW T L p = 7 → 1 ≤ oN T L p 0 ∧ oN T L p 0 ≤ 100 := by
  intro h7
  have tb := te_b (T := T) (L := L) (i := p) h1
  have e1 : oF T L p = (ch T L (plc (oW T L p)) (te T L p)).1 := if_neg (by omega)
  unfold oN
  rw [h7] at e1 ⊢
  rw [show plc 7 = [(1, 100)] from rfl] at e1 ⊢
  rw [e1] at h
  unfold ch at h
  by_cases q : nF T L (te T L p) 1 100 = -1
  · obtain ⟨q1, q2, q3⟩ := nF_ok q (by omega)
    show 1 ≤ nb T (te T L p + 1) (te T L (te T L p + 1)) 1 100 ∧ nb T (te T L p + 1) (te T L (te T L p + 1)) 1 100 ≤ 100
    unfold nb at q3 ⊢
    split at q3
    · rename_i z
      rw [if_pos z]
      have r := nbl_r (T := T) 1 100 (te T L (te T L p + 1) - (te T L p + 1)).toNat (te T L p + 1) 0
      omega
    · omega
  · rw [if_neg q] at h
    exact absurd h q
theorem fF_1 {m : Nat} {p : Int} (h0 : 0 ≤ p) (h : fF T L (m + 1) p = -1) : oF T L p = -1 ∧ (oE T L p ≠ L → fF T L m (oE T L p + 1) = -1) := by
  rw [fF_s] at h
  by_cases q : oF T L p = -1
  · rw [if_pos q] at h
    refine ⟨q, fun z => ?_⟩
    rwa [if_neg z] at h
  · rw [if_neg q] at h
    exact absurd h q
theorem oC_b : ∀ (m : Nat) (p : Int), 0 ≤ p → p ≤ L → L - p < m → fF T L m p = -1 → 4 * (oC T L m p : Int) ≤ L - p ∧ 1 ≤ oC T L m p := by
  intro m
  induction m with
  | zero => intro p h0 h1 h2; omega
  | succ m ih =>
    intro p h0 h1 h2 h
    obtain ⟨f1, f2⟩ := fF_1 h0 h
    have ob := oF_b (T := T) (L := L) h0 h1
    rw [oC_s]
    by_cases q : oE T L p = L
    · rw [if_pos q]; omega
    · rw [if_neg q]
      have r := ih (oE T L p + 1) (by omega) (by omega) (by omega) (f2 q)
      omega
theorem ex_iv : ∀ (m : Nat) (p : Int) (w : Int → Int) (K : Int), IV K w → K + (oC T L m p : Int) ≤ 60000 → 0 ≤ p → p ≤ L → L - p < m → fF T L m p = -1 → IV (K + (oC T L m p : Int)) (ex T L (oC T L m p) p w).2.1 ∧ 0 ≤ (ex T L (oC T L m p) p w).1 ∧ (ex T L (oC T L m p) p w).1 ≤ (oC T L m p : Int) ∧ (ex T L (oC T L m p) p w).2.2 ≤ 6 := by
  intro m
  induction m with
  | zero => intro p w K I hK h0 h1 h2; omega
  | succ m ih =>
    intro p w K I hK h0 h1 h2 h
    obtain ⟨f1, f2⟩ := fF_1 h0 h
    have ob := oF_b (T := T) (L := L) h0 h1
    have y6 := yO_6 w (oW T L p) (oN T L p)
    have g := I.1.hd; unfold HEAD at g
    have one : ∀ n : Nat, n = 1 ∨ n = 0 ∨ 1 < n := fun n => by omega
    have cb := oC_b (T := T) (L := L) (m + 1) p h0 h1 h2 h
    rw [oC_s] at hK cb ⊢
    by_cases q : oE T L p = L
    · rw [if_pos q] at hK cb ⊢
      rw [ex_s]
      by_cases y : yO w (oW T L p) (oN T L p) = 0
      · rw [if_pos y]
        have iv := O_iv I (by omega) (k := oW T L p) (by omega) (oN_7 h0 h1 f1) y
        exact ⟨iv.1, by show (0 : Int) ≤ 0 + 1; omega, by show (0 : Int) + 1 ≤ 1; omega, by show (0 : Int) ≤ 6; omega⟩
      · rw [if_neg y]
        exact ⟨IV_mono I (by omega), Int.le_refl 0, by show (0 : Int) ≤ 1; omega, y6⟩
    · rw [if_neg q] at hK cb ⊢
      rw [ex_s]
      by_cases y : yO w (oW T L p) (oN T L p) = 0
      · rw [if_pos y]
        have iv := O_iv I (by omega) (k := oW T L p) (by omega) (oN_7 h0 h1 f1) y
        have r := ih (oE T L p + 1) (uO w (oW T L p) (oN T L p)) (K + 1) iv.1 (by omega) (by omega) (by omega) (by omega) (f2 q)
        rw [show K + 1 + (oC T L m (oE T L p + 1) : Int) = K + ((oC T L m (oE T L p + 1) + 1 : Nat) : Int) from by omega] at r
        dsimp only
        exact ⟨r.1, by omega, by omega, r.2.2.2⟩
      · rw [if_neg y]
        exact ⟨IV_mono I (by omega), Int.le_refl 0, by show (0 : Int) ≤ _; omega, y6⟩
theorem rb_718 (y : Int) (a : Mm) {r k : Int} (h : r ≠ 1) : rb y a r k = a r k := by unfold rb; split; exact mset_n (Or.inl h); rfl
theorem x_loop (hN : 5000 ≤ N) (hr : 0 ≤ L ∧ L ≤ 80) (mm : Int → Int) : ∀ (m f : Nat) (b : Mm) (p q d : Int) (v : Int → Int) (K : Int), IV K v → K + (oC T L m p : Int) ≤ 60000 → b 716 1 = L → (∀ i, 0 ≤ i ∧ i < L → b 717 i = T i) → 0 ≤ p → p ≤ L → L - p < m → m + 1 < f → fF T L m p = -1 → 0 ≤ d ∧ 4 * d ≤ p →
    ∃ b' p' q', f_X7_carryOutOrders_b9 N f 1 d (mk v c mm (xP b p q)) = some (d + (ex T L (oC T L m p) p v).1, mk (ex T L (oC T L m p) p v).2.1 c mm (rb (ex T L (oC T L m p) p v).2.2 (xP b' p' q'))) ∧ (∀ r k, r ≠ 718 → b' r k = b r k) := by
  intro m
  induction m with
  | zero => intro f b p q d v K I hK hL hT h0 h1 h2; omega
  | succ m ih =>
    intro f b p q d v K I hK hL hT h0 h1 h2 h3 h hd
    obtain ⟨f, rfl⟩ : ∃ k, f = k + 2 := ⟨f - 2, by omega⟩
    obtain ⟨f1, f2⟩ := fF_1 h0 h
    have ob := oF_b (T := T) (L := L) h0 h1
    have cb := oC_b (T := T) (L := L) (m + 1) p h0 h1 h2 h
    obtain ⟨b1, r1, r2, r3⟩ := x_read v c mm (N := N) (T := T) (L := L) (q := q) hN hL hr hT ⟨h0, h1⟩
    rw [if_pos f1] at r1
    rw [if_pos f1] at r1
    have r4 := r3 f1
    have cy := x_carry (N := N) (v := v) (c := c) (m := mm) (a := xP b1 (oE T L p) (oW T L p)) (A := oN T L p) hN I.1 (k := oW T L p) (by omega) (oN_7 h0 h1 f1) xP_3 (fun j hj => by rw [xP_o (by omega)]; exact r4 j hj)
    have hL1 : b1 716 1 = L := (r2 716 1 (by omega)).trans hL
    rw [f_X7_carryOutOrders_b9]
    rw [oC_s] at hK cb ⊢
    by_cases y : yO v (oW T L p) (oN T L p) = 0
    · have iv := O_iv I (by split at hK <;> omega) (k := oW T L p) (by omega) (oN_7 h0 h1 f1) y
      rw [y, show an 0 (rO' v (oW T L p) (oN T L p)) = rO' v (oW T L p) (oN T L p) from rfl, show rw0 0 (uO v (oW T L p) (oN T L p)) v = uO v (oW T L p) (oN T L p) from rfl, show rb 0 (xP b1 (oE T L p) (oW T L p)) = xP b1 (oE T L p) (oW T L p) from rfl] at cy
      by_cases e : oE T L p = L
      · rw [if_pos e, ex_s, if_pos y]
        dsimp only
        refine ⟨b1, L + 1, oW T L p, ?_, r2⟩
        rw [e] at r1 cy
        unfold f_X3_atEnd f_X3_skipSeparator
        simp only [to_bz, to_nz, to_cz, to_iz]
        simp (disch := omega) only [hL, hL1, r1, cy, xP_2, xP_3, xP_o, xP_s2, xP_s3, xP_s, bz_t, nz_t, cz_T, cz_t, iz_T, iz_F, iz_y, iz_n, not_true_eq_false, not_false_eq_true, true_and, and_true, w32_e, w64_e, mset_e, mset_n, up_e, up_n, if_y, if_n, Int.add_zero, mk_1_m2, mk_1_0, mk_1_1, mk_1_2, mk_1_3, mk_1_4, mk_1_5, mk_1_6, mk_2_m2, mk_2_0, mk_2_1, mk_2_2, mk_2_3, mk_2_4, mk_2_5, mk_2_6, mk_2_7, mk_2_8, mk_2_9, mk_2_10, mk_3_m2, mk_3_0, mk_3_1, mk_3_2, mk_3_3, mk_3_4, mk_3_5, mk_4_m2, mk_4_m1, mk_5_m2, mk_5_m1, mk_11_m2, mk_11_m1, mk_42_m2, mk_42_m1, mk_73_m2, mk_73_0, mk_73_1, mk_73_2, mk_74_m2, mk_74_m1, mk_572_m2, mk_572_m1, mk_715_m2, mk_715_m1, mk_717_m2, mk_717_m1, mk_718_m2, mk_718_m1, mk_716_m2, mk_716_0, mk_716_1, mk_716_2, mk_716_3, mk_716_4, mk_719_m2, mk_74_at, mk_572_at, mk_715_at, mk_717_at, mk_718_at, mk_4_at, mk_5_at, mk_11_at, mk_42_at, mk_O_k, mk_O_0, mk_O_1, mk_O_2, mk_O_3, mk_L_k, mk_L_0, mk_L_1, mk_L_2, mk_L_3, mk_L_4, mk_L_5, mk_L_6, mk_L_7, mk_L_8, mk_L_9, mk_L_10, mk_X_k, mk_X_0, mk_X_1, mk_X_2, mk_X_3, mk_X_4, mk_75_k, mk_573_k, r_1_6, r_73_1, r_73_2, r_716_1, r_716_2, r_716_3, r_715, r_717, r_718, s_O0, s_O1, s_O2, s_O3, s_L0, s_L1, s_L2, s_L3, s_L4, s_L5, s_L6, s_L7, s_L8, s_L9, s_L10, s_X0, s_X1, s_X2, s_X3, s_X4, s_2_4, s_2_5, s_2_6, s_2_7, s_2_8, s_2_9, s_2_10, s_3_1, s_3_2, s_3_3, s_3_4, s_3_5, s_4]
        rw [f_X7_carryOutOrders_b9]
        unfold f_X3_atEnd
        simp only [to_bz, to_nz, to_cz, to_iz]
        simp (disch := omega) only [hL, hL1, xP_2, xP_3, xP_o, xP_s2, xP_s3, xP_s, bz_t, nz_t, cz_T, cz_t, iz_T, iz_F, iz_y, iz_n, not_true_eq_false, not_false_eq_true, true_and, and_true, w32_e, w64_e, mset_e, mset_n, up_e, up_n, if_y, if_n, Int.add_zero, mk_1_m2, mk_1_0, mk_1_1, mk_1_2, mk_1_3, mk_1_4, mk_1_5, mk_1_6, mk_2_m2, mk_2_0, mk_2_1, mk_2_2, mk_2_3, mk_2_4, mk_2_5, mk_2_6, mk_2_7, mk_2_8, mk_2_9, mk_2_10, mk_3_m2, mk_3_0, mk_3_1, mk_3_2, mk_3_3, mk_3_4, mk_3_5, mk_4_m2, mk_4_m1, mk_5_m2, mk_5_m1, mk_11_m2, mk_11_m1, mk_42_m2, mk_42_m1, mk_73_m2, mk_73_0, mk_73_1, mk_73_2, mk_74_m2, mk_74_m1, mk_572_m2, mk_572_m1, mk_715_m2, mk_715_m1, mk_717_m2, mk_717_m1, mk_718_m2, mk_718_m1, mk_716_m2, mk_716_0, mk_716_1, mk_716_2, mk_716_3, mk_716_4, mk_719_m2, mk_74_at, mk_572_at, mk_715_at, mk_717_at, mk_718_at, mk_4_at, mk_5_at, mk_11_at, mk_42_at, mk_O_k, mk_O_0, mk_O_1, mk_O_2, mk_O_3, mk_L_k, mk_L_0, mk_L_1, mk_L_2, mk_L_3, mk_L_4, mk_L_5, mk_L_6, mk_L_7, mk_L_8, mk_L_9, mk_L_10, mk_X_k, mk_X_0, mk_X_1, mk_X_2, mk_X_3, mk_X_4, mk_75_k, mk_573_k, r_1_6, r_73_1, r_73_2, r_716_1, r_716_2, r_716_3, r_715, r_717, r_718, s_O0, s_O1, s_O2, s_O3, s_L0, s_L1, s_L2, s_L3, s_L4, s_L5, s_L6, s_L7, s_L8, s_L9, s_L10, s_X0, s_X1, s_X2, s_X3, s_X4, s_2_4, s_2_5, s_2_6, s_2_7, s_2_8, s_2_9, s_2_10, s_3_1, s_3_2, s_3_3, s_3_4, s_3_5, s_4]
        show some (d + 1, mk (uO v (oW T L p) (oN T L p)) c mm (xP b1 (L + 1) (oW T L p))) = some (d + (0 + 1), mk (uO v (oW T L p) (oN T L p)) c mm (xP b1 (L + 1) (oW T L p)))
        rw [Int.zero_add]
      · rw [if_neg e] at hK cb ⊢
        rw [ex_s, if_pos y]
        dsimp only
        obtain ⟨b2, p2, q2, s1, s2⟩ := ih (f + 1) b1 (oE T L p + 1) (oW T L p) (d + 1) (uO v (oW T L p) (oN T L p)) (K + 1) iv.1 (by omega) hL1 (fun i hi => (r2 717 i (by omega)).trans (hT i hi)) (by omega) (by omega) (by omega) (by omega) (f2 e) (by omega)
        refine ⟨b2, p2, q2, ?_, fun r k h => (s2 r k h).trans (r2 r k h)⟩
        rw [show d + ((ex T L (oC T L m (oE T L p + 1)) (oE T L p + 1) (uO v (oW T L p) (oN T L p))).1 + 1) = d + 1 + (ex T L (oC T L m (oE T L p + 1)) (oE T L p + 1) (uO v (oW T L p) (oN T L p))).1 from by omega]
        unfold f_X3_atEnd f_X3_skipSeparator
        simp only [to_bz, to_nz, to_cz, to_iz]
        simp (disch := omega) only [hL, hL1, r1, cy, xP_2, xP_3, xP_o, xP_s2, xP_s3, xP_s, bz_t, nz_t, cz_T, cz_t, iz_T, iz_F, iz_y, iz_n, not_true_eq_false, not_false_eq_true, true_and, and_true, w32_e, w64_e, mset_e, mset_n, up_e, up_n, if_y, if_n, Int.add_zero, mk_1_m2, mk_1_0, mk_1_1, mk_1_2, mk_1_3, mk_1_4, mk_1_5, mk_1_6, mk_2_m2, mk_2_0, mk_2_1, mk_2_2, mk_2_3, mk_2_4, mk_2_5, mk_2_6, mk_2_7, mk_2_8, mk_2_9, mk_2_10, mk_3_m2, mk_3_0, mk_3_1, mk_3_2, mk_3_3, mk_3_4, mk_3_5, mk_4_m2, mk_4_m1, mk_5_m2, mk_5_m1, mk_11_m2, mk_11_m1, mk_42_m2, mk_42_m1, mk_73_m2, mk_73_0, mk_73_1, mk_73_2, mk_74_m2, mk_74_m1, mk_572_m2, mk_572_m1, mk_715_m2, mk_715_m1, mk_717_m2, mk_717_m1, mk_718_m2, mk_718_m1, mk_716_m2, mk_716_0, mk_716_1, mk_716_2, mk_716_3, mk_716_4, mk_719_m2, mk_74_at, mk_572_at, mk_715_at, mk_717_at, mk_718_at, mk_4_at, mk_5_at, mk_11_at, mk_42_at, mk_O_k, mk_O_0, mk_O_1, mk_O_2, mk_O_3, mk_L_k, mk_L_0, mk_L_1, mk_L_2, mk_L_3, mk_L_4, mk_L_5, mk_L_6, mk_L_7, mk_L_8, mk_L_9, mk_L_10, mk_X_k, mk_X_0, mk_X_1, mk_X_2, mk_X_3, mk_X_4, mk_75_k, mk_573_k, r_1_6, r_73_1, r_73_2, r_716_1, r_716_2, r_716_3, r_715, r_717, r_718, s_O0, s_O1, s_O2, s_O3, s_L0, s_L1, s_L2, s_L3, s_L4, s_L5, s_L6, s_L7, s_L8, s_L9, s_L10, s_X0, s_X1, s_X2, s_X3, s_X4, s_2_4, s_2_5, s_2_6, s_2_7, s_2_8, s_2_9, s_2_10, s_3_1, s_3_2, s_3_3, s_3_4, s_3_5, s_4]
        exact s1
    · have cn := cd_n y
      rw [show an (yO v (oW T L p) (oN T L p)) (rO' v (oW T L p) (oN T L p)) = cd (yO v (oW T L p) (oN T L p)) from if_neg y, show rw0 (yO v (oW T L p) (oN T L p)) (uO v (oW T L p) (oN T L p)) v = v from if_neg y] at cy
      have en : ∀ n : Nat, 1 ≤ n → ex T L n p v = (0, v, yO v (oW T L p) (oN T L p)) := fun n hn => by
        obtain ⟨n, rfl⟩ : ∃ k, n = k + 1 := ⟨n - 1, by omega⟩
        rw [ex_s, if_neg y]
      rw [en _ cb.2]
      dsimp only
      refine ⟨b1, oE T L p, oW T L p, ?_, r2⟩
      rw [Int.add_zero]
      unfold f_X3_atEnd
      simp only [to_bz, to_nz, to_cz, to_iz]
      simp (disch := omega) only [hL, r1, cy, xP_2, xP_3, xP_o, xP_s2, xP_s3, xP_s, bz_t, nz_t, cz_T, cz_t, iz_T, iz_F, iz_y, iz_n, not_true_eq_false, not_false_eq_true, true_and, and_true, w32_e, w64_e, mset_e, mset_n, up_e, up_n, if_y, if_n, Int.add_zero, mk_1_m2, mk_1_0, mk_1_1, mk_1_2, mk_1_3, mk_1_4, mk_1_5, mk_1_6, mk_2_m2, mk_2_0, mk_2_1, mk_2_2, mk_2_3, mk_2_4, mk_2_5, mk_2_6, mk_2_7, mk_2_8, mk_2_9, mk_2_10, mk_3_m2, mk_3_0, mk_3_1, mk_3_2, mk_3_3, mk_3_4, mk_3_5, mk_4_m2, mk_4_m1, mk_5_m2, mk_5_m1, mk_11_m2, mk_11_m1, mk_42_m2, mk_42_m1, mk_73_m2, mk_73_0, mk_73_1, mk_73_2, mk_74_m2, mk_74_m1, mk_572_m2, mk_572_m1, mk_715_m2, mk_715_m1, mk_717_m2, mk_717_m1, mk_718_m2, mk_718_m1, mk_716_m2, mk_716_0, mk_716_1, mk_716_2, mk_716_3, mk_716_4, mk_719_m2, mk_74_at, mk_572_at, mk_715_at, mk_717_at, mk_718_at, mk_4_at, mk_5_at, mk_11_at, mk_42_at, mk_O_k, mk_O_0, mk_O_1, mk_O_2, mk_O_3, mk_L_k, mk_L_0, mk_L_1, mk_L_2, mk_L_3, mk_L_4, mk_L_5, mk_L_6, mk_L_7, mk_L_8, mk_L_9, mk_L_10, mk_X_k, mk_X_0, mk_X_1, mk_X_2, mk_X_3, mk_X_4, mk_75_k, mk_573_k, r_1_6, r_73_1, r_73_2, r_716_1, r_716_2, r_716_3, r_715, r_717, r_718, s_O0, s_O1, s_O2, s_O3, s_L0, s_L1, s_L2, s_L3, s_L4, s_L5, s_L6, s_L7, s_L8, s_L9, s_L10, s_X0, s_X1, s_X2, s_X3, s_X4, s_2_4, s_2_5, s_2_6, s_2_7, s_2_8, s_2_9, s_2_10, s_3_1, s_3_2, s_3_3, s_3_4, s_3_5, s_4]
end RUN
