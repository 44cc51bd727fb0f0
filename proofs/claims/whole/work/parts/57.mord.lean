/-! m reads all orders -/
def oC (T : Int → Int) (L : Int) : Nat → Int → Nat
  | 0, _ => 0
  | m + 1, p => if oE T L p = L then 1 else oC T L m (oE T L p + 1) + 1
def oPos (T : Int → Int) (L : Int) : Nat → Int → Int
  | 0, p => p
  | i + 1, p => oPos T L i (oE T L p + 1)
theorem fF_s (T : Int → Int) (L : Int) (m : Nat) (p : Int) : fF T L (m + 1) p = if oF T L p = -1 then (if oE T L p = L then -1 else fF T L m (oE T L p + 1)) else oF T L p := Eq.trans rfl rfl
theorem oC_s (T : Int → Int) (L : Int) (m : Nat) (p : Int) : oC T L (m + 1) p = if oE T L p = L then 1 else oC T L m (oE T L p + 1) + 1 := Eq.trans rfl rfl
theorem oPos_s (T : Int → Int) (L : Int) (i : Nat) (p : Int) : oPos T L (i + 1) p = oPos T L i (oE T L p + 1) := Eq.trans rfl rfl
section MALL
variable {N : Nat} (v : Int → Int) (c : Int → Int → Int) (w : Int → Int) {T : Int → Int} {L : Int}
theorem rd_f {b : Mm} {p e z n : Int} (hp : 0 ≤ p) (hn : 0 ≤ n ∧ n ≤ 30) : f_X8_readOrder_b45 N 721 (-100000005) 721 p (mk v c w (mP b p e z n)) = some (0, mk v c w (mP (mset (mset (mset b 727 (5 * n) (-100000005)) 727 (5 * n + 1) 0) 727 (5 * n + 2) 0) p e p (n + 1))) := by
  have t := fun (b : Mm) (lo hi : Int) => m_told0 v c w (N := N) (b := b) (x8 := p) (q := e) (z := p) (n := n) (lo := lo) (hi := hi) hp
  unfold f_X8_readOrder_b45 f_X8_readOrder_b105 f_X8_readOrder_b206
  simp only [to_bz, to_nz, to_cz, to_iz]
  simp (disch := omega) only [t, Int.add_assoc, Int.reduceAdd, mP_8, mP_9, mP_10, mP_11, mP_o, mP_s8, mP_s9, mP_s10, mP_s11, mP_s, bz_t, nz_t, cz_T, cz_t, iz_T, iz_F, iz_y, iz_n, not_true_eq_false, not_false_eq_true, true_and, and_true, w32_e, w64_e, mset_e, mset_n, up_e, up_n, if_y, if_n, Int.add_zero, mk_1_m2, mk_1_0, mk_1_1, mk_1_2, mk_1_3, mk_1_4, mk_1_5, mk_1_6, mk_2_m2, mk_2_0, mk_2_1, mk_2_2, mk_2_3, mk_2_4, mk_2_5, mk_2_6, mk_2_7, mk_2_8, mk_2_9, mk_2_10, mk_3_m2, mk_3_0, mk_3_1, mk_3_2, mk_3_3, mk_3_4, mk_3_5, mk_4_m2, mk_4_m1, mk_5_m2, mk_5_m1, mk_11_m2, mk_11_m1, mk_42_m2, mk_42_m1, mk_73_m2, mk_73_0, mk_73_1, mk_73_2, mk_74_m2, mk_74_m1, mk_572_m2, mk_572_m1, mk_715_m2, mk_715_m1, mk_717_m2, mk_717_m1, mk_718_m2, mk_718_m1, mk_722_m2, mk_722_m1, mk_723_m2, mk_723_m1, mk_724_m2, mk_724_m1, mk_725_m2, mk_725_m1, mk_726_m2, mk_726_m1, mk_727_m2, mk_727_m1, mk_728_m2, mk_728_m1, mk_716_m2, mk_716_0, mk_716_1, mk_716_2, mk_716_3, mk_716_4, mk_721_m2, mk_721_0, mk_721_1, mk_721_2, mk_721_3, mk_721_4, mk_721_5, mk_721_6, mk_721_7, mk_721_8, mk_721_9, mk_721_10, mk_721_11, mk_721_12, mk_721_13, mk_721_14, mk_719_m2, mk_74_at, mk_572_at, mk_715_at, mk_717_at, mk_718_at, mk_722_at, mk_723_at, mk_724_at, mk_725_at, mk_726_at, mk_727_at, mk_728_at, mk_4_at, mk_5_at, mk_11_at, mk_42_at, mk_O_k, mk_O_0, mk_O_1, mk_O_2, mk_O_3, mk_L_k, mk_L_0, mk_L_1, mk_L_2, mk_L_3, mk_L_4, mk_L_5, mk_L_6, mk_L_7, mk_L_8, mk_L_9, mk_L_10, mk_X_k, mk_X_0, mk_X_1, mk_X_2, mk_X_3, mk_X_4, mk_75_k, mk_573_k, r_1_6, r_73_1, r_73_2, r_716_1, r_716_2, r_716_3, r_721_2, r_721_5, r_721_6, r_721_8, r_721_9, r_721_10, r_721_11, r_721_13, r_715, r_717, r_718, r_723, r_724, r_725, r_726, r_727, r_728, s_O0, s_O1, s_O2, s_O3, s_L0, s_L1, s_L2, s_L3, s_L4, s_L5, s_L6, s_L7, s_L8, s_L9, s_L10, s_X0, s_X1, s_X2, s_X3, s_X4, s_2_4, s_2_5, s_2_6, s_2_7, s_2_8, s_2_9, s_2_10, s_3_1, s_3_2, s_3_3, s_3_4, s_3_5, s_4]
theorem m_rd (hN : 5000 ≤ N) {b : Mm} (hL : b 721 6 = L) (hr : 0 ≤ L ∧ L ≤ 80) (hT : ∀ i, 0 ≤ i ∧ i < L → b 726 i = T i) (hTc : ∀ i, 0 ≤ i ∧ i < L → 0 ≤ T i ∧ T i ≤ 65535) {p y8 y9 y10 n : Int} (hp : 0 ≤ p ∧ p ≤ L) (hn : 0 ≤ n ∧ n ≤ 30) :
    ∃ b' x8 x9 z, f_X8_readOrder N 721 p (mk v c w (mP b y8 y9 y10 n)) = some (0, mk v c w (mP b' x8 x9 z (n + 1))) ∧ (∀ r k, r ≠ 727 → b' r k = b r k) ∧ (∀ j, j < 5 * n → b' 727 j = b 727 j) ∧
      ((oW T L p = -1 ∧ z = p) ∨ (oW T L p ≠ -1 ∧ b' 727 (5 * n) = oW T L p ∧ (((chn T L (plc (oW T L p)) (te T L p)).1 = -1 ∧ z = -100000005 ∧ x9 = (chn T L (plc (oW T L p)) (te T L p)).2 ∧ ∀ j : Nat, j < (plc (oW T L p)).length → b' 727 (5 * n + 1 + j) = oN T L p j) ∨
        ((chn T L (plc (oW T L p)) (te T L p)).1 ≠ -1 ∧ z = (chn T L (plc (oW T L p)) (te T L p)).1)))) := by
  have tb := te_b (T := T) (L := L) (i := p) hp.2
  have fd := m_find v c w (N := N) (b := b) (T := T) (L := L) (p := p) (y8 := y8) (y9 := y9) (y10 := y10) (y11 := n) hN hL hr hT hp
  have wb : oW T L p = -1 ∨ (0 ≤ oW T L p ∧ oW T L p ≤ 7 ∧ p + 4 ≤ te T L p) := wd_b
  by_cases z : oW T L p = -1
  · refine ⟨mset (mset (mset b 727 (5 * n) (-100000005)) 727 (5 * n + 1) 0) 727 (5 * n + 2) 0, p, te T L p, p, ?_, fun r k h => by simp only [mset_n (Or.inl h)], fun j h => by simp (disch := omega) only [mset_n], Or.inl ⟨z, rfl⟩⟩
    unfold f_X8_readOrder f_X8_readOrder_b21 f_X8_readOrder_b41
    by_cases e : te T L p = p
    · have rf := rd_f v c w (N := N) (b := b) (p := p) (e := te T L p) (z := p) (n := n) hp.1 hn
      rw [if_pos e] at fd
      simp only [to_bz, to_nz, to_cz, to_iz]
      simp (disch := omega) only [fd, mP_8, mP_9, mP_10, mP_11, mP_o, mP_s8, mP_s9, mP_s10, mP_s11, mP_s, bz_t, nz_t, cz_T, cz_t, iz_T, iz_F, iz_y, iz_n, not_true_eq_false, not_false_eq_true, true_and, and_true, w32_e, w64_e, mset_e, mset_n, up_e, up_n, if_y, if_n, Int.add_zero, mk_1_m2, mk_1_0, mk_1_1, mk_1_2, mk_1_3, mk_1_4, mk_1_5, mk_1_6, mk_2_m2, mk_2_0, mk_2_1, mk_2_2, mk_2_3, mk_2_4, mk_2_5, mk_2_6, mk_2_7, mk_2_8, mk_2_9, mk_2_10, mk_3_m2, mk_3_0, mk_3_1, mk_3_2, mk_3_3, mk_3_4, mk_3_5, mk_4_m2, mk_4_m1, mk_5_m2, mk_5_m1, mk_11_m2, mk_11_m1, mk_42_m2, mk_42_m1, mk_73_m2, mk_73_0, mk_73_1, mk_73_2, mk_74_m2, mk_74_m1, mk_572_m2, mk_572_m1, mk_715_m2, mk_715_m1, mk_717_m2, mk_717_m1, mk_718_m2, mk_718_m1, mk_722_m2, mk_722_m1, mk_723_m2, mk_723_m1, mk_724_m2, mk_724_m1, mk_725_m2, mk_725_m1, mk_726_m2, mk_726_m1, mk_727_m2, mk_727_m1, mk_728_m2, mk_728_m1, mk_716_m2, mk_716_0, mk_716_1, mk_716_2, mk_716_3, mk_716_4, mk_721_m2, mk_721_0, mk_721_1, mk_721_2, mk_721_3, mk_721_4, mk_721_5, mk_721_6, mk_721_7, mk_721_8, mk_721_9, mk_721_10, mk_721_11, mk_721_12, mk_721_13, mk_721_14, mk_719_m2, mk_74_at, mk_572_at, mk_715_at, mk_717_at, mk_718_at, mk_722_at, mk_723_at, mk_724_at, mk_725_at, mk_726_at, mk_727_at, mk_728_at, mk_4_at, mk_5_at, mk_11_at, mk_42_at, mk_O_k, mk_O_0, mk_O_1, mk_O_2, mk_O_3, mk_L_k, mk_L_0, mk_L_1, mk_L_2, mk_L_3, mk_L_4, mk_L_5, mk_L_6, mk_L_7, mk_L_8, mk_L_9, mk_L_10, mk_X_k, mk_X_0, mk_X_1, mk_X_2, mk_X_3, mk_X_4, mk_75_k, mk_573_k, r_1_6, r_73_1, r_73_2, r_716_1, r_716_2, r_716_3, r_721_2, r_721_5, r_721_6, r_721_8, r_721_9, r_721_10, r_721_11, r_721_13, r_715, r_717, r_718, r_723, r_724, r_725, r_726, r_727, r_728, s_O0, s_O1, s_O2, s_O3, s_L0, s_L1, s_L2, s_L3, s_L4, s_L5, s_L6, s_L7, s_L8, s_L9, s_L10, s_X0, s_X1, s_X2, s_X3, s_X4, s_2_4, s_2_5, s_2_6, s_2_7, s_2_8, s_2_9, s_2_10, s_3_1, s_3_2, s_3_3, s_3_4, s_3_5, s_4]
      exact rf
    · have rf := rd_f v c w (N := N) (b := b) (p := p) (e := te T L p) (z := -100000005) (n := n) hp.1 hn
      rw [if_neg e] at fd
      have wd := mw_0 v c w (N := N) (b := b) (T := T) (p := p) (e := te T L p) (z := -100000005) (n := n) hr hT ⟨hp.1, tb.1, tb.2⟩
      rw [show wd0 T p (te T L p) = -1 from z, show mw (-1) = -100000005 from rfl] at wd
      simp only [to_bz, to_nz, to_cz, to_iz]
      simp (disch := omega) only [fd, wd, mP_8, mP_9, mP_10, mP_11, mP_o, mP_s8, mP_s9, mP_s10, mP_s11, mP_s, bz_t, nz_t, cz_T, cz_t, iz_T, iz_F, iz_y, iz_n, not_true_eq_false, not_false_eq_true, true_and, and_true, w32_e, w64_e, mset_e, mset_n, up_e, up_n, if_y, if_n, Int.add_zero, mk_1_m2, mk_1_0, mk_1_1, mk_1_2, mk_1_3, mk_1_4, mk_1_5, mk_1_6, mk_2_m2, mk_2_0, mk_2_1, mk_2_2, mk_2_3, mk_2_4, mk_2_5, mk_2_6, mk_2_7, mk_2_8, mk_2_9, mk_2_10, mk_3_m2, mk_3_0, mk_3_1, mk_3_2, mk_3_3, mk_3_4, mk_3_5, mk_4_m2, mk_4_m1, mk_5_m2, mk_5_m1, mk_11_m2, mk_11_m1, mk_42_m2, mk_42_m1, mk_73_m2, mk_73_0, mk_73_1, mk_73_2, mk_74_m2, mk_74_m1, mk_572_m2, mk_572_m1, mk_715_m2, mk_715_m1, mk_717_m2, mk_717_m1, mk_718_m2, mk_718_m1, mk_722_m2, mk_722_m1, mk_723_m2, mk_723_m1, mk_724_m2, mk_724_m1, mk_725_m2, mk_725_m1, mk_726_m2, mk_726_m1, mk_727_m2, mk_727_m1, mk_728_m2, mk_728_m1, mk_716_m2, mk_716_0, mk_716_1, mk_716_2, mk_716_3, mk_716_4, mk_721_m2, mk_721_0, mk_721_1, mk_721_2, mk_721_3, mk_721_4, mk_721_5, mk_721_6, mk_721_7, mk_721_8, mk_721_9, mk_721_10, mk_721_11, mk_721_12, mk_721_13, mk_721_14, mk_719_m2, mk_74_at, mk_572_at, mk_715_at, mk_717_at, mk_718_at, mk_722_at, mk_723_at, mk_724_at, mk_725_at, mk_726_at, mk_727_at, mk_728_at, mk_4_at, mk_5_at, mk_11_at, mk_42_at, mk_O_k, mk_O_0, mk_O_1, mk_O_2, mk_O_3, mk_L_k, mk_L_0, mk_L_1, mk_L_2, mk_L_3, mk_L_4, mk_L_5, mk_L_6, mk_L_7, mk_L_8, mk_L_9, mk_L_10, mk_X_k, mk_X_0, mk_X_1, mk_X_2, mk_X_3, mk_X_4, mk_75_k, mk_573_k, r_1_6, r_73_1, r_73_2, r_716_1, r_716_2, r_716_3, r_721_2, r_721_5, r_721_6, r_721_8, r_721_9, r_721_10, r_721_11, r_721_13, r_715, r_717, r_718, r_723, r_724, r_725, r_726, r_727, r_728, s_O0, s_O1, s_O2, s_O3, s_L0, s_L1, s_L2, s_L3, s_L4, s_L5, s_L6, s_L7, s_L8, s_L9, s_L10, s_X0, s_X1, s_X2, s_X3, s_X4, s_2_4, s_2_5, s_2_6, s_2_7, s_2_8, s_2_9, s_2_10, s_3_1, s_3_2, s_3_3, s_3_4, s_3_5, s_4]
      exact rf
  · have e : te T L p ≠ p := by omega
    rw [if_neg e] at fd
    have wd := mw_0 v c w (N := N) (b := b) (T := T) (p := p) (e := te T L p) (z := -100000005) (n := n) hr hT ⟨hp.1, tb.1, tb.2⟩
    rw [show wd0 T p (te T L p) = oW T L p from rfl, show mw (oW T L p) = oW T L p from if_neg z] at wd
    have main : ∃ b' x8 x9 z', f_X8_readOrder_b45 N 721 (oW T L p) 721 (-100000005) (mk v c w (mP b p (te T L p) (-100000005) n)) = some (0, mk v c w (mP b' x8 x9 z' (n + 1))) ∧ mR T L (mset b 727 (5 * n) (oW T L p)) n (plc (oW T L p)) (te T L p) b' x9 z' := by
      generalize hW : oW T L p = W at *
      by_cases w0 : W = 0
      · subst w0
        exact rd_0 v c w (N := N) (b := b) (T := T) (L := L) (p := p) (z := -100000005) (n := n) hN hL hr hT hTc (by omega) (by omega) hn
      by_cases w4 : W = 4
      · subst w4
        exact rd_4 v c w (N := N) (b := b) (T := T) (L := L) (p := p) (z := -100000005) (n := n) hN hL hr hT hTc (by omega) (by omega) hn
      by_cases w6 : W = 6
      · subst w6
        exact rd_6 v c w (N := N) (b := b) (T := T) (L := L) (p := p) (z := -100000005) (n := n) hN hL hr hT hTc (by omega) (by omega) hn
      by_cases w7 : W = 7
      · subst w7
        exact rd_7 v c w (N := N) (b := b) (T := T) (L := L) (p := p) (z := -100000005) (n := n) hN hL hr hT hTc (by omega) (by omega) hn
      · have ep : plc W = [(0, 29), (1, 1000000)] := by unfold plc; rw [if_neg w0, if_neg w4, if_neg w6, if_neg w7]
        rw [ep]
        exact rd_k v c w (N := N) (b := b) (T := T) (L := L) (k := W) (p := p) (z := -100000005) (n := n) hN hL hr hT hTc (by omega) (by omega) (by omega) hn
    obtain ⟨b', x8, x9, z', m1, m2, m3, m4⟩ := main
    refine ⟨b', x8, x9, z', ?_, fun r k h => (m2 r k h).trans (mset_n (Or.inl h)), fun j h => (m3 j (by omega)).trans (mset_n (by omega)), Or.inr ⟨z, (m3 _ (by omega)).trans (mset_e _ _ _ _), m4⟩⟩
    unfold f_X8_readOrder f_X8_readOrder_b21 f_X8_readOrder_b41
    simp only [to_bz, to_nz, to_cz, to_iz]
    simp (disch := omega) only [fd, wd, mP_8, mP_9, mP_10, mP_11, mP_o, mP_s8, mP_s9, mP_s10, mP_s11, mP_s, bz_t, nz_t, cz_T, cz_t, iz_T, iz_F, iz_y, iz_n, not_true_eq_false, not_false_eq_true, true_and, and_true, w32_e, w64_e, mset_e, mset_n, up_e, up_n, if_y, if_n, Int.add_zero, mk_1_m2, mk_1_0, mk_1_1, mk_1_2, mk_1_3, mk_1_4, mk_1_5, mk_1_6, mk_2_m2, mk_2_0, mk_2_1, mk_2_2, mk_2_3, mk_2_4, mk_2_5, mk_2_6, mk_2_7, mk_2_8, mk_2_9, mk_2_10, mk_3_m2, mk_3_0, mk_3_1, mk_3_2, mk_3_3, mk_3_4, mk_3_5, mk_4_m2, mk_4_m1, mk_5_m2, mk_5_m1, mk_11_m2, mk_11_m1, mk_42_m2, mk_42_m1, mk_73_m2, mk_73_0, mk_73_1, mk_73_2, mk_74_m2, mk_74_m1, mk_572_m2, mk_572_m1, mk_715_m2, mk_715_m1, mk_717_m2, mk_717_m1, mk_718_m2, mk_718_m1, mk_722_m2, mk_722_m1, mk_723_m2, mk_723_m1, mk_724_m2, mk_724_m1, mk_725_m2, mk_725_m1, mk_726_m2, mk_726_m1, mk_727_m2, mk_727_m1, mk_728_m2, mk_728_m1, mk_716_m2, mk_716_0, mk_716_1, mk_716_2, mk_716_3, mk_716_4, mk_721_m2, mk_721_0, mk_721_1, mk_721_2, mk_721_3, mk_721_4, mk_721_5, mk_721_6, mk_721_7, mk_721_8, mk_721_9, mk_721_10, mk_721_11, mk_721_12, mk_721_13, mk_721_14, mk_719_m2, mk_74_at, mk_572_at, mk_715_at, mk_717_at, mk_718_at, mk_722_at, mk_723_at, mk_724_at, mk_725_at, mk_726_at, mk_727_at, mk_728_at, mk_4_at, mk_5_at, mk_11_at, mk_42_at, mk_O_k, mk_O_0, mk_O_1, mk_O_2, mk_O_3, mk_L_k, mk_L_0, mk_L_1, mk_L_2, mk_L_3, mk_L_4, mk_L_5, mk_L_6, mk_L_7, mk_L_8, mk_L_9, mk_L_10, mk_X_k, mk_X_0, mk_X_1, mk_X_2, mk_X_3, mk_X_4, mk_75_k, mk_573_k, r_1_6, r_73_1, r_73_2, r_716_1, r_716_2, r_716_3, r_721_2, r_721_5, r_721_6, r_721_8, r_721_9, r_721_10, r_721_11, r_721_13, r_715, r_717, r_718, r_723, r_724, r_725, r_726, r_727, r_728, s_O0, s_O1, s_O2, s_O3, s_L0, s_L1, s_L2, s_L3, s_L4, s_L5, s_L6, s_L7, s_L8, s_L9, s_L10, s_X0, s_X1, s_X2, s_X3, s_X4, s_2_4, s_2_5, s_2_6, s_2_7, s_2_8, s_2_9, s_2_10, s_3_1, s_3_2, s_3_3, s_3_4, s_3_5, s_4]
    exact m1
theorem all_stop {b : Mm} {x8 x9 z n : Int} (hz : 0 ≤ z) (f : Nat) : f_X8_readAll_b10 N (f + 1) 721 (mk v c w (mP b x8 x9 z n)) = some (0, mk v c w (mP b x8 x9 z n)) := by
  rw [f_X8_readAll_b10]
  simp only [to_bz, to_nz, to_cz, to_iz]
  simp (disch := omega) only [mP_8, mP_9, mP_10, mP_11, mP_o, mP_s8, mP_s9, mP_s10, mP_s11, mP_s, bz_t, nz_t, cz_T, cz_t, iz_T, iz_F, iz_y, iz_n, not_true_eq_false, not_false_eq_true, true_and, and_true, w32_e, w64_e, mset_e, mset_n, up_e, up_n, if_y, if_n, Int.add_zero, mk_1_m2, mk_1_0, mk_1_1, mk_1_2, mk_1_3, mk_1_4, mk_1_5, mk_1_6, mk_2_m2, mk_2_0, mk_2_1, mk_2_2, mk_2_3, mk_2_4, mk_2_5, mk_2_6, mk_2_7, mk_2_8, mk_2_9, mk_2_10, mk_3_m2, mk_3_0, mk_3_1, mk_3_2, mk_3_3, mk_3_4, mk_3_5, mk_4_m2, mk_4_m1, mk_5_m2, mk_5_m1, mk_11_m2, mk_11_m1, mk_42_m2, mk_42_m1, mk_73_m2, mk_73_0, mk_73_1, mk_73_2, mk_74_m2, mk_74_m1, mk_572_m2, mk_572_m1, mk_715_m2, mk_715_m1, mk_717_m2, mk_717_m1, mk_718_m2, mk_718_m1, mk_722_m2, mk_722_m1, mk_723_m2, mk_723_m1, mk_724_m2, mk_724_m1, mk_725_m2, mk_725_m1, mk_726_m2, mk_726_m1, mk_727_m2, mk_727_m1, mk_728_m2, mk_728_m1, mk_716_m2, mk_716_0, mk_716_1, mk_716_2, mk_716_3, mk_716_4, mk_721_m2, mk_721_0, mk_721_1, mk_721_2, mk_721_3, mk_721_4, mk_721_5, mk_721_6, mk_721_7, mk_721_8, mk_721_9, mk_721_10, mk_721_11, mk_721_12, mk_721_13, mk_721_14, mk_719_m2, mk_74_at, mk_572_at, mk_715_at, mk_717_at, mk_718_at, mk_722_at, mk_723_at, mk_724_at, mk_725_at, mk_726_at, mk_727_at, mk_728_at, mk_4_at, mk_5_at, mk_11_at, mk_42_at, mk_O_k, mk_O_0, mk_O_1, mk_O_2, mk_O_3, mk_L_k, mk_L_0, mk_L_1, mk_L_2, mk_L_3, mk_L_4, mk_L_5, mk_L_6, mk_L_7, mk_L_8, mk_L_9, mk_L_10, mk_X_k, mk_X_0, mk_X_1, mk_X_2, mk_X_3, mk_X_4, mk_75_k, mk_573_k, r_1_6, r_73_1, r_73_2, r_716_1, r_716_2, r_716_3, r_721_2, r_721_5, r_721_6, r_721_8, r_721_9, r_721_10, r_721_11, r_721_13, r_715, r_717, r_718, r_723, r_724, r_725, r_726, r_727, r_728, s_O0, s_O1, s_O2, s_O3, s_L0, s_L1, s_L2, s_L3, s_L4, s_L5, s_L6, s_L7, s_L8, s_L9, s_L10, s_X0, s_X1, s_X2, s_X3, s_X4, s_2_4, s_2_5, s_2_6, s_2_7, s_2_8, s_2_9, s_2_10, s_3_1, s_3_2, s_3_3, s_3_4, s_3_5, s_4]
theorem m_all (hN : 5000 ≤ N) (hr : 0 ≤ L ∧ L ≤ 80) (hTc : ∀ i, 0 ≤ i ∧ i < L → 0 ≤ T i ∧ T i ≤ 65535) : ∀ (m f : Nat) (b : Mm) (p y8 y9 y10 n : Int), b 721 6 = L → (∀ i, 0 ≤ i ∧ i < L → b 726 i = T i) → L - p < m → m + 1 < f → 0 ≤ p ∧ p ≤ L → 0 ≤ n ∧ 4 * n ≤ p →
    ∃ b' x8 x9 z n', bd (f_X8_readOrder N 721 p (mk v c w (mP b y8 y9 y10 n))) (fun _ μ => f_X8_readAll_b10 N f 721 μ) = some (0, mk v c w (mP b' x8 x9 z n')) ∧ (∀ r k, r ≠ 727 → b' r k = b r k) ∧ (∀ j, j < 5 * n → b' 727 j = b 727 j) ∧
      ((fF T L m p = -1 ∧ z = -100000005 ∧ n' = n + (oC T L m p : Int) ∧ ∀ i : Nat, i < oC T L m p → b' 727 (5 * (n + i)) = oW T L (oPos T L i p) ∧ ∀ j : Nat, j < (plc (oW T L (oPos T L i p))).length → b' 727 (5 * (n + i) + 1 + j) = oN T L (oPos T L i p) j) ∨ (fF T L m p ≠ -1 ∧ z = fF T L m p)) := by
  intro m
  induction m with
  | zero => intro f b p y8 y9 y10 n hL hT h1; omega
  | succ m ih =>
    intro f b p y8 y9 y10 n hL hT h1 h2 hp hn
    obtain ⟨f, rfl⟩ : ∃ k, f = k + 2 := ⟨f - 2, by omega⟩
    obtain ⟨b1, x8, x9, z, r1, r2, r3, r4⟩ := m_rd v c w (N := N) (T := T) (L := L) (y8 := y8) (y9 := y9) (y10 := y10) hN hL hr hT hTc hp (n := n) (by omega)
    have tb := te_b (T := T) (L := L) (i := p) hp.2
    rw [r1]
    show ∃ b' x8' x9' z' n', f_X8_readAll_b10 N (f + 2) 721 (mk v c w (mP b1 x8 x9 z (n + 1))) = _ ∧ _
    have hL1 : b1 721 6 = L := (r2 721 6 (by omega)).trans hL
    have hT1 : ∀ i, 0 ≤ i ∧ i < L → b1 726 i = T i := fun i hi => (r2 726 i (by omega)).trans (hT i hi)
    rcases r4 with ⟨w1, w2⟩ | ⟨w1, w2, w3⟩
    · have eF : oF T L p = p := if_pos w1
      have ef : fF T L (m + 1) p = p := by rw [fF_s]; rw [eF, if_neg (by omega)]
      refine ⟨b1, x8, x9, z, n + 1, all_stop v c w (by omega) (f + 1), r2, r3, Or.inr ⟨by omega, by omega⟩⟩
    · have cb := ch_b (T := T) (L := L) (plc (oW T L p)) (te T L p) (by omega) tb.2
      have cn := ch_n T L (plc (oW T L p)) (te T L p)
      have eF : oF T L p = (ch T L (plc (oW T L p)) (te T L p)).1 := if_neg w1
      have eE : oE T L p = (ch T L (plc (oW T L p)) (te T L p)).2 := rfl
      have wb : oW T L p = -1 ∨ (0 ≤ oW T L p ∧ oW T L p ≤ 7 ∧ p + 4 ≤ te T L p) := wd_b
      rcases w3 with ⟨v1, v2, v3, v4⟩ | ⟨v1, v2⟩
      · rw [if_pos v1] at cn
        rw [cn] at cb eF eE
        dsimp only at cb eF eE
        rw [← v3] at cb eF eE
        subst v2
        by_cases q1 : x9 = L
        · rw [if_pos (Or.inl q1)] at eF
          have ef : fF T L (m + 1) p = -1 := by rw [fF_s]; rw [if_pos eF, if_pos (eE.trans q1)]
          have ec : oC T L (m + 1) p = 1 := by rw [oC_s]; rw [if_pos (eE.trans q1)]
          refine ⟨b1, x8, x9, -100000005, n + 1, ?_, r2, r3, Or.inl ⟨ef, rfl, by rw [ec]; rfl, fun i hi => ?_⟩⟩
          · rw [f_X8_readAll_b10]
            simp only [to_bz, to_nz, to_cz, to_iz]
            simp (disch := omega) only [hL1, mP_8, mP_9, mP_10, mP_11, mP_o, mP_s8, mP_s9, mP_s10, mP_s11, mP_s, bz_t, nz_t, cz_T, cz_t, iz_T, iz_F, iz_y, iz_n, not_true_eq_false, not_false_eq_true, true_and, and_true, w32_e, w64_e, mset_e, mset_n, up_e, up_n, if_y, if_n, Int.add_zero, mk_1_m2, mk_1_0, mk_1_1, mk_1_2, mk_1_3, mk_1_4, mk_1_5, mk_1_6, mk_2_m2, mk_2_0, mk_2_1, mk_2_2, mk_2_3, mk_2_4, mk_2_5, mk_2_6, mk_2_7, mk_2_8, mk_2_9, mk_2_10, mk_3_m2, mk_3_0, mk_3_1, mk_3_2, mk_3_3, mk_3_4, mk_3_5, mk_4_m2, mk_4_m1, mk_5_m2, mk_5_m1, mk_11_m2, mk_11_m1, mk_42_m2, mk_42_m1, mk_73_m2, mk_73_0, mk_73_1, mk_73_2, mk_74_m2, mk_74_m1, mk_572_m2, mk_572_m1, mk_715_m2, mk_715_m1, mk_717_m2, mk_717_m1, mk_718_m2, mk_718_m1, mk_722_m2, mk_722_m1, mk_723_m2, mk_723_m1, mk_724_m2, mk_724_m1, mk_725_m2, mk_725_m1, mk_726_m2, mk_726_m1, mk_727_m2, mk_727_m1, mk_728_m2, mk_728_m1, mk_716_m2, mk_716_0, mk_716_1, mk_716_2, mk_716_3, mk_716_4, mk_721_m2, mk_721_0, mk_721_1, mk_721_2, mk_721_3, mk_721_4, mk_721_5, mk_721_6, mk_721_7, mk_721_8, mk_721_9, mk_721_10, mk_721_11, mk_721_12, mk_721_13, mk_721_14, mk_719_m2, mk_74_at, mk_572_at, mk_715_at, mk_717_at, mk_718_at, mk_722_at, mk_723_at, mk_724_at, mk_725_at, mk_726_at, mk_727_at, mk_728_at, mk_4_at, mk_5_at, mk_11_at, mk_42_at, mk_O_k, mk_O_0, mk_O_1, mk_O_2, mk_O_3, mk_L_k, mk_L_0, mk_L_1, mk_L_2, mk_L_3, mk_L_4, mk_L_5, mk_L_6, mk_L_7, mk_L_8, mk_L_9, mk_L_10, mk_X_k, mk_X_0, mk_X_1, mk_X_2, mk_X_3, mk_X_4, mk_75_k, mk_573_k, r_1_6, r_73_1, r_73_2, r_716_1, r_716_2, r_716_3, r_721_2, r_721_5, r_721_6, r_721_8, r_721_9, r_721_10, r_721_11, r_721_13, r_715, r_717, r_718, r_723, r_724, r_725, r_726, r_727, r_728, s_O0, s_O1, s_O2, s_O3, s_L0, s_L1, s_L2, s_L3, s_L4, s_L5, s_L6, s_L7, s_L8, s_L9, s_L10, s_X0, s_X1, s_X2, s_X3, s_X4, s_2_4, s_2_5, s_2_6, s_2_7, s_2_8, s_2_9, s_2_10, s_3_1, s_3_2, s_3_3, s_3_4, s_3_5, s_4]
          · rw [ec] at hi
            have i0 : i = 0 := by omega
            subst i0
            rw [show n + ((0 : Nat) : Int) = n from by omega]
            exact ⟨w2, v4⟩
        · have t := hT1 x9 (by omega)
          by_cases q2 : T x9 = 59
          · rw [if_pos (Or.inr q2)] at eF
            obtain ⟨b2, u8, u9, uz, n2, s1, s2, s3, s4⟩ := ih (f + 1) b1 (x9 + 1) x8 x9 (-100000005) (n + 1) hL1 hT1 (by omega) (by omega) (by omega) (by omega)
            have eE' : oE T L p = x9 := eE
            have ef : fF T L (m + 1) p = fF T L m (x9 + 1) := by rw [fF_s, if_pos eF, eE', if_neg q1]
            have ec : oC T L (m + 1) p = oC T L m (x9 + 1) + 1 := by rw [oC_s, eE', if_neg q1]
            refine ⟨b2, u8, u9, uz, n2, ?_, fun r k h => (s2 r k h).trans (r2 r k h), fun j hj => (s3 j (by omega)).trans (r3 j hj), ?_⟩
            · rw [f_X8_readAll_b10]
              rw [to_bz] at s1
              simp only [to_bz, to_nz, to_cz, to_iz]
              simp (disch := omega) only [hL1, t, mP_8, mP_9, mP_10, mP_11, mP_o, mP_s8, mP_s9, mP_s10, mP_s11, mP_s, bz_t, nz_t, cz_T, cz_t, iz_T, iz_F, iz_y, iz_n, not_true_eq_false, not_false_eq_true, true_and, and_true, w32_e, w64_e, mset_e, mset_n, up_e, up_n, if_y, if_n, Int.add_zero, mk_1_m2, mk_1_0, mk_1_1, mk_1_2, mk_1_3, mk_1_4, mk_1_5, mk_1_6, mk_2_m2, mk_2_0, mk_2_1, mk_2_2, mk_2_3, mk_2_4, mk_2_5, mk_2_6, mk_2_7, mk_2_8, mk_2_9, mk_2_10, mk_3_m2, mk_3_0, mk_3_1, mk_3_2, mk_3_3, mk_3_4, mk_3_5, mk_4_m2, mk_4_m1, mk_5_m2, mk_5_m1, mk_11_m2, mk_11_m1, mk_42_m2, mk_42_m1, mk_73_m2, mk_73_0, mk_73_1, mk_73_2, mk_74_m2, mk_74_m1, mk_572_m2, mk_572_m1, mk_715_m2, mk_715_m1, mk_717_m2, mk_717_m1, mk_718_m2, mk_718_m1, mk_722_m2, mk_722_m1, mk_723_m2, mk_723_m1, mk_724_m2, mk_724_m1, mk_725_m2, mk_725_m1, mk_726_m2, mk_726_m1, mk_727_m2, mk_727_m1, mk_728_m2, mk_728_m1, mk_716_m2, mk_716_0, mk_716_1, mk_716_2, mk_716_3, mk_716_4, mk_721_m2, mk_721_0, mk_721_1, mk_721_2, mk_721_3, mk_721_4, mk_721_5, mk_721_6, mk_721_7, mk_721_8, mk_721_9, mk_721_10, mk_721_11, mk_721_12, mk_721_13, mk_721_14, mk_719_m2, mk_74_at, mk_572_at, mk_715_at, mk_717_at, mk_718_at, mk_722_at, mk_723_at, mk_724_at, mk_725_at, mk_726_at, mk_727_at, mk_728_at, mk_4_at, mk_5_at, mk_11_at, mk_42_at, mk_O_k, mk_O_0, mk_O_1, mk_O_2, mk_O_3, mk_L_k, mk_L_0, mk_L_1, mk_L_2, mk_L_3, mk_L_4, mk_L_5, mk_L_6, mk_L_7, mk_L_8, mk_L_9, mk_L_10, mk_X_k, mk_X_0, mk_X_1, mk_X_2, mk_X_3, mk_X_4, mk_75_k, mk_573_k, r_1_6, r_73_1, r_73_2, r_716_1, r_716_2, r_716_3, r_721_2, r_721_5, r_721_6, r_721_8, r_721_9, r_721_10, r_721_11, r_721_13, r_715, r_717, r_718, r_723, r_724, r_725, r_726, r_727, r_728, s_O0, s_O1, s_O2, s_O3, s_L0, s_L1, s_L2, s_L3, s_L4, s_L5, s_L6, s_L7, s_L8, s_L9, s_L10, s_X0, s_X1, s_X2, s_X3, s_X4, s_2_4, s_2_5, s_2_6, s_2_7, s_2_8, s_2_9, s_2_10, s_3_1, s_3_2, s_3_3, s_3_4, s_3_5, s_4]
              exact s1
            · rw [ef, ec]
              rcases s4 with ⟨a1, a2, a3, a4⟩ | a
              · refine Or.inl ⟨a1, a2, by omega, fun i hi => ?_⟩
                cases i with
                | zero =>
                  rw [show n + ((0 : Nat) : Int) = n from by omega, s3 (5 * n) (by omega)]
                  refine ⟨w2, fun j hj => ?_⟩
                  have lj : (plc (oW T L (oPos T L 0 p))).length ≤ 4 := by unfold plc; (repeat' split) <;> exact Nat.le_of_ble_eq_true rfl
                  rw [s3 _ (by omega)]
                  exact v4 j hj
                | succ i =>
                  have ep : oPos T L (i + 1) p = oPos T L i (x9 + 1) := by rw [oPos_s, eE']
                  rw [ep, show n + ((i + 1 : Nat) : Int) = n + 1 + (i : Int) from by omega]
                  exact a4 i (by omega)
              · exact Or.inr a
          · have q3 : ¬ (x9 = L ∨ T x9 = 59) := by omega
            rw [if_neg q3] at eF
            have ef : fF T L (m + 1) p = x9 := by rw [fF_s]; rw [eF, if_neg (by omega)]
            refine ⟨b1, x8, x9, x9, n + 1, ?_, r2, r3, Or.inr ⟨by omega, by omega⟩⟩
            have st := all_stop v c w (N := N) (b := b1) (x8 := x8) (x9 := x9) (z := x9) (n := n + 1) (by omega) f
            rw [f_X8_readAll_b10]
            simp only [to_bz, to_nz, to_cz, to_iz]
            simp (disch := omega) only [hL1, t, mP_8, mP_9, mP_10, mP_11, mP_o, mP_s8, mP_s9, mP_s10, mP_s11, mP_s, bz_t, nz_t, cz_T, cz_t, iz_T, iz_F, iz_y, iz_n, not_true_eq_false, not_false_eq_true, true_and, and_true, w32_e, w64_e, mset_e, mset_n, up_e, up_n, if_y, if_n, Int.add_zero, mk_1_m2, mk_1_0, mk_1_1, mk_1_2, mk_1_3, mk_1_4, mk_1_5, mk_1_6, mk_2_m2, mk_2_0, mk_2_1, mk_2_2, mk_2_3, mk_2_4, mk_2_5, mk_2_6, mk_2_7, mk_2_8, mk_2_9, mk_2_10, mk_3_m2, mk_3_0, mk_3_1, mk_3_2, mk_3_3, mk_3_4, mk_3_5, mk_4_m2, mk_4_m1, mk_5_m2, mk_5_m1, mk_11_m2, mk_11_m1, mk_42_m2, mk_42_m1, mk_73_m2, mk_73_0, mk_73_1, mk_73_2, mk_74_m2, mk_74_m1, mk_572_m2, mk_572_m1, mk_715_m2, mk_715_m1, mk_717_m2, mk_717_m1, mk_718_m2, mk_718_m1, mk_722_m2, mk_722_m1, mk_723_m2, mk_723_m1, mk_724_m2, mk_724_m1, mk_725_m2, mk_725_m1, mk_726_m2, mk_726_m1, mk_727_m2, mk_727_m1, mk_728_m2, mk_728_m1, mk_716_m2, mk_716_0, mk_716_1, mk_716_2, mk_716_3, mk_716_4, mk_721_m2, mk_721_0, mk_721_1, mk_721_2, mk_721_3, mk_721_4, mk_721_5, mk_721_6, mk_721_7, mk_721_8, mk_721_9, mk_721_10, mk_721_11, mk_721_12, mk_721_13, mk_721_14, mk_719_m2, mk_74_at, mk_572_at, mk_715_at, mk_717_at, mk_718_at, mk_722_at, mk_723_at, mk_724_at, mk_725_at, mk_726_at, mk_727_at, mk_728_at, mk_4_at, mk_5_at, mk_11_at, mk_42_at, mk_O_k, mk_O_0, mk_O_1, mk_O_2, mk_O_3, mk_L_k, mk_L_0, mk_L_1, mk_L_2, mk_L_3, mk_L_4, mk_L_5, mk_L_6, mk_L_7, mk_L_8, mk_L_9, mk_L_10, mk_X_k, mk_X_0, mk_X_1, mk_X_2, mk_X_3, mk_X_4, mk_75_k, mk_573_k, r_1_6, r_73_1, r_73_2, r_716_1, r_716_2, r_716_3, r_721_2, r_721_5, r_721_6, r_721_8, r_721_9, r_721_10, r_721_11, r_721_13, r_715, r_717, r_718, r_723, r_724, r_725, r_726, r_727, r_728, s_O0, s_O1, s_O2, s_O3, s_L0, s_L1, s_L2, s_L3, s_L4, s_L5, s_L6, s_L7, s_L8, s_L9, s_L10, s_X0, s_X1, s_X2, s_X3, s_X4, s_2_4, s_2_5, s_2_6, s_2_7, s_2_8, s_2_9, s_2_10, s_3_1, s_3_2, s_3_3, s_3_4, s_3_5, s_4]
            exact st
      · rw [if_neg v1] at cn
        rw [cn] at cb eF
        have ef : fF T L (m + 1) p = (chn T L (plc (oW T L p)) (te T L p)).1 := by rw [fF_s]; rw [eF, if_neg v1]
        refine ⟨b1, x8, x9, z, n + 1, all_stop v c w (by omega) (f + 1), r2, r3, Or.inr ⟨by omega, by omega⟩⟩
theorem m_readAll (hN : 5000 ≤ N) {a : Mm} (hL : a 721 6 = L) (hr : 0 ≤ L ∧ L ≤ 80) (hT : ∀ i, 0 ≤ i ∧ i < L → a 726 i = T i) (hTc : ∀ i, 0 ≤ i ∧ i < L → 0 ≤ T i ∧ T i ≤ 65535) :
    ∃ b' x8 x9 z n', f_X8_readAll N 721 (mk v c w a) = some (0, mk v c w (mP b' x8 x9 z n')) ∧ (∀ r k, r ≠ 727 → b' r k = a r k) ∧
      ((fF T L 81 0 = -1 ∧ z = -100000005 ∧ n' = (oC T L 81 0 : Int) ∧ ∀ i : Nat, i < oC T L 81 0 → b' 727 (5 * (i : Int)) = oW T L (oPos T L i 0) ∧ ∀ j : Nat, j < (plc (oW T L (oPos T L i 0))).length → b' 727 (5 * (i : Int) + 1 + j) = oN T L (oPos T L i 0) j) ∨ (fF T L 81 0 ≠ -1 ∧ z = fF T L 81 0)) := by
  obtain ⟨b', x8, x9, z, n', r1, r2, r3, r4⟩ := m_all v c w (N := N) (T := T) (L := L) hN hr hTc 81 N a 0 (a 721 8) (a 721 9) (a 721 10) 0 hL hT (by omega) (by omega) (by omega) (by omega)
  refine ⟨b', x8, x9, z, n', ?_, r2, ?_⟩
  · have e : mk v c w a = mk v c w (mP a (a 721 8) (a 721 9) (a 721 10) (a 721 11)) := by rw [mP_i]
    rw [e]
    rw [to_bz] at r1
    unfold f_X8_readAll
    simp only [to_bz, to_nz, to_cz, to_iz]
    simp (disch := omega) only [mP_8, mP_9, mP_10, mP_11, mP_o, mP_s8, mP_s9, mP_s10, mP_s11, mP_s, bz_t, nz_t, cz_T, cz_t, iz_T, iz_F, iz_y, iz_n, not_true_eq_false, not_false_eq_true, true_and, and_true, w32_e, w64_e, mset_e, mset_n, up_e, up_n, if_y, if_n, Int.add_zero, mk_1_m2, mk_1_0, mk_1_1, mk_1_2, mk_1_3, mk_1_4, mk_1_5, mk_1_6, mk_2_m2, mk_2_0, mk_2_1, mk_2_2, mk_2_3, mk_2_4, mk_2_5, mk_2_6, mk_2_7, mk_2_8, mk_2_9, mk_2_10, mk_3_m2, mk_3_0, mk_3_1, mk_3_2, mk_3_3, mk_3_4, mk_3_5, mk_4_m2, mk_4_m1, mk_5_m2, mk_5_m1, mk_11_m2, mk_11_m1, mk_42_m2, mk_42_m1, mk_73_m2, mk_73_0, mk_73_1, mk_73_2, mk_74_m2, mk_74_m1, mk_572_m2, mk_572_m1, mk_715_m2, mk_715_m1, mk_717_m2, mk_717_m1, mk_718_m2, mk_718_m1, mk_722_m2, mk_722_m1, mk_723_m2, mk_723_m1, mk_724_m2, mk_724_m1, mk_725_m2, mk_725_m1, mk_726_m2, mk_726_m1, mk_727_m2, mk_727_m1, mk_728_m2, mk_728_m1, mk_716_m2, mk_716_0, mk_716_1, mk_716_2, mk_716_3, mk_716_4, mk_721_m2, mk_721_0, mk_721_1, mk_721_2, mk_721_3, mk_721_4, mk_721_5, mk_721_6, mk_721_7, mk_721_8, mk_721_9, mk_721_10, mk_721_11, mk_721_12, mk_721_13, mk_721_14, mk_719_m2, mk_74_at, mk_572_at, mk_715_at, mk_717_at, mk_718_at, mk_722_at, mk_723_at, mk_724_at, mk_725_at, mk_726_at, mk_727_at, mk_728_at, mk_4_at, mk_5_at, mk_11_at, mk_42_at, mk_O_k, mk_O_0, mk_O_1, mk_O_2, mk_O_3, mk_L_k, mk_L_0, mk_L_1, mk_L_2, mk_L_3, mk_L_4, mk_L_5, mk_L_6, mk_L_7, mk_L_8, mk_L_9, mk_L_10, mk_X_k, mk_X_0, mk_X_1, mk_X_2, mk_X_3, mk_X_4, mk_75_k, mk_573_k, r_1_6, r_73_1, r_73_2, r_716_1, r_716_2, r_716_3, r_721_2, r_721_5, r_721_6, r_721_8, r_721_9, r_721_10, r_721_11, r_721_13, r_715, r_717, r_718, r_723, r_724, r_725, r_726, r_727, r_728, s_O0, s_O1, s_O2, s_O3, s_L0, s_L1, s_L2, s_L3, s_L4, s_L5, s_L6, s_L7, s_L8, s_L9, s_L10, s_X0, s_X1, s_X2, s_X3, s_X4, s_2_4, s_2_5, s_2_6, s_2_7, s_2_8, s_2_9, s_2_10, s_3_1, s_3_2, s_3_3, s_3_4, s_3_5, s_4]
    exact r1
  · simp only [Int.zero_add] at r4
    exact r4
end MALL
