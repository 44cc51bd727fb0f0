/-! documents: what is written, and m's writing -/
def ndf : Nat → Int → Nat
  | 0, _ => 1
  | k + 1, x => if x < 10 then 1 else ndf k (x / 10) + 1
def nd (x : Int) : Int := (ndf 9 x : Int)
/-- the digits of x end before the place e -/
def Gd (e x : Int) (f : Int → Int) : Int → Int := fun i => if e - nd x ≤ i ∧ i < e then 48 + x / p10 (e - 1 - i).toNat % 10 else f i
theorem p10_s (k : Nat) : p10 (k + 1) = 10 * p10 k := Eq.trans rfl rfl
theorem ndf_1 (k : Nat) (x : Int) : 1 ≤ ndf k x := by
  cases k with
  | zero => exact Nat.le_refl 1
  | succ k => unfold ndf; split <;> omega
theorem ndf_p : ∀ (k : Nat) (x : Int), 0 ≤ x → x < p10 (k + 1) → x < p10 (ndf k x) ∧ (ndf k x = 1 ∨ p10 (ndf k x - 1) ≤ x) ∧ ndf k x ≤ k + 1 := by
  intro k
  induction k with
  | zero => intro x h0 h1; exact ⟨h1, Or.inl rfl, Nat.le_refl 1⟩
  | succ k ih =>
    intro x h0 h1
    unfold ndf
    by_cases q : x < 10
    · rw [if_pos q]; exact ⟨q, Or.inl rfl, by omega⟩
    · rw [if_neg q]
      rw [p10_s] at h1
      obtain ⟨a1, a2, a3⟩ := ih (x / 10) (by omega) (by omega)
      have n1 := ndf_1 k (x / 10)
      refine ⟨by rw [p10_s]; omega, Or.inr ?_, by omega⟩
      rw [show ndf k (x / 10) + 1 - 1 = (ndf k (x / 10) - 1) + 1 from by omega, p10_s]
      rcases a2 with a2 | a2
      · rw [a2]; show 10 * 1 ≤ x; omega
      · omega
theorem nd_p {x : Int} (h : 0 ≤ x ∧ x < 1000000000) : x < p10 (nd x).toNat ∧ (nd x = 1 ∨ p10 ((nd x).toNat - 1) ≤ x) ∧ 1 ≤ nd x ∧ nd x ≤ 10 := by
  have q := ndf_p 9 x h.1 (by have e : p10 10 = 10000000000 := rfl; rw [show 9 + 1 = 10 from rfl, e]; omega)
  have n1 := ndf_1 9 x
  unfold nd
  rw [show ((ndf 9 x : Int)).toNat = ndf 9 x from rfl]
  refine ⟨q.1, ?_, by omega, by omega⟩
  rcases q.2.1 with z | z
  · left; omega
  · right; exact z
theorem p10_m {a b : Nat} (h : a ≤ b) : p10 a ≤ p10 b := by
  induction b with
  | zero => rw [show a = 0 from by omega]; exact Int.le_refl _
  | succ b ih =>
    by_cases e : a = b + 1
    · rw [e]; exact Int.le_refl _
    · have := ih (by omega)
      have := p10_1 b
      rw [p10_s]; omega
theorem nd_le {x : Int} {k : Nat} (h : 0 ≤ x ∧ x < 1000000000) (hk : 1 ≤ k) (hx : x < p10 k) : nd x ≤ k := by
  obtain ⟨a1, a2, a3, a4⟩ := nd_p h
  by_cases z : nd x ≤ k
  · exact z
  · have := p10_m (a := k) (b := (nd x).toNat - 1) (by omega)
    omega
theorem nd_9 {x : Int} (h : 0 ≤ x ∧ x < 1000000000) : 1 ≤ nd x ∧ nd x ≤ 9 := ⟨(nd_p h).2.2.1, nd_le h (k := 9) (by omega) h.2⟩
theorem o_lrem_e {x : Int} (h : 0 ≤ x ∧ x ≤ 2147483647) : o_lrem x 10 = x % 10 := by
  unfold o_lrem
  rw [dv_l ⟨by omega, by omega⟩ ⟨by omega, by omega⟩, ml_l, sb_l, toL (w64_R _), Int.tdiv_eq_ediv_of_nonneg h.1, w64_e (x := x / 10) (by omega), w64_e (x := x / 10 * 10) (by omega), w64_e (by omega)]
  omega
/-- what m's document holds -/
def mC (a0 : Mm) (f : Int → Int) (n : Int) (a : Mm) : Prop := a 721 13 = n ∧ (∀ i, 0 ≤ i ∧ i < n → a 728 i = f i) ∧ ∀ r k, r ≠ 728 → ¬ (r = 721 ∧ k = 13) → a r k = a0 r k
section MDOC
variable {N : Nat} (v : Int → Int) (c : Int → Int → Int) (w : Int → Int) {a0 a : Mm} {f : Int → Int} {n : Int}
theorem m_write (h : mC a0 f n a) (hn : 0 ≤ n ∧ n ≤ 50) (x : Int) : ∃ a', f_X8_write N 721 x (mk v c w a) = some (0, mk v c w a') ∧ mC a0 (up f n x) (n + 1) a' := by
  obtain ⟨h1, h2, h3⟩ := h
  refine ⟨mset (mset a 728 n x) 721 13 (n + 1), ?_, mset_e _ _ _ _, fun i hi => ?_, fun r k g1 g2 => ?_⟩
  · unfold f_X8_write
    simp only [to_bz, to_nz, to_cz, to_iz]
    simp (disch := omega) only [h1, bz_t, nz_t, cz_T, cz_t, iz_T, iz_F, iz_y, iz_n, not_true_eq_false, not_false_eq_true, true_and, and_true, w32_e, w64_e, mset_e, mset_n, up_e, up_n, if_y, if_n, Int.add_zero, mk_1_m2, mk_1_0, mk_1_1, mk_1_2, mk_1_3, mk_1_4, mk_1_5, mk_1_6, mk_2_m2, mk_2_0, mk_2_1, mk_2_2, mk_2_3, mk_2_4, mk_2_5, mk_2_6, mk_2_7, mk_2_8, mk_2_9, mk_2_10, mk_3_m2, mk_3_0, mk_3_1, mk_3_2, mk_3_3, mk_3_4, mk_3_5, mk_4_m2, mk_4_m1, mk_5_m2, mk_5_m1, mk_11_m2, mk_11_m1, mk_42_m2, mk_42_m1, mk_73_m2, mk_73_0, mk_73_1, mk_73_2, mk_74_m2, mk_74_m1, mk_572_m2, mk_572_m1, mk_715_m2, mk_715_m1, mk_717_m2, mk_717_m1, mk_718_m2, mk_718_m1, mk_722_m2, mk_722_m1, mk_723_m2, mk_723_m1, mk_724_m2, mk_724_m1, mk_725_m2, mk_725_m1, mk_726_m2, mk_726_m1, mk_727_m2, mk_727_m1, mk_728_m2, mk_728_m1, mk_716_m2, mk_716_0, mk_716_1, mk_716_2, mk_716_3, mk_716_4, mk_721_m2, mk_721_0, mk_721_1, mk_721_2, mk_721_3, mk_721_4, mk_721_5, mk_721_6, mk_721_7, mk_721_8, mk_721_9, mk_721_10, mk_721_11, mk_721_12, mk_721_13, mk_721_14, mk_719_m2, mk_74_at, mk_572_at, mk_715_at, mk_717_at, mk_718_at, mk_722_at, mk_723_at, mk_724_at, mk_725_at, mk_726_at, mk_727_at, mk_728_at, mk_4_at, mk_5_at, mk_11_at, mk_42_at, mk_O_k, mk_O_0, mk_O_1, mk_O_2, mk_O_3, mk_L_k, mk_L_0, mk_L_1, mk_L_2, mk_L_3, mk_L_4, mk_L_5, mk_L_6, mk_L_7, mk_L_8, mk_L_9, mk_L_10, mk_X_k, mk_X_0, mk_X_1, mk_X_2, mk_X_3, mk_X_4, mk_75_k, mk_573_k, r_1_6, r_73_1, r_73_2, r_716_1, r_716_2, r_716_3, r_721_2, r_721_5, r_721_6, r_721_8, r_721_9, r_721_10, r_721_11, r_721_13, r_715, r_717, r_718, r_723, r_724, r_725, r_726, r_727, r_728, s_O0, s_O1, s_O2, s_O3, s_L0, s_L1, s_L2, s_L3, s_L4, s_L5, s_L6, s_L7, s_L8, s_L9, s_L10, s_X0, s_X1, s_X2, s_X3, s_X4, s_2_4, s_2_5, s_2_6, s_2_7, s_2_8, s_2_9, s_2_10, s_3_1, s_3_2, s_3_3, s_3_4, s_3_5, s_4]
  · rw [mset_n (by omega)]
    by_cases z : i = n
    · rw [z, mset_e, up_e]
    · rw [mset_n (by omega), up_n z]; exact h2 i (by omega)
  · rw [mset_n (by omega), mset_n (by omega)]; exact h3 r k g1 g2
def q10 : Nat → Int
  | 0 => 0
  | k + 1 => p10 k
theorem q10_d (k : Nat) : p10 k / 10 = q10 k := by
  cases k with
  | zero => rfl
  | succ k => rw [p10_s]; show 10 * p10 k / 10 = p10 k; omega
/-- the digits of x, j of them still to be written -/
def Gk (e x : Int) (j : Int) (f : Int → Int) : Int → Int := fun i => if e - nd x ≤ i ∧ i < e - j then 48 + x / p10 (e - 1 - i).toNat % 10 else f i
theorem Gk_c {e x j : Int} {f : Int → Int} : up (Gk e x (j + 1) f) (e - (j + 1)) (48 + x / p10 j.toNat % 10) = Gk e x j f ∨ ¬ (0 ≤ j ∧ j < nd x) := by
  by_cases h : 0 ≤ j ∧ j < nd x
  · left
    funext i
    unfold up Gk
    by_cases z : i = e - (j + 1)
    · rw [if_pos z, if_pos (by omega), show e - 1 - i = j from by omega]
    · rw [if_neg z]
      by_cases y : e - nd x ≤ i ∧ i < e - (j + 1)
      · rw [if_pos y, if_pos (by omega)]
      · rw [if_neg y, if_neg (by omega)]
  · right; exact h
theorem l_wn21 {x e : Int} (hx : 0 ≤ x ∧ x < 1000000000) (he : e ≤ 50 ∧ nd x ≤ e) : ∀ (j : Nat) (g : Nat) (a : Mm), (j : Int) ≤ nd x → j < g → mC a0 (Gk e x j f) (e - j) a →
    ∃ a', f_X8_writeNumber_b21 N g 721 x (q10 j) (mk v c w a) = some (0, mk v c w a') ∧ mC a0 (Gk e x 0 f) e a' := by
  have n9 := nd_9 hx
  intro j
  induction j with
  | zero =>
    intro g a h1 h2 h3
    obtain ⟨g, rfl⟩ : ∃ m, g = m + 1 := ⟨g - 1, by omega⟩
    refine ⟨a, ?_, by rw [show e - ((0 : Nat) : Int) = e from by omega] at h3; exact h3⟩
    rw [f_X8_writeNumber_b21]
    show (if (0 : Int) ≤ 0 then _ else _) = _
    rw [if_pos (by omega)]
  | succ j ih =>
    intro g a h1 h2 h3
    obtain ⟨g, rfl⟩ : ∃ m, g = m + 1 := ⟨g - 1, by omega⟩
    have p1 := p10_1 j
    have d1 := div_b (A := 1000000000) (show 0 ≤ x ∧ x ≤ 1000000000 by omega) (show 0 < p10 j by omega)
    have p9 : p10 j ≤ 100000000 := p10_f ⟨j, by omega⟩
    obtain ⟨a1, w1, w2⟩ := m_write v c w (N := N) h3 (by omega) (48 + x / p10 j % 10)
    have gc := Gk_c (e := e) (x := x) (j := (j : Int)) (f := f)
    rw [show ((j : Int)).toNat = j from rfl] at gc
    rw [nc1] at w2
    rw [gc.resolve_right (by omega), show e - ((j : Int) + 1) + 1 = e - j from by omega] at w2
    obtain ⟨a', r1, r2⟩ := ih g a1 (by omega) (by omega) w2
    refine ⟨a', ?_, r2⟩
    have e1 : Int.tdiv x (p10 j) = x / p10 j := Int.tdiv_eq_ediv_of_nonneg hx.1
    have e2 : Int.tdiv (p10 j) 10 = q10 j := by rw [Int.tdiv_eq_ediv_of_nonneg (by omega)]; exact q10_d j
    have e3 := o_lrem_e (x := x / p10 j) (by omega)
    have q1 : 0 ≤ q10 j ∧ q10 j ≤ 100000000 := by
      rw [← q10_d j]; omega
    rw [f_X8_writeNumber_b21, show q10 (j + 1) = p10 j from rfl]
    simp only [to_bz, to_nz, to_cz, to_iz]
    simp (disch := omega) only [e1, e2, e3, w1, bz_t, nz_t, cz_T, cz_t, iz_T, iz_F, iz_y, iz_n, not_true_eq_false, not_false_eq_true, true_and, and_true, w32_e, w64_e, mset_e, mset_n, up_e, up_n, if_y, if_n, Int.add_zero, mk_1_m2, mk_1_0, mk_1_1, mk_1_2, mk_1_3, mk_1_4, mk_1_5, mk_1_6, mk_2_m2, mk_2_0, mk_2_1, mk_2_2, mk_2_3, mk_2_4, mk_2_5, mk_2_6, mk_2_7, mk_2_8, mk_2_9, mk_2_10, mk_3_m2, mk_3_0, mk_3_1, mk_3_2, mk_3_3, mk_3_4, mk_3_5, mk_4_m2, mk_4_m1, mk_5_m2, mk_5_m1, mk_11_m2, mk_11_m1, mk_42_m2, mk_42_m1, mk_73_m2, mk_73_0, mk_73_1, mk_73_2, mk_74_m2, mk_74_m1, mk_572_m2, mk_572_m1, mk_715_m2, mk_715_m1, mk_717_m2, mk_717_m1, mk_718_m2, mk_718_m1, mk_722_m2, mk_722_m1, mk_723_m2, mk_723_m1, mk_724_m2, mk_724_m1, mk_725_m2, mk_725_m1, mk_726_m2, mk_726_m1, mk_727_m2, mk_727_m1, mk_728_m2, mk_728_m1, mk_716_m2, mk_716_0, mk_716_1, mk_716_2, mk_716_3, mk_716_4, mk_721_m2, mk_721_0, mk_721_1, mk_721_2, mk_721_3, mk_721_4, mk_721_5, mk_721_6, mk_721_7, mk_721_8, mk_721_9, mk_721_10, mk_721_11, mk_721_12, mk_721_13, mk_721_14, mk_719_m2, mk_74_at, mk_572_at, mk_715_at, mk_717_at, mk_718_at, mk_722_at, mk_723_at, mk_724_at, mk_725_at, mk_726_at, mk_727_at, mk_728_at, mk_4_at, mk_5_at, mk_11_at, mk_42_at, mk_O_k, mk_O_0, mk_O_1, mk_O_2, mk_O_3, mk_L_k, mk_L_0, mk_L_1, mk_L_2, mk_L_3, mk_L_4, mk_L_5, mk_L_6, mk_L_7, mk_L_8, mk_L_9, mk_L_10, mk_X_k, mk_X_0, mk_X_1, mk_X_2, mk_X_3, mk_X_4, mk_75_k, mk_573_k, r_1_6, r_73_1, r_73_2, r_716_1, r_716_2, r_716_3, r_721_2, r_721_5, r_721_6, r_721_8, r_721_9, r_721_10, r_721_11, r_721_13, r_715, r_717, r_718, r_723, r_724, r_725, r_726, r_727, r_728, s_O0, s_O1, s_O2, s_O3, s_L0, s_L1, s_L2, s_L3, s_L4, s_L5, s_L6, s_L7, s_L8, s_L9, s_L10, s_X0, s_X1, s_X2, s_X3, s_X4, s_2_4, s_2_5, s_2_6, s_2_7, s_2_8, s_2_9, s_2_10, s_3_1, s_3_2, s_3_3, s_3_4, s_3_5, s_4]
    exact r1
theorem m_num {x : Int} (h : mC a0 f n a) (hN : 5000 ≤ N) (hx : 0 ≤ x ∧ x < 1000000000) (hn : 0 ≤ n ∧ n + nd x ≤ 50) : ∃ a', f_X8_writeNumber N 721 x (mk v c w a) = some (0, mk v c w a') ∧ mC a0 (Gd (n + nd x) x f) (n + nd x) a' := by
  obtain ⟨n1, n2, n3, n4⟩ := nd_p hx
  have n9 := nd_9 hx
  have st : mC a0 (Gk (n + nd x) x ((nd x).toNat : Int) f) (n + nd x - ((nd x).toNat : Int)) a := by
    rw [show n + nd x - ((nd x).toNat : Int) = n from by omega]
    obtain ⟨h1, h2, h3⟩ := h
    refine ⟨h1, fun i hi => ?_, h3⟩
    unfold Gk
    rw [if_neg (by omega)]; exact h2 i hi
  obtain ⟨a', r1, r2⟩ := l_wn21 v c w (N := N) hx (e := n + nd x) (by omega) (nd x).toNat N a (by omega) (by omega) st
  have up1 : ∀ (k g : Nat), (k : Int) < nd x → (nd x).toNat - k < g → f_X8_writeNumber_b2 N g 721 x (p10 k) (mk v c w a) = f_X8_writeNumber_b21 N N 721 x (p10 ((nd x).toNat - 1)) (mk v c w a) := by
    intro k g
    induction g generalizing k with
    | zero => intro h1 h2; omega
    | succ g ih =>
      intro h1 h2
      have p1 := p10_1 k
      have p9 : p10 k ≤ 100000000 := p10_f ⟨k, by omega⟩
      have e1 : Int.tdiv x 10 = x / 10 := Int.tdiv_eq_ediv_of_nonneg hx.1
      rw [f_X8_writeNumber_b2]
      by_cases q : k = (nd x).toNat - 1
      · rw [show (nd x).toNat = ((nd x).toNat - 1) + 1 from by omega, p10_s, ← q] at n1
        rw [← q]
        simp only [to_bz, to_nz, to_cz, to_iz]
        simp (disch := omega) only [e1, bz_t, nz_t, cz_T, cz_t, iz_T, iz_F, iz_y, iz_n, not_true_eq_false, not_false_eq_true, true_and, and_true, w32_e, w64_e, mset_e, mset_n, up_e, up_n, if_y, if_n, Int.add_zero, mk_1_m2, mk_1_0, mk_1_1, mk_1_2, mk_1_3, mk_1_4, mk_1_5, mk_1_6, mk_2_m2, mk_2_0, mk_2_1, mk_2_2, mk_2_3, mk_2_4, mk_2_5, mk_2_6, mk_2_7, mk_2_8, mk_2_9, mk_2_10, mk_3_m2, mk_3_0, mk_3_1, mk_3_2, mk_3_3, mk_3_4, mk_3_5, mk_4_m2, mk_4_m1, mk_5_m2, mk_5_m1, mk_11_m2, mk_11_m1, mk_42_m2, mk_42_m1, mk_73_m2, mk_73_0, mk_73_1, mk_73_2, mk_74_m2, mk_74_m1, mk_572_m2, mk_572_m1, mk_715_m2, mk_715_m1, mk_717_m2, mk_717_m1, mk_718_m2, mk_718_m1, mk_722_m2, mk_722_m1, mk_723_m2, mk_723_m1, mk_724_m2, mk_724_m1, mk_725_m2, mk_725_m1, mk_726_m2, mk_726_m1, mk_727_m2, mk_727_m1, mk_728_m2, mk_728_m1, mk_716_m2, mk_716_0, mk_716_1, mk_716_2, mk_716_3, mk_716_4, mk_721_m2, mk_721_0, mk_721_1, mk_721_2, mk_721_3, mk_721_4, mk_721_5, mk_721_6, mk_721_7, mk_721_8, mk_721_9, mk_721_10, mk_721_11, mk_721_12, mk_721_13, mk_721_14, mk_719_m2, mk_74_at, mk_572_at, mk_715_at, mk_717_at, mk_718_at, mk_722_at, mk_723_at, mk_724_at, mk_725_at, mk_726_at, mk_727_at, mk_728_at, mk_4_at, mk_5_at, mk_11_at, mk_42_at, mk_O_k, mk_O_0, mk_O_1, mk_O_2, mk_O_3, mk_L_k, mk_L_0, mk_L_1, mk_L_2, mk_L_3, mk_L_4, mk_L_5, mk_L_6, mk_L_7, mk_L_8, mk_L_9, mk_L_10, mk_X_k, mk_X_0, mk_X_1, mk_X_2, mk_X_3, mk_X_4, mk_75_k, mk_573_k, r_1_6, r_73_1, r_73_2, r_716_1, r_716_2, r_716_3, r_721_2, r_721_5, r_721_6, r_721_8, r_721_9, r_721_10, r_721_11, r_721_13, r_715, r_717, r_718, r_723, r_724, r_725, r_726, r_727, r_728, s_O0, s_O1, s_O2, s_O3, s_L0, s_L1, s_L2, s_L3, s_L4, s_L5, s_L6, s_L7, s_L8, s_L9, s_L10, s_X0, s_X1, s_X2, s_X3, s_X4, s_2_4, s_2_5, s_2_6, s_2_7, s_2_8, s_2_9, s_2_10, s_3_1, s_3_2, s_3_3, s_3_4, s_3_5, s_4]
      · have m1 := p10_m (a := k + 1) (b := (nd x).toNat - 1) (by omega)
        rw [p10_s] at m1
        have n5 : p10 ((nd x).toNat - 1) ≤ x := by rcases n2 with z | z; omega; exact z
        have r := ih (k + 1) (by omega) (by omega)
        rw [p10_s, Int.mul_comm] at r
        simp only [to_bz, to_nz, to_cz, to_iz]
        simp (disch := omega) only [e1, bz_t, nz_t, cz_T, cz_t, iz_T, iz_F, iz_y, iz_n, not_true_eq_false, not_false_eq_true, true_and, and_true, w32_e, w64_e, mset_e, mset_n, up_e, up_n, if_y, if_n, Int.add_zero, mk_1_m2, mk_1_0, mk_1_1, mk_1_2, mk_1_3, mk_1_4, mk_1_5, mk_1_6, mk_2_m2, mk_2_0, mk_2_1, mk_2_2, mk_2_3, mk_2_4, mk_2_5, mk_2_6, mk_2_7, mk_2_8, mk_2_9, mk_2_10, mk_3_m2, mk_3_0, mk_3_1, mk_3_2, mk_3_3, mk_3_4, mk_3_5, mk_4_m2, mk_4_m1, mk_5_m2, mk_5_m1, mk_11_m2, mk_11_m1, mk_42_m2, mk_42_m1, mk_73_m2, mk_73_0, mk_73_1, mk_73_2, mk_74_m2, mk_74_m1, mk_572_m2, mk_572_m1, mk_715_m2, mk_715_m1, mk_717_m2, mk_717_m1, mk_718_m2, mk_718_m1, mk_722_m2, mk_722_m1, mk_723_m2, mk_723_m1, mk_724_m2, mk_724_m1, mk_725_m2, mk_725_m1, mk_726_m2, mk_726_m1, mk_727_m2, mk_727_m1, mk_728_m2, mk_728_m1, mk_716_m2, mk_716_0, mk_716_1, mk_716_2, mk_716_3, mk_716_4, mk_721_m2, mk_721_0, mk_721_1, mk_721_2, mk_721_3, mk_721_4, mk_721_5, mk_721_6, mk_721_7, mk_721_8, mk_721_9, mk_721_10, mk_721_11, mk_721_12, mk_721_13, mk_721_14, mk_719_m2, mk_74_at, mk_572_at, mk_715_at, mk_717_at, mk_718_at, mk_722_at, mk_723_at, mk_724_at, mk_725_at, mk_726_at, mk_727_at, mk_728_at, mk_4_at, mk_5_at, mk_11_at, mk_42_at, mk_O_k, mk_O_0, mk_O_1, mk_O_2, mk_O_3, mk_L_k, mk_L_0, mk_L_1, mk_L_2, mk_L_3, mk_L_4, mk_L_5, mk_L_6, mk_L_7, mk_L_8, mk_L_9, mk_L_10, mk_X_k, mk_X_0, mk_X_1, mk_X_2, mk_X_3, mk_X_4, mk_75_k, mk_573_k, r_1_6, r_73_1, r_73_2, r_716_1, r_716_2, r_716_3, r_721_2, r_721_5, r_721_6, r_721_8, r_721_9, r_721_10, r_721_11, r_721_13, r_715, r_717, r_718, r_723, r_724, r_725, r_726, r_727, r_728, s_O0, s_O1, s_O2, s_O3, s_L0, s_L1, s_L2, s_L3, s_L4, s_L5, s_L6, s_L7, s_L8, s_L9, s_L10, s_X0, s_X1, s_X2, s_X3, s_X4, s_2_4, s_2_5, s_2_6, s_2_7, s_2_8, s_2_9, s_2_10, s_3_1, s_3_2, s_3_3, s_3_4, s_3_5, s_4]
        exact r
  have u0 := up1 0 N (by omega) (by omega)
  have eg : Gk (n + nd x) x 0 f = Gd (n + nd x) x f := by funext i; unfold Gk Gd; rw [Int.sub_zero]
  rw [eg] at r2
  refine ⟨a', ?_, r2⟩
  unfold f_X8_writeNumber
  rw [show p10 0 = 1 from rfl] at u0
  rw [u0, ← r1]
  congr 1
  rw [show (nd x).toNat = ((nd x).toNat - 1) + 1 from by omega]; rfl
end MDOC
