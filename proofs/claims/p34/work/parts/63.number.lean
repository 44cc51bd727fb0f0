/-! numbers in x's builder -/
section NUMB
variable (N : Nat) (v : Int → Int) (c : Int → Int → Int) (w : Int → Int) {a0 a : Mm} {f : Int → Int} {n : Int}
theorem tab_f : ∀ b : Fin 100, m0 (-301) b.val = 48 + b.val % 10 ∧ m0 (-302) b.val = 48 + b.val / 10 := by decide +kernel
theorem tab_e {b : Int} (h : 0 ≤ b ∧ b < 100) : m0 (-301) b = 48 + b % 10 ∧ m0 (-302) b = 48 + b / 10 := by
  have q := tab_f ⟨b.toNat, by omega⟩
  have e : ((b.toNat : Nat) : Int) = b := by omega
  dsimp only at q
  rw [e] at q
  constructor
  · rw [q.1]
  · rw [q.2]
theorem tab_1 : m0 (-301) (-2) = 21 := by decide +kernel
theorem tab_2 : m0 (-302) (-2) = 21 := by decide +kernel
theorem tab_3 : m0 (-301) (-1) = 100 := by decide +kernel
theorem tab_4 : m0 (-302) (-1) = 100 := by decide +kernel
theorem nd_u {x : Int} {d : Nat} (h : 0 ≤ x ∧ x < 1000000000) (hd : 1 ≤ d) (h1 : p10 (d - 1) ≤ x ∨ d = 1) (h2 : x < p10 d) : nd x = d := by
  have a := nd_le h hd h2
  obtain ⟨b1, b2, b3, b4⟩ := nd_p h
  by_cases z : nd x = d
  · exact z
  · have q := p10_m (a := (nd x).toNat) (b := d - 1) (by omega)
    omega
theorem nd_h {x : Int} (h : 100 ≤ x ∧ x < 1000000000) : nd x = nd (x / 100) + 2 := by
  obtain ⟨b1, b2, b3, b4⟩ := nd_p (x := x / 100) (by omega)
  have e : p10 ((nd (x / 100)).toNat + 2) = 100 * p10 (nd (x / 100)).toNat := by rw [p10_s, p10_s]; omega
  have q := nd_u (x := x) (d := (nd (x / 100)).toNat + 2) (by omega) (by omega) (Or.inl (by
    rw [show (nd (x / 100)).toNat + 2 - 1 = (nd (x / 100)).toNat - 1 + 2 from by omega, p10_s, p10_s]
    rcases b2 with z | z
    · rw [z]; show 10 * (10 * 1) ≤ x; omega
    · omega)) (by rw [e]; omega)
  omega
theorem x_size {x : Int} (hN : 5000 ≤ N) (hx : 0 ≤ x ∧ x < 1000000000) (μ : Mm) : f_J6_stringSize_0f7a4 N x μ = some (nd x, μ) := by
  obtain ⟨b1, b2, b3, b4⟩ := nd_p hx
  have n9 := nd_9 hx
  have L : ∀ (k g i : Nat), (nd x).toNat - i = k → 1 ≤ i → (i : Int) ≤ nd x → k < g → f_J6_stringSize_0f7a4_b16 N g (-x) 0 (-p10 i) i μ = some (nd x, μ) := by
    intro k
    induction k with
    | zero =>
      intro g i h1 h2 h3 h4
      obtain ⟨g, rfl⟩ : ∃ m, g = m + 1 := ⟨g - 1, by omega⟩
      have e : i = (nd x).toNat := by omega
      rw [← e] at b1
      rw [f_J6_stringSize_0f7a4_b16]
      simp only [to_bz, to_nz, to_cz, to_iz]
      simp (disch := omega) only [bz_t, nz_t, cz_T, cz_t, iz_T, iz_F, iz_y, iz_n, not_true_eq_false, not_false_eq_true, true_and, and_true, w32_e, w64_e, mset_e, mset_n, up_e, up_n, if_y, if_n, Int.add_zero, mk_1_m2, mk_1_0, mk_1_1, mk_1_2, mk_1_3, mk_1_4, mk_1_5, mk_1_6, mk_2_m2, mk_2_0, mk_2_1, mk_2_2, mk_2_3, mk_2_4, mk_2_5, mk_2_6, mk_2_7, mk_2_8, mk_2_9, mk_2_10, mk_3_m2, mk_3_0, mk_3_1, mk_3_2, mk_3_3, mk_3_4, mk_3_5, mk_4_m2, mk_4_m1, mk_5_m2, mk_5_m1, mk_11_m2, mk_11_m1, mk_42_m2, mk_42_m1, mk_73_m2, mk_73_0, mk_73_1, mk_73_2, mk_74_m2, mk_74_m1, mk_572_m2, mk_572_m1, mk_715_m2, mk_715_m1, mk_717_m2, mk_717_m1, mk_718_m2, mk_718_m1, mk_716_m2, mk_716_0, mk_716_1, mk_716_2, mk_716_3, mk_716_4, mk_719_m2, mk_74_at, mk_572_at, mk_715_at, mk_717_at, mk_718_at, mk_4_at, mk_5_at, mk_11_at, mk_42_at, mk_O_k, mk_O_0, mk_O_1, mk_O_2, mk_O_3, mk_L_k, mk_L_0, mk_L_1, mk_L_2, mk_L_3, mk_L_4, mk_L_5, mk_L_6, mk_L_7, mk_L_8, mk_L_9, mk_L_10, mk_X_k, mk_X_0, mk_X_1, mk_X_2, mk_X_3, mk_X_4, mk_75_k, mk_573_k, r_1_6, r_73_1, r_73_2, r_716_1, r_716_2, r_716_3, r_715, r_717, r_718, s_O0, s_O1, s_O2, s_O3, s_L0, s_L1, s_L2, s_L3, s_L4, s_L5, s_L6, s_L7, s_L8, s_L9, s_L10, s_X0, s_X1, s_X2, s_X3, s_X4, s_2_4, s_2_5, s_2_6, s_2_7, s_2_8, s_2_9, s_2_10, s_3_1, s_3_2, s_3_3, s_3_4, s_3_5, s_4]
      rw [show (i : Int) = nd x from by omega]
    | succ k ih =>
      intro g i h1 h2 h3 h4
      obtain ⟨g, rfl⟩ : ∃ m, g = m + 1 := ⟨g - 1, by omega⟩
      have m1 := p10_m (a := i) (b := (nd x).toNat - 1) (by omega)
      have m2 := p10_m (a := i + 1) (b := 9) (by omega)
      rw [show p10 9 = 1000000000 from rfl] at m2
      have p1 := p10_1 i
      have r := ih g (i + 1) (by omega) (by omega) (by omega) (by omega)
      rw [p10_s] at r m2
      rw [nc1] at r
      have e : 10 * -p10 i = -(10 * p10 i) := by omega
      rw [f_J6_stringSize_0f7a4_b16]
      simp only [to_bz, to_nz, to_cz, to_iz]
      simp (disch := omega) only [e, bz_t, nz_t, cz_T, cz_t, iz_T, iz_F, iz_y, iz_n, not_true_eq_false, not_false_eq_true, true_and, and_true, w32_e, w64_e, mset_e, mset_n, up_e, up_n, if_y, if_n, Int.add_zero, mk_1_m2, mk_1_0, mk_1_1, mk_1_2, mk_1_3, mk_1_4, mk_1_5, mk_1_6, mk_2_m2, mk_2_0, mk_2_1, mk_2_2, mk_2_3, mk_2_4, mk_2_5, mk_2_6, mk_2_7, mk_2_8, mk_2_9, mk_2_10, mk_3_m2, mk_3_0, mk_3_1, mk_3_2, mk_3_3, mk_3_4, mk_3_5, mk_4_m2, mk_4_m1, mk_5_m2, mk_5_m1, mk_11_m2, mk_11_m1, mk_42_m2, mk_42_m1, mk_73_m2, mk_73_0, mk_73_1, mk_73_2, mk_74_m2, mk_74_m1, mk_572_m2, mk_572_m1, mk_715_m2, mk_715_m1, mk_717_m2, mk_717_m1, mk_718_m2, mk_718_m1, mk_716_m2, mk_716_0, mk_716_1, mk_716_2, mk_716_3, mk_716_4, mk_719_m2, mk_74_at, mk_572_at, mk_715_at, mk_717_at, mk_718_at, mk_4_at, mk_5_at, mk_11_at, mk_42_at, mk_O_k, mk_O_0, mk_O_1, mk_O_2, mk_O_3, mk_L_k, mk_L_0, mk_L_1, mk_L_2, mk_L_3, mk_L_4, mk_L_5, mk_L_6, mk_L_7, mk_L_8, mk_L_9, mk_L_10, mk_X_k, mk_X_0, mk_X_1, mk_X_2, mk_X_3, mk_X_4, mk_75_k, mk_573_k, r_1_6, r_73_1, r_73_2, r_716_1, r_716_2, r_716_3, r_715, r_717, r_718, s_O0, s_O1, s_O2, s_O3, s_L0, s_L1, s_L2, s_L3, s_L4, s_L5, s_L6, s_L7, s_L8, s_L9, s_L10, s_X0, s_X1, s_X2, s_X3, s_X4, s_2_4, s_2_5, s_2_6, s_2_7, s_2_8, s_2_9, s_2_10, s_3_1, s_3_2, s_3_3, s_3_4, s_3_5, s_4]
      exact r
  have l := L ((nd x).toNat - 1) N 1 rfl (by omega) (by omega) (by omega)
  rw [show -p10 1 = -10 from rfl, show ((1 : Nat) : Int) = 1 from rfl] at l
  unfold f_J6_stringSize_0f7a4
  simp only [to_bz, to_nz, to_cz, to_iz]
  simp (disch := omega) only [bz_t, nz_t, cz_T, cz_t, iz_T, iz_F, iz_y, iz_n, not_true_eq_false, not_false_eq_true, true_and, and_true, w32_e, w64_e, mset_e, mset_n, up_e, up_n, if_y, if_n, Int.add_zero, mk_1_m2, mk_1_0, mk_1_1, mk_1_2, mk_1_3, mk_1_4, mk_1_5, mk_1_6, mk_2_m2, mk_2_0, mk_2_1, mk_2_2, mk_2_3, mk_2_4, mk_2_5, mk_2_6, mk_2_7, mk_2_8, mk_2_9, mk_2_10, mk_3_m2, mk_3_0, mk_3_1, mk_3_2, mk_3_3, mk_3_4, mk_3_5, mk_4_m2, mk_4_m1, mk_5_m2, mk_5_m1, mk_11_m2, mk_11_m1, mk_42_m2, mk_42_m1, mk_73_m2, mk_73_0, mk_73_1, mk_73_2, mk_74_m2, mk_74_m1, mk_572_m2, mk_572_m1, mk_715_m2, mk_715_m1, mk_717_m2, mk_717_m1, mk_718_m2, mk_718_m1, mk_716_m2, mk_716_0, mk_716_1, mk_716_2, mk_716_3, mk_716_4, mk_719_m2, mk_74_at, mk_572_at, mk_715_at, mk_717_at, mk_718_at, mk_4_at, mk_5_at, mk_11_at, mk_42_at, mk_O_k, mk_O_0, mk_O_1, mk_O_2, mk_O_3, mk_L_k, mk_L_0, mk_L_1, mk_L_2, mk_L_3, mk_L_4, mk_L_5, mk_L_6, mk_L_7, mk_L_8, mk_L_9, mk_L_10, mk_X_k, mk_X_0, mk_X_1, mk_X_2, mk_X_3, mk_X_4, mk_75_k, mk_573_k, r_1_6, r_73_1, r_73_2, r_716_1, r_716_2, r_716_3, r_715, r_717, r_718, s_O0, s_O1, s_O2, s_O3, s_L0, s_L1, s_L2, s_L3, s_L4, s_L5, s_L6, s_L7, s_L8, s_L9, s_L10, s_X0, s_X1, s_X2, s_X3, s_X4, s_2_4, s_2_5, s_2_6, s_2_7, s_2_8, s_2_9, s_2_10, s_3_1, s_3_2, s_3_3, s_3_4, s_3_5, s_4]
  exact l
theorem Gd_h {e x : Int} {f : Int → Int} (h : 100 ≤ x ∧ x < 1000000000) (he : nd x ≤ e) : Gd (e - 2) (x / 100) (up (up f (e - 1) (48 + x % 100 % 10)) (e - 2) (48 + x % 100 / 10)) = Gd e x f := by
  have d := nd_h h
  have n1 := (nd_p (x := x / 100) (by omega)).2.2.1
  funext i
  unfold Gd
  by_cases q : e - nd x ≤ i ∧ i < e
  · rw [if_pos q]
    by_cases q1 : i = e - 1
    · rw [if_neg (by omega), up_n (by omega), q1, up_e, show e - 1 - (e - 1) = 0 from by omega]
      show _ = 48 + x / 1 % 10
      rw [Int.ediv_one]; omega
    · by_cases q2 : i = e - 2
      · rw [if_neg (by omega), q2, up_e, show e - 1 - (e - 2) = 1 from by omega]
        show _ = 48 + x / 10 % 10
        omega
      · rw [if_pos (by omega), show (e - 1 - i).toNat = (e - 2 - 1 - i).toNat + 2 from by omega, p10_s, p10_s, ← Int.mul_assoc, Int.ediv_ediv_of_nonneg (by omega)]; rfl
  · rw [if_neg q, if_neg (by omega), up_n (by omega), up_n (by omega)]
theorem l_gc (hN : 5000 ≤ N) {R : Int} (hR : R = 720 ∨ 721 ≤ R) : ∀ (k g : Nat) (x e : Int) (h : Int → Int), 0 ≤ x ∧ x < 1000000000 → x < p10 (2 * k) → 1 ≤ k → k < g → h (-2) = 21 → h (-1) ≤ 200 → nd x ≤ e ∧ e ≤ h (-1) →
    f_J6_getChars_ba4f3_b22 N g (-x) R e 0 (mk v c w (sa R h a)) = some (e - nd x, mk v c w (sa R (Gd e x h) a)) := by
  intro k
  induction k with
  | zero => intro g x e h h1 h2 h3; omega
  | succ k ih =>
    intro g x e h hx hp h3 h4 hk hl he
    obtain ⟨g, rfl⟩ : ∃ m, g = m + 1 := ⟨g - 1, by omega⟩
    have n9 := nd_9 hx
    have ra := fun (b : Mm) (j y : Int) => r_arr v c w (a := b) hR j y
    have kr := fun (b : Mm) (j : Int) => mk_arr v c w (a := b) hR j
    have ks := fun (g : Int → Int) => sa_e R g a
    have ss := fun (g : Int → Int) (j y : Int) => sa_set R g a j y
    rw [f_J6_getChars_ba4f3_b22]
    by_cases q : x < 100
    · have t := tab_e (b := x) (by omega)
      have e0 : - -x = x := by omega
      have e1 : e + -1 = e - 1 := by omega
      by_cases q2 : x < 10
      · have d : nd x = 1 := nd_u hx (d := 1) (by omega) (Or.inr rfl) q2
        have eg : Gd e x h = up h (e - 1) (48 + x % 10) := by
          funext i
          unfold Gd
          by_cases z : i = e - 1
          · rw [if_pos (by omega), z, up_e, show e - 1 - (e - 1) = 0 from by omega]
            show 48 + x / 1 % 10 = _
            rw [Int.ediv_one]
          · rw [if_neg (by omega), up_n z]
        rw [eg, d]
        unfold f_J6_getChars_ba4f3_b104
        simp only [to_bz, to_nz, to_cz, to_iz]
        simp (disch := omega) only [e0, e1, mk_neg, tab_1, tab_3, t.1, kr, ks, hk, ra, ss, bz_t, nz_t, cz_T, cz_t, iz_T, iz_F, iz_y, iz_n, not_true_eq_false, not_false_eq_true, true_and, and_true, w32_e, w64_e, mset_e, mset_n, up_e, up_n, if_y, if_n, Int.add_zero, mk_1_m2, mk_1_0, mk_1_1, mk_1_2, mk_1_3, mk_1_4, mk_1_5, mk_1_6, mk_2_m2, mk_2_0, mk_2_1, mk_2_2, mk_2_3, mk_2_4, mk_2_5, mk_2_6, mk_2_7, mk_2_8, mk_2_9, mk_2_10, mk_3_m2, mk_3_0, mk_3_1, mk_3_2, mk_3_3, mk_3_4, mk_3_5, mk_4_m2, mk_4_m1, mk_5_m2, mk_5_m1, mk_11_m2, mk_11_m1, mk_42_m2, mk_42_m1, mk_73_m2, mk_73_0, mk_73_1, mk_73_2, mk_74_m2, mk_74_m1, mk_572_m2, mk_572_m1, mk_715_m2, mk_715_m1, mk_717_m2, mk_717_m1, mk_718_m2, mk_718_m1, mk_716_m2, mk_716_0, mk_716_1, mk_716_2, mk_716_3, mk_716_4, mk_719_m2, mk_74_at, mk_572_at, mk_715_at, mk_717_at, mk_718_at, mk_4_at, mk_5_at, mk_11_at, mk_42_at, mk_O_k, mk_O_0, mk_O_1, mk_O_2, mk_O_3, mk_L_k, mk_L_0, mk_L_1, mk_L_2, mk_L_3, mk_L_4, mk_L_5, mk_L_6, mk_L_7, mk_L_8, mk_L_9, mk_L_10, mk_X_k, mk_X_0, mk_X_1, mk_X_2, mk_X_3, mk_X_4, mk_75_k, mk_573_k, r_1_6, r_73_1, r_73_2, r_716_1, r_716_2, r_716_3, r_715, r_717, r_718, s_O0, s_O1, s_O2, s_O3, s_L0, s_L1, s_L2, s_L3, s_L4, s_L5, s_L6, s_L7, s_L8, s_L9, s_L10, s_X0, s_X1, s_X2, s_X3, s_X4, s_2_4, s_2_5, s_2_6, s_2_7, s_2_8, s_2_9, s_2_10, s_3_1, s_3_2, s_3_3, s_3_4, s_3_5, s_4]
      · have d : nd x = 2 := nd_u hx (d := 2) (by omega) (Or.inl (by show (10 : Int) * 1 ≤ x; omega)) (by show x < 10 * (10 * 1); omega)
        have eg : Gd e x h = up (up h (e - 1) (48 + x % 10)) (e - 2) (48 + x / 10) := by
          funext i
          unfold Gd
          by_cases z : i = e - 1
          · rw [if_pos (by omega), z, up_n (by omega), up_e, show e - 1 - (e - 1) = 0 from by omega]
            show 48 + x / 1 % 10 = _
            rw [Int.ediv_one]
          · by_cases z2 : i = e - 2
            · rw [if_pos (by omega), z2, up_e, show e - 1 - (e - 2) = 1 from by omega]
              show 48 + x / 10 % 10 = _
              omega
            · rw [if_neg (by omega), up_n z2, up_n z]
        have e2 : e - 1 + -1 = e - 2 := by omega
        rw [eg, d]
        unfold f_J6_getChars_ba4f3_b104
        simp only [to_bz, to_nz, to_cz, to_iz]
        simp (disch := omega) only [e0, e1, e2, mk_neg, tab_1, tab_2, tab_3, tab_4, t.1, t.2, kr, ks, hk, ra, ss, bz_t, nz_t, cz_T, cz_t, iz_T, iz_F, iz_y, iz_n, not_true_eq_false, not_false_eq_true, true_and, and_true, w32_e, w64_e, mset_e, mset_n, up_e, up_n, if_y, if_n, Int.add_zero, mk_1_m2, mk_1_0, mk_1_1, mk_1_2, mk_1_3, mk_1_4, mk_1_5, mk_1_6, mk_2_m2, mk_2_0, mk_2_1, mk_2_2, mk_2_3, mk_2_4, mk_2_5, mk_2_6, mk_2_7, mk_2_8, mk_2_9, mk_2_10, mk_3_m2, mk_3_0, mk_3_1, mk_3_2, mk_3_3, mk_3_4, mk_3_5, mk_4_m2, mk_4_m1, mk_5_m2, mk_5_m1, mk_11_m2, mk_11_m1, mk_42_m2, mk_42_m1, mk_73_m2, mk_73_0, mk_73_1, mk_73_2, mk_74_m2, mk_74_m1, mk_572_m2, mk_572_m1, mk_715_m2, mk_715_m1, mk_717_m2, mk_717_m1, mk_718_m2, mk_718_m1, mk_716_m2, mk_716_0, mk_716_1, mk_716_2, mk_716_3, mk_716_4, mk_719_m2, mk_74_at, mk_572_at, mk_715_at, mk_717_at, mk_718_at, mk_4_at, mk_5_at, mk_11_at, mk_42_at, mk_O_k, mk_O_0, mk_O_1, mk_O_2, mk_O_3, mk_L_k, mk_L_0, mk_L_1, mk_L_2, mk_L_3, mk_L_4, mk_L_5, mk_L_6, mk_L_7, mk_L_8, mk_L_9, mk_L_10, mk_X_k, mk_X_0, mk_X_1, mk_X_2, mk_X_3, mk_X_4, mk_75_k, mk_573_k, r_1_6, r_73_1, r_73_2, r_716_1, r_716_2, r_716_3, r_715, r_717, r_718, s_O0, s_O1, s_O2, s_O3, s_L0, s_L1, s_L2, s_L3, s_L4, s_L5, s_L6, s_L7, s_L8, s_L9, s_L10, s_X0, s_X1, s_X2, s_X3, s_X4, s_2_4, s_2_5, s_2_6, s_2_7, s_2_8, s_2_9, s_2_10, s_3_1, s_3_2, s_3_3, s_3_4, s_3_5, s_4]
    · have t := tab_e (b := x % 100) (by omega)
      have e1 : e + -1 = e - 1 := by omega
      have e2 : e - 1 + -1 = e - 2 := by omega
      have e3 : Int.tdiv (-x) 100 = -(x / 100) := by rw [Int.neg_tdiv, Int.tdiv_eq_ediv_of_nonneg hx.1]
      have e4 : -(x / 100) * 100 - -x = x % 100 := by omega
      have dh := nd_h (x := x) (by omega)
      have n1 := (nd_p (x := x / 100) (by omega)).2.2.1
      have k1 : 1 ≤ k := by
        by_cases z : k = 0
        · subst z
          have : p10 (2 * (0 + 1)) = 100 := rfl
          omega
        · omega
      have r := ih g (x / 100) (e - 2) (up (up h (e - 1) (48 + x % 100 % 10)) (e - 2) (48 + x % 100 / 10)) (by omega) (by
        rw [show 2 * (k + 1) = 2 * k + 2 from by omega, p10_s, p10_s] at hp; omega) k1 (by omega) (by rw [up_n (by omega), up_n (by omega)]; exact hk) (by rw [up_n (by omega), up_n (by omega)]; exact hl) (by rw [up_n (by omega), up_n (by omega)]; omega)
      rw [Gd_h (by omega) he.1, show e - 2 - nd (x / 100) = e - nd x from by omega] at r
      simp only [to_bz, to_nz, to_cz, to_iz]
      simp (disch := omega) only [e1, e2, e3, e4, mk_neg, tab_1, tab_2, tab_3, tab_4, t.1, t.2, kr, ks, hk, ra, ss, bz_t, nz_t, cz_T, cz_t, iz_T, iz_F, iz_y, iz_n, not_true_eq_false, not_false_eq_true, true_and, and_true, w32_e, w64_e, mset_e, mset_n, up_e, up_n, if_y, if_n, Int.add_zero, mk_1_m2, mk_1_0, mk_1_1, mk_1_2, mk_1_3, mk_1_4, mk_1_5, mk_1_6, mk_2_m2, mk_2_0, mk_2_1, mk_2_2, mk_2_3, mk_2_4, mk_2_5, mk_2_6, mk_2_7, mk_2_8, mk_2_9, mk_2_10, mk_3_m2, mk_3_0, mk_3_1, mk_3_2, mk_3_3, mk_3_4, mk_3_5, mk_4_m2, mk_4_m1, mk_5_m2, mk_5_m1, mk_11_m2, mk_11_m1, mk_42_m2, mk_42_m1, mk_73_m2, mk_73_0, mk_73_1, mk_73_2, mk_74_m2, mk_74_m1, mk_572_m2, mk_572_m1, mk_715_m2, mk_715_m1, mk_717_m2, mk_717_m1, mk_718_m2, mk_718_m1, mk_716_m2, mk_716_0, mk_716_1, mk_716_2, mk_716_3, mk_716_4, mk_719_m2, mk_74_at, mk_572_at, mk_715_at, mk_717_at, mk_718_at, mk_4_at, mk_5_at, mk_11_at, mk_42_at, mk_O_k, mk_O_0, mk_O_1, mk_O_2, mk_O_3, mk_L_k, mk_L_0, mk_L_1, mk_L_2, mk_L_3, mk_L_4, mk_L_5, mk_L_6, mk_L_7, mk_L_8, mk_L_9, mk_L_10, mk_X_k, mk_X_0, mk_X_1, mk_X_2, mk_X_3, mk_X_4, mk_75_k, mk_573_k, r_1_6, r_73_1, r_73_2, r_716_1, r_716_2, r_716_3, r_715, r_717, r_718, s_O0, s_O1, s_O2, s_O3, s_L0, s_L1, s_L2, s_L3, s_L4, s_L5, s_L6, s_L7, s_L8, s_L9, s_L10, s_X0, s_X1, s_X2, s_X3, s_X4, s_2_4, s_2_5, s_2_6, s_2_7, s_2_8, s_2_9, s_2_10, s_3_1, s_3_2, s_3_3, s_3_4, s_3_5, s_4]
      exact r
theorem x_num (hN : 5000 ≤ N) (h : xC a0 f n a) (hn : 0 ≤ n ∧ n ≤ a (a 719 0) (-1)) {x : Int} (hx : 0 ≤ x ∧ x < 1000000000) (hs : n + nd x ≤ 40) : ∃ a', f_J4_append_bf812 N 719 x (mk v c w a) = some (719, mk v c w a') ∧ xC a0 (Gd (n + nd x) x f) (n + nd x) a' ∧ n + nd x ≤ a' (a' 719 0) (-1) := by
  have h7 := h.2.1
  have n9 := nd_9 hx
  have sz := x_size N hN hx (mk v c w a)
  obtain ⟨A, e1, e2, e3, e4⟩ := x_ens N v c w (s := n + nd x) h (by omega) (by omega)
  obtain ⟨⟨g1, g2, g3, g4, g5, g6⟩, g7, g8, g9⟩ := e2
  generalize hR : A 719 0 = R at *
  generalize hC : A R (-1) = C at *
  have gc := l_gc N v c w (a := A) hN g1 5 N x (n + nd x) (A R) hx (by have : p10 (2 * 5) = 10000000000 := rfl; omega) (by omega) (by omega) g4 (by omega) (by omega)
  rw [show n + nd x - nd x = n from by omega, show sa R (A R) A = A from sa_id R A] at gc
  have sn : ∀ r k, r ≠ R → sa R (Gd (n + nd x) x (A R)) A r k = A r k := fun r k q => by rw [sa_n q]
  have se : ∀ k, sa R (Gd (n + nd x) x (A R)) A R k = Gd (n + nd x) x (A R) k := fun k => by rw [sa_e]
  have gm : ∀ k, k < 0 → Gd (n + nd x) x (A R) k = A R k := fun k q => by unfold Gd; rw [if_neg (by omega)]
  refine ⟨mset (sa R (Gd (n + nd x) x (A R)) A) 719 3 (n + nd x), ?_, ⟨⟨?_, ?_, ?_, ?_, ?_, ?_⟩, ?_, fun i hi => ?_, fun r k q1 q2 q3 q4 => ?_⟩, ?_⟩
  · unfold f_J4_append_bf812 f_J5_append_c97b9 f_J5_isLatin1_aae02 f_J6_getChars_ba4f3 f_J6_getChars_ba4f3_b12
    simp only [to_bz, to_nz, to_cz, to_iz]
    simp (disch := omega) only [sz, h7, e1, hR, g6, g7, gc, Int.reduceEq, mk_719_at, mk_00, r_719, bz_t, nz_t, cz_T, cz_t, iz_T, iz_F, iz_y, iz_n, not_true_eq_false, not_false_eq_true, true_and, and_true, w32_e, w64_e, mset_e, mset_n, up_e, up_n, if_y, if_n, Int.add_zero, mk_1_m2, mk_1_0, mk_1_1, mk_1_2, mk_1_3, mk_1_4, mk_1_5, mk_1_6, mk_2_m2, mk_2_0, mk_2_1, mk_2_2, mk_2_3, mk_2_4, mk_2_5, mk_2_6, mk_2_7, mk_2_8, mk_2_9, mk_2_10, mk_3_m2, mk_3_0, mk_3_1, mk_3_2, mk_3_3, mk_3_4, mk_3_5, mk_4_m2, mk_4_m1, mk_5_m2, mk_5_m1, mk_11_m2, mk_11_m1, mk_42_m2, mk_42_m1, mk_73_m2, mk_73_0, mk_73_1, mk_73_2, mk_74_m2, mk_74_m1, mk_572_m2, mk_572_m1, mk_715_m2, mk_715_m1, mk_717_m2, mk_717_m1, mk_718_m2, mk_718_m1, mk_716_m2, mk_716_0, mk_716_1, mk_716_2, mk_716_3, mk_716_4, mk_719_m2, mk_74_at, mk_572_at, mk_715_at, mk_717_at, mk_718_at, mk_4_at, mk_5_at, mk_11_at, mk_42_at, mk_O_k, mk_O_0, mk_O_1, mk_O_2, mk_O_3, mk_L_k, mk_L_0, mk_L_1, mk_L_2, mk_L_3, mk_L_4, mk_L_5, mk_L_6, mk_L_7, mk_L_8, mk_L_9, mk_L_10, mk_X_k, mk_X_0, mk_X_1, mk_X_2, mk_X_3, mk_X_4, mk_75_k, mk_573_k, r_1_6, r_73_1, r_73_2, r_716_1, r_716_2, r_716_3, r_715, r_717, r_718, s_O0, s_O1, s_O2, s_O3, s_L0, s_L1, s_L2, s_L3, s_L4, s_L5, s_L6, s_L7, s_L8, s_L9, s_L10, s_X0, s_X1, s_X2, s_X3, s_X4, s_2_4, s_2_5, s_2_6, s_2_7, s_2_8, s_2_9, s_2_10, s_3_1, s_3_2, s_3_3, s_3_4, s_3_5, s_4]
  · rw [mset_n (by omega), sn _ _ (by omega), hR]; exact g1
  · rw [mset_n (by omega), mset_n (by omega), sn _ _ (by omega), sn _ _ (by omega), hR]; exact g2
  · rw [mset_n (by omega), sn _ _ (by omega)]; exact g3
  · rw [mset_n (a := sa R (Gd (n + nd x) x (A R)) A) (r := 719) (k := 3) (r' := 719) (k' := 0) (by omega), sn 719 0 (by omega), hR, mset_n (by omega), se, gm _ (by omega)]; exact g4
  · rw [mset_n (a := sa R (Gd (n + nd x) x (A R)) A) (r := 719) (k := 3) (r' := 719) (k' := 0) (by omega), sn 719 0 (by omega), hR, mset_n (by omega), se, gm _ (by omega), hC]; exact g5
  · rw [mset_n (by omega), sn _ _ (by omega)]; exact g6
  · rw [mset_e]
  · rw [mset_n (a := sa R (Gd (n + nd x) x (A R)) A) (r := 719) (k := 3) (r' := 719) (k' := 0) (by omega), sn 719 0 (by omega), hR, mset_n (by omega), se]
    unfold Gd
    by_cases z : n + nd x - nd x ≤ i ∧ i < n + nd x
    · rw [if_pos z, if_pos z]
    · rw [if_neg z, if_neg z]; exact g8 i (by omega)
  · rw [mset_n (by omega), sn _ _ (by omega)]; exact g9 r k q1 q2 q3 q4
  · rw [mset_n (a := sa R (Gd (n + nd x) x (A R)) A) (r := 719) (k := 3) (r' := 719) (k' := 0) (by omega), sn 719 0 (by omega), hR, mset_n (by omega), se, gm _ (by omega), hC]; exact e3
theorem x_len0 (h : zB a) (hc : 0 ≤ a 719 3) (f : Int → Int) : ∃ a', f_J4_setLength_d00df N 719 0 (mk v c w a) = some (0, mk v c w a') ∧ xC a f 0 a' ∧ 0 ≤ a' (a' 719 0) (-1) := by
  obtain ⟨g1, g2, g3, g4, g5, g6⟩ := h
  have k1 : mk v c w a (a 719 0) (-2) = 21 := (mk_arr v c w g1 _).trans g4
  have k2 : mk v c w a (a 719 0) (-1) = a (a 719 0) (-1) := mk_arr v c w g1 _
  have sh := shr_e (b := a (a 719 0) (-1)) (by omega)
  by_cases z : 0 < a 719 3
  · refine ⟨mset (mset a 719 2 1) 719 3 0, ?_, ⟨⟨?_, ?_, ?_, ?_, ?_, ?_⟩, mset_e _ _ _ _, fun i hi => by omega, fun r k q1 q2 q3 q4 => by rw [mset_n (by omega), mset_n (by omega)]⟩, ?_⟩
    · unfold f_J4_setLength_d00df f_J5_setLength_d00df f_J5_ensureCapacityInternal_d00df
      simp only [to_bz, to_nz, to_cz, to_iz]
      simp (disch := omega) only [k1, k2, g6, sh, mk_719_at, mk_00, r_719, bz_t, nz_t, cz_T, cz_t, iz_T, iz_F, iz_y, iz_n, not_true_eq_false, not_false_eq_true, true_and, and_true, w32_e, w64_e, mset_e, mset_n, up_e, up_n, if_y, if_n, Int.add_zero, mk_1_m2, mk_1_0, mk_1_1, mk_1_2, mk_1_3, mk_1_4, mk_1_5, mk_1_6, mk_2_m2, mk_2_0, mk_2_1, mk_2_2, mk_2_3, mk_2_4, mk_2_5, mk_2_6, mk_2_7, mk_2_8, mk_2_9, mk_2_10, mk_3_m2, mk_3_0, mk_3_1, mk_3_2, mk_3_3, mk_3_4, mk_3_5, mk_4_m2, mk_4_m1, mk_5_m2, mk_5_m1, mk_11_m2, mk_11_m1, mk_42_m2, mk_42_m1, mk_73_m2, mk_73_0, mk_73_1, mk_73_2, mk_74_m2, mk_74_m1, mk_572_m2, mk_572_m1, mk_715_m2, mk_715_m1, mk_717_m2, mk_717_m1, mk_718_m2, mk_718_m1, mk_716_m2, mk_716_0, mk_716_1, mk_716_2, mk_716_3, mk_716_4, mk_719_m2, mk_74_at, mk_572_at, mk_715_at, mk_717_at, mk_718_at, mk_4_at, mk_5_at, mk_11_at, mk_42_at, mk_O_k, mk_O_0, mk_O_1, mk_O_2, mk_O_3, mk_L_k, mk_L_0, mk_L_1, mk_L_2, mk_L_3, mk_L_4, mk_L_5, mk_L_6, mk_L_7, mk_L_8, mk_L_9, mk_L_10, mk_X_k, mk_X_0, mk_X_1, mk_X_2, mk_X_3, mk_X_4, mk_75_k, mk_573_k, r_1_6, r_73_1, r_73_2, r_716_1, r_716_2, r_716_3, r_715, r_717, r_718, s_O0, s_O1, s_O2, s_O3, s_L0, s_L1, s_L2, s_L3, s_L4, s_L5, s_L6, s_L7, s_L8, s_L9, s_L10, s_X0, s_X1, s_X2, s_X3, s_X4, s_2_4, s_2_5, s_2_6, s_2_7, s_2_8, s_2_9, s_2_10, s_3_1, s_3_2, s_3_3, s_3_4, s_3_5, s_4]
    · rw [mset_n (by omega), mset_n (by omega)]; exact g1
    · rw [mset_n (by omega), mset_n (by omega), mset_n (by omega), mset_n (by omega)]; exact g2
    · rw [mset_n (by omega), mset_n (by omega)]; exact g3
    · rw [mset_n (a := mset a 719 2 1) (r := 719) (k := 3) (r' := 719) (k' := 0) (by omega), mset_n (a := a) (r := 719) (k := 2) (r' := 719) (k' := 0) (by omega), mset_n (by omega), mset_n (by omega)]; exact g4
    · rw [mset_n (a := mset a 719 2 1) (r := 719) (k := 3) (r' := 719) (k' := 0) (by omega), mset_n (a := a) (r := 719) (k := 2) (r' := 719) (k' := 0) (by omega), mset_n (by omega), mset_n (by omega)]; exact g5
    · rw [mset_n (by omega), mset_n (by omega)]; exact g6
    · rw [mset_n (a := mset a 719 2 1) (r := 719) (k := 3) (r' := 719) (k' := 0) (by omega), mset_n (a := a) (r := 719) (k := 2) (r' := 719) (k' := 0) (by omega), mset_n (by omega), mset_n (by omega)]; omega
  · refine ⟨mset a 719 3 0, ?_, ⟨⟨?_, ?_, ?_, ?_, ?_, ?_⟩, mset_e _ _ _ _, fun i hi => by omega, fun r k q1 q2 q3 q4 => mset_n (by omega)⟩, ?_⟩
    · unfold f_J4_setLength_d00df f_J5_setLength_d00df f_J5_ensureCapacityInternal_d00df
      simp only [to_bz, to_nz, to_cz, to_iz]
      simp (disch := omega) only [k1, k2, g6, sh, mk_719_at, mk_00, r_719, bz_t, nz_t, cz_T, cz_t, iz_T, iz_F, iz_y, iz_n, not_true_eq_false, not_false_eq_true, true_and, and_true, w32_e, w64_e, mset_e, mset_n, up_e, up_n, if_y, if_n, Int.add_zero, mk_1_m2, mk_1_0, mk_1_1, mk_1_2, mk_1_3, mk_1_4, mk_1_5, mk_1_6, mk_2_m2, mk_2_0, mk_2_1, mk_2_2, mk_2_3, mk_2_4, mk_2_5, mk_2_6, mk_2_7, mk_2_8, mk_2_9, mk_2_10, mk_3_m2, mk_3_0, mk_3_1, mk_3_2, mk_3_3, mk_3_4, mk_3_5, mk_4_m2, mk_4_m1, mk_5_m2, mk_5_m1, mk_11_m2, mk_11_m1, mk_42_m2, mk_42_m1, mk_73_m2, mk_73_0, mk_73_1, mk_73_2, mk_74_m2, mk_74_m1, mk_572_m2, mk_572_m1, mk_715_m2, mk_715_m1, mk_717_m2, mk_717_m1, mk_718_m2, mk_718_m1, mk_716_m2, mk_716_0, mk_716_1, mk_716_2, mk_716_3, mk_716_4, mk_719_m2, mk_74_at, mk_572_at, mk_715_at, mk_717_at, mk_718_at, mk_4_at, mk_5_at, mk_11_at, mk_42_at, mk_O_k, mk_O_0, mk_O_1, mk_O_2, mk_O_3, mk_L_k, mk_L_0, mk_L_1, mk_L_2, mk_L_3, mk_L_4, mk_L_5, mk_L_6, mk_L_7, mk_L_8, mk_L_9, mk_L_10, mk_X_k, mk_X_0, mk_X_1, mk_X_2, mk_X_3, mk_X_4, mk_75_k, mk_573_k, r_1_6, r_73_1, r_73_2, r_716_1, r_716_2, r_716_3, r_715, r_717, r_718, s_O0, s_O1, s_O2, s_O3, s_L0, s_L1, s_L2, s_L3, s_L4, s_L5, s_L6, s_L7, s_L8, s_L9, s_L10, s_X0, s_X1, s_X2, s_X3, s_X4, s_2_4, s_2_5, s_2_6, s_2_7, s_2_8, s_2_9, s_2_10, s_3_1, s_3_2, s_3_3, s_3_4, s_3_5, s_4]
    · rw [mset_n (by omega)]; exact g1
    · rw [mset_n (by omega), mset_n (by omega)]; exact g2
    · rw [mset_n (by omega)]; exact g3
    · rw [mset_n (a := a) (r := 719) (k := 3) (r' := 719) (k' := 0) (by omega), mset_n (by omega)]; exact g4
    · rw [mset_n (a := a) (r := 719) (k := 3) (r' := 719) (k' := 0) (by omega), mset_n (by omega)]; exact g5
    · rw [mset_n (by omega)]; exact g6
    · rw [mset_n (a := a) (r := 719) (k := 3) (r' := 719) (k' := 0) (by omega), mset_n (by omega)]; omega
end NUMB
