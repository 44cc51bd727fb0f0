/-! the greatest value: halving steps, and a search between two bounds -/
def pw : Nat → Int
  | 0 => 1
  | k + 1 => 2 * pw k
def p2 : Nat → Int
  | 0 => 0
  | k + 1 => pw k
def gvP (w : Int → Int) (o kd u x : Int) : Prop := x ≤ 10000000 ∧ (u + x * w (14 + kd) / 1000) * w 7 / 100 ≤ w (20 + 4 * o + 1)
theorem pw_1 (k : Nat) : 1 ≤ pw k := by
  induction k with
  | zero => exact Int.le_refl 1
  | succ k ih => show 1 ≤ 2 * pw k; omega
theorem pw_f : ∀ k : Fin 25, pw k.val ≤ 16777216 := by decide +kernel
theorem pw_24 {k : Nat} (h : k ≤ 24) : pw k ≤ 16777216 := pw_f ⟨k, by omega⟩
theorem sh_f : ∀ k : Fin 24, o_shr (p2 (k.val + 1)) 1 = p2 k.val := by decide +kernel
theorem sh_p {k : Nat} (h : k < 24) : o_shr (pw k) 1 = p2 k := sh_f ⟨k, h⟩
section GREAT
variable {N : Nat} {c : Int → Int → Int} {a : Mm} {w : Int → Int} {K : Int}
theorem gv_m (I : IA K w) {o kd u x y : Int} (hk : 0 ≤ kd ∧ kd < 6) (hu : 0 ≤ u) (h : 0 ≤ x ∧ x ≤ y) (P : gvP w o kd u y) : gvP w o kd u x := by
  have g := I.hd; unfold HEAD at g
  have r := I.rt hk
  have a1 : x * w (14 + kd) ≤ y * w (14 + kd) := Int.mul_le_mul_of_nonneg_right h.2 r.1
  have a2 : (u + x * w (14 + kd) / 1000) * w 7 ≤ (u + y * w (14 + kd) / 1000) * w 7 := Int.mul_le_mul_of_nonneg_right (by omega) (by omega)
  exact ⟨by have := P.1; omega, Int.le_trans (by omega) P.2⟩
theorem gv_u (I : IA K w) {o kd u x y : Int} (hk : 0 ≤ kd ∧ kd < 6) (hu : 0 ≤ u) (hx : 0 ≤ x) (hy : 0 ≤ y) (P1 : gvP w o kd u x) (P2 : ¬ gvP w o kd u (x + 1)) (Q1 : gvP w o kd u y) (Q2 : ¬ gvP w o kd u (y + 1)) : x = y := by
  by_cases h1 : x < y
  · exact absurd (gv_m I hk hu (by omega) Q1) P2
  · by_cases h2 : y < x
    · exact absurd (gv_m I hk hu (by omega) P1) Q2
    · omega
theorem l_gvX (v : Int → Int) (I : IA K w) {o kd u : Int} (ho : 0 ≤ o ∧ o < 5) (hk : 0 ≤ kd ∧ kd < 6) (hu : 0 ≤ u ∧ u ≤ 300000000) : ∀ k : Nat, k ≤ 24 → ∀ (n : Nat) (g : Int), k < n → 0 ≤ g → gvP w o kd u g → ¬ gvP w o kd u (g + pw k) →
    ∃ r, f_X7_greatestValue_b65 N n 1 kd (6 + o) u g (p2 k) (mk w c v a) = some (r, mk w c v a) ∧ 0 ≤ r ∧ gvP w o kd u r ∧ ¬ gvP w o kd u (r + 1) := by
  have ow := I.own ho; unfold OWN at ow
  have hd := I.hd; unfold HEAD at hd
  have rt := I.rt hk
  intro k
  induction k with
  | zero =>
    intro _ n g hn hg P Q
    obtain ⟨n, rfl⟩ : ∃ m, n = m + 1 := ⟨n - 1, by omega⟩
    refine ⟨g, ?_, hg, P, Q⟩
    rw [f_X7_greatestValue_b65]
    show (if (0 : Int) ≤ 0 then _ else _) = _
    rw [if_pos (by omega)]
  | succ k ih =>
    intro hk24 n g hn hg P Q
    obtain ⟨n, rfl⟩ : ∃ m, n = m + 1 := ⟨n - 1, by omega⟩
    have p1 := pw_1 k
    have p24 := pw_24 (k := k) (by omega)
    have sh := sh_p (k := k) (by omega)
    have ge : g ≤ 10000000 := P.1
    rw [f_X7_greatestValue_b65]
    rw [show p2 (k + 1) = pw k from rfl]
    rw [show pw (k + 1) = 2 * pw k from rfl] at Q
    generalize pw k = s at *
    by_cases q1 : 10000000 < g + s
    · obtain ⟨r, r1, r2⟩ := ih (by omega) n g (by omega) hg P (fun z => by have := z.1; omega)
      refine ⟨r, ?_, r2⟩
      simp only [to_bz, to_nz, to_cz, to_iz]
      simp (disch := omega) only [sh, bz_t, nz_t, cz_T, cz_t, iz_T, iz_F, iz_y, iz_n, not_true_eq_false, not_false_eq_true, true_and, and_true, w32_e, w64_e, mset_e, mset_n, up_e, up_n, if_y, if_n, Int.add_zero, mk_1_m2, mk_1_0, mk_1_1, mk_1_2, mk_1_3, mk_1_4, mk_1_5, mk_1_6, mk_2_m2, mk_2_0, mk_2_1, mk_2_2, mk_2_3, mk_2_4, mk_2_5, mk_2_6, mk_2_7, mk_2_8, mk_2_9, mk_2_10, mk_3_m2, mk_3_0, mk_3_1, mk_3_2, mk_3_3, mk_3_4, mk_3_5, mk_4_m2, mk_4_m1, mk_5_m2, mk_5_m1, mk_11_m2, mk_11_m1, mk_42_m2, mk_42_m1, mk_73_m2, mk_73_0, mk_73_1, mk_73_2, mk_74_m2, mk_74_m1, mk_572_m2, mk_572_m1, mk_715_m2, mk_715_m1, mk_717_m2, mk_717_m1, mk_718_m2, mk_718_m1, mk_716_m2, mk_716_0, mk_716_1, mk_716_2, mk_716_3, mk_716_4, mk_719_m2, mk_74_at, mk_572_at, mk_715_at, mk_717_at, mk_718_at, mk_4_at, mk_5_at, mk_11_at, mk_42_at, mk_O_k, mk_O_0, mk_O_1, mk_O_2, mk_O_3, mk_L_k, mk_L_0, mk_L_1, mk_L_2, mk_L_3, mk_L_4, mk_L_5, mk_L_6, mk_L_7, mk_L_8, mk_L_9, mk_L_10, mk_X_k, mk_X_0, mk_X_1, mk_X_2, mk_X_3, mk_X_4, mk_75_k, mk_573_k, r_1_6, r_73_1, r_73_2, r_716_1, r_716_2, r_716_3, r_715, r_717, r_718, s_O0, s_O1, s_O2, s_O3, s_L0, s_L1, s_L2, s_L3, s_L4, s_L5, s_L6, s_L7, s_L8, s_L9, s_L10, s_X0, s_X1, s_X2, s_X3, s_X4, s_2_4, s_2_5, s_2_6, s_2_7, s_2_8, s_2_9, s_2_10, s_3_1, s_3_2, s_3_3, s_3_4, s_3_5, s_4]
      exact r1
    · have p := mul_le (show 0 ≤ g + s ∧ g + s ≤ 10000000 by omega) rt
      have d1 := eq_bd (a_dutyOf N c v a I (kd := kd) (x := g + s) hk (by omega))
      have c1 := eq_bd (a_covers N c v a I (u := u + (g + s) * w (14 + kd) / 1000) (g := w (20 + 4 * o + 1)) (by omega) (by omega))
      by_cases q2 : (u + (g + s) * w (14 + kd) / 1000) * w 7 / 100 ≤ w (20 + 4 * o + 1)
      · obtain ⟨r, r1, r2⟩ := ih (by omega) n (g + s) (by omega) (by omega) ⟨by omega, q2⟩ (fun z => Q (by rw [show g + 2 * s = g + s + s from by omega]; exact z))
        rw [if_pos q2] at c1
        refine ⟨r, ?_, r2⟩
        simp only [to_bz, to_nz, to_cz, to_iz]
        simp (disch := omega) only [sh, d1, c1, bz_t, nz_t, cz_T, cz_t, iz_T, iz_F, iz_y, iz_n, not_true_eq_false, not_false_eq_true, true_and, and_true, w32_e, w64_e, mset_e, mset_n, up_e, up_n, if_y, if_n, Int.add_zero, mk_1_m2, mk_1_0, mk_1_1, mk_1_2, mk_1_3, mk_1_4, mk_1_5, mk_1_6, mk_2_m2, mk_2_0, mk_2_1, mk_2_2, mk_2_3, mk_2_4, mk_2_5, mk_2_6, mk_2_7, mk_2_8, mk_2_9, mk_2_10, mk_3_m2, mk_3_0, mk_3_1, mk_3_2, mk_3_3, mk_3_4, mk_3_5, mk_4_m2, mk_4_m1, mk_5_m2, mk_5_m1, mk_11_m2, mk_11_m1, mk_42_m2, mk_42_m1, mk_73_m2, mk_73_0, mk_73_1, mk_73_2, mk_74_m2, mk_74_m1, mk_572_m2, mk_572_m1, mk_715_m2, mk_715_m1, mk_717_m2, mk_717_m1, mk_718_m2, mk_718_m1, mk_716_m2, mk_716_0, mk_716_1, mk_716_2, mk_716_3, mk_716_4, mk_719_m2, mk_74_at, mk_572_at, mk_715_at, mk_717_at, mk_718_at, mk_4_at, mk_5_at, mk_11_at, mk_42_at, mk_O_k, mk_O_0, mk_O_1, mk_O_2, mk_O_3, mk_L_k, mk_L_0, mk_L_1, mk_L_2, mk_L_3, mk_L_4, mk_L_5, mk_L_6, mk_L_7, mk_L_8, mk_L_9, mk_L_10, mk_X_k, mk_X_0, mk_X_1, mk_X_2, mk_X_3, mk_X_4, mk_75_k, mk_573_k, r_1_6, r_73_1, r_73_2, r_716_1, r_716_2, r_716_3, r_715, r_717, r_718, s_O0, s_O1, s_O2, s_O3, s_L0, s_L1, s_L2, s_L3, s_L4, s_L5, s_L6, s_L7, s_L8, s_L9, s_L10, s_X0, s_X1, s_X2, s_X3, s_X4, s_2_4, s_2_5, s_2_6, s_2_7, s_2_8, s_2_9, s_2_10, s_3_1, s_3_2, s_3_3, s_3_4, s_3_5, s_4]
        exact r1
      · obtain ⟨r, r1, r2⟩ := ih (by omega) n g (by omega) hg P (fun z => q2 z.2)
        rw [if_neg q2] at c1
        refine ⟨r, ?_, r2⟩
        simp only [to_bz, to_nz, to_cz, to_iz]
        simp (disch := omega) only [sh, d1, c1, bz_t, nz_t, cz_T, cz_t, iz_T, iz_F, iz_y, iz_n, not_true_eq_false, not_false_eq_true, true_and, and_true, w32_e, w64_e, mset_e, mset_n, up_e, up_n, if_y, if_n, Int.add_zero, mk_1_m2, mk_1_0, mk_1_1, mk_1_2, mk_1_3, mk_1_4, mk_1_5, mk_1_6, mk_2_m2, mk_2_0, mk_2_1, mk_2_2, mk_2_3, mk_2_4, mk_2_5, mk_2_6, mk_2_7, mk_2_8, mk_2_9, mk_2_10, mk_3_m2, mk_3_0, mk_3_1, mk_3_2, mk_3_3, mk_3_4, mk_3_5, mk_4_m2, mk_4_m1, mk_5_m2, mk_5_m1, mk_11_m2, mk_11_m1, mk_42_m2, mk_42_m1, mk_73_m2, mk_73_0, mk_73_1, mk_73_2, mk_74_m2, mk_74_m1, mk_572_m2, mk_572_m1, mk_715_m2, mk_715_m1, mk_717_m2, mk_717_m1, mk_718_m2, mk_718_m1, mk_716_m2, mk_716_0, mk_716_1, mk_716_2, mk_716_3, mk_716_4, mk_719_m2, mk_74_at, mk_572_at, mk_715_at, mk_717_at, mk_718_at, mk_4_at, mk_5_at, mk_11_at, mk_42_at, mk_O_k, mk_O_0, mk_O_1, mk_O_2, mk_O_3, mk_L_k, mk_L_0, mk_L_1, mk_L_2, mk_L_3, mk_L_4, mk_L_5, mk_L_6, mk_L_7, mk_L_8, mk_L_9, mk_L_10, mk_X_k, mk_X_0, mk_X_1, mk_X_2, mk_X_3, mk_X_4, mk_75_k, mk_573_k, r_1_6, r_73_1, r_73_2, r_716_1, r_716_2, r_716_3, r_715, r_717, r_718, s_O0, s_O1, s_O2, s_O3, s_L0, s_L1, s_L2, s_L3, s_L4, s_L5, s_L6, s_L7, s_L8, s_L9, s_L10, s_X0, s_X1, s_X2, s_X3, s_X4, s_2_4, s_2_5, s_2_6, s_2_7, s_2_8, s_2_9, s_2_10, s_3_1, s_3_2, s_3_3, s_3_4, s_3_5, s_4]
        exact r1
end GREAT
