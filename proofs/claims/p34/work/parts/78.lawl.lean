/-! the law's loop -/
section LAWP
variable {N : Nat} {c : Int → Int → Int} (m : Int → Int) {a : Mm} {w : Int → Int} {K : Int} {sc : Int → Int} {sl : Int}
theorem q_cell {k : Int} (h : 0 ≤ k) (μ : Mm) : ∃ v, f_L_cell sc sl N k μ = some (v, μ) := by
  unfold f_L_cell
  by_cases q : k < sl
  · refine ⟨sc k, ?_⟩
    simp only [to_bz, to_nz, to_cz, to_iz]
    simp (disch := omega) only [bz_t, nz_t, cz_T, cz_t, iz_T, iz_F, iz_y, iz_n, not_true_eq_false, not_false_eq_true, true_and, and_true]
  · refine ⟨w32 (w32 (2150003 * k) + 947), ?_⟩
    simp only [to_bz, to_nz, to_cz, to_iz]
    simp (disch := omega) only [bz_t, nz_t, cz_T, cz_t, iz_T, iz_F, iz_y, iz_n, not_true_eq_false, not_false_eq_true, true_and, and_true]
/-- what the law keeps of a snapshot -/
def FI (x2 x4 : Int) (c : Int → Int → Int) (a : Mm) : Prop := x4 = 0 ∨ (x4 = 1 ∧ a 715 1 ≠ 0 ∧ x2 = DG (c 9))
theorem l_law579 (hN : 5000 ≤ N) (S : zST K w c a) (hK : K ≤ 8000) (k0 : Int → Int → Int → Int → Int → Int → Mm → Rs) {x2 x4 e h bc bs : Int} (he : 0 ≤ e ∧ e ≤ 40) (hb : 300 ≤ bc ∧ 60000 ≤ bs) :
    ∃ c' a' bc' bs', f_L_law_b579 sc sl N k0 1 x2 x4 e h 1 bc bs (mk w c m a) = k0 1 x2 x4 (e + 1) bc' bs' (mk w c' m a') ∧ zST (K + 1) w c' a' ∧ c' 9 = c 9 ∧ a' 715 1 = a 715 1 ∧ bc - 300 ≤ bc' ∧ bs - 60000 ≤ bs' := by
  have hk := zST_K S
  have I := S.1.1.1
  have g := I.hd; unfold HEAD at g
  have l1 := q_lots (N := N) (c := c) m (a := a) hN S.1
  have l2 := q_owners (N := N) (c := c) m (a := a) hN S.1 h
  obtain ⟨c1, a1, l3, S1, r1, r2⟩ := q_deadlines (N := N) m hN S (by omega) h
  have c2 := q_count_2 (N := N) (c := c1) m (a := a1) I
  unfold f_L_law_b579
  by_cases q : w 2 ≤ 0
  · refine ⟨c1, a1, bc, bs, ?_, S1, r1, r2, by omega, by omega⟩
    simp only [to_bz, to_nz, to_cz, to_iz]
    simp (disch := omega) only [l1, l2, l3, c2, bz_t, nz_t, cz_T, cz_t, iz_T, iz_F, iz_y, iz_n, not_true_eq_false, not_false_eq_true, true_and, and_true, w32_e, w64_e, mset_e, mset_n, up_e, up_n, if_y, if_n, Int.add_zero, mk_1_m2, mk_1_0, mk_1_1, mk_1_2, mk_1_3, mk_1_4, mk_1_5, mk_1_6, mk_2_m2, mk_2_0, mk_2_1, mk_2_2, mk_2_3, mk_2_4, mk_2_5, mk_2_6, mk_2_7, mk_2_8, mk_2_9, mk_2_10, mk_3_m2, mk_3_0, mk_3_1, mk_3_2, mk_3_3, mk_3_4, mk_3_5, mk_4_m2, mk_4_m1, mk_5_m2, mk_5_m1, mk_11_m2, mk_11_m1, mk_42_m2, mk_42_m1, mk_73_m2, mk_73_0, mk_73_1, mk_73_2, mk_74_m2, mk_74_m1, mk_572_m2, mk_572_m1, mk_715_m2, mk_715_m1, mk_717_m2, mk_717_m1, mk_718_m2, mk_718_m1, mk_716_m2, mk_716_0, mk_716_1, mk_716_2, mk_716_3, mk_716_4, mk_719_m2, mk_74_at, mk_572_at, mk_715_at, mk_717_at, mk_718_at, mk_4_at, mk_5_at, mk_11_at, mk_42_at, mk_O_k, mk_O_0, mk_O_1, mk_O_2, mk_O_3, mk_L_k, mk_L_0, mk_L_1, mk_L_2, mk_L_3, mk_L_4, mk_L_5, mk_L_6, mk_L_7, mk_L_8, mk_L_9, mk_L_10, mk_X_k, mk_X_0, mk_X_1, mk_X_2, mk_X_3, mk_X_4, mk_75_k, mk_573_k, r_1_6, r_73_1, r_73_2, r_716_1, r_716_2, r_716_3, r_715, r_717, r_718, s_O0, s_O1, s_O2, s_O3, s_L0, s_L1, s_L2, s_L3, s_L4, s_L5, s_L6, s_L7, s_L8, s_L9, s_L10, s_X0, s_X1, s_X2, s_X3, s_X4, s_2_4, s_2_5, s_2_6, s_2_7, s_2_8, s_2_9, s_2_10, s_3_1, s_3_2, s_3_3, s_3_4, s_3_5, s_4]
  · have lb := lw_b h (n := w 2) (by omega)
    have lq := q_low (N := N) (g := h) (n := w 2) (by omega)
    generalize lw h (w 2) = l at *
    obtain ⟨a2, l4, S2, z⟩ := q_document (N := N) m hN S1 (l := l) lb
    refine ⟨c1, a2, bc - 300, bs - 60000, ?_, S2, r1, (z 715 1 (by omega) (by omega) (by omega) (by omega)).trans r2, by omega, by omega⟩
    simp only [to_bz, to_nz, to_cz, to_iz]
    simp (disch := omega) only [l1, l2, l3, c2, lq, l4, bz_t, nz_t, cz_T, cz_t, iz_T, iz_F, iz_y, iz_n, not_true_eq_false, not_false_eq_true, true_and, and_true, w32_e, w64_e, mset_e, mset_n, up_e, up_n, if_y, if_n, Int.add_zero, mk_1_m2, mk_1_0, mk_1_1, mk_1_2, mk_1_3, mk_1_4, mk_1_5, mk_1_6, mk_2_m2, mk_2_0, mk_2_1, mk_2_2, mk_2_3, mk_2_4, mk_2_5, mk_2_6, mk_2_7, mk_2_8, mk_2_9, mk_2_10, mk_3_m2, mk_3_0, mk_3_1, mk_3_2, mk_3_3, mk_3_4, mk_3_5, mk_4_m2, mk_4_m1, mk_5_m2, mk_5_m1, mk_11_m2, mk_11_m1, mk_42_m2, mk_42_m1, mk_73_m2, mk_73_0, mk_73_1, mk_73_2, mk_74_m2, mk_74_m1, mk_572_m2, mk_572_m1, mk_715_m2, mk_715_m1, mk_717_m2, mk_717_m1, mk_718_m2, mk_718_m1, mk_716_m2, mk_716_0, mk_716_1, mk_716_2, mk_716_3, mk_716_4, mk_719_m2, mk_74_at, mk_572_at, mk_715_at, mk_717_at, mk_718_at, mk_4_at, mk_5_at, mk_11_at, mk_42_at, mk_O_k, mk_O_0, mk_O_1, mk_O_2, mk_O_3, mk_L_k, mk_L_0, mk_L_1, mk_L_2, mk_L_3, mk_L_4, mk_L_5, mk_L_6, mk_L_7, mk_L_8, mk_L_9, mk_L_10, mk_X_k, mk_X_0, mk_X_1, mk_X_2, mk_X_3, mk_X_4, mk_75_k, mk_573_k, r_1_6, r_73_1, r_73_2, r_716_1, r_716_2, r_716_3, r_715, r_717, r_718, s_O0, s_O1, s_O2, s_O3, s_L0, s_L1, s_L2, s_L3, s_L4, s_L5, s_L6, s_L7, s_L8, s_L9, s_L10, s_X0, s_X1, s_X2, s_X3, s_X4, s_2_4, s_2_5, s_2_6, s_2_7, s_2_8, s_2_9, s_2_10, s_3_1, s_3_2, s_3_3, s_3_4, s_3_5, s_4]
/-- one step of the loop -/
theorem l_step (hN : 5000 ≤ N) (S : zST K w c a) (hK : K ≤ 8000) {x2 x4 bc bs : Int} (e n : Nat) (he : e < 40) (hb : 310 ≤ bc ∧ 62000 ≤ bs) (F : FI x2 x4 c a) :
    ∃ w' c' a' y2 y4 h bc' bs', f_L_law_b102 sc sl N (n + 1) 1 x2 x4 e bc bs (mk w c m a) = f_L_law_b579 sc sl N (f_L_law_b102 sc sl N n) 1 y2 y4 e h 1 bc' bs' (mk w' c' m a') ∧ zST (K + 4) w' c' a' ∧ FI y2 y4 c' a' ∧ bc - 10 ≤ bc' ∧ bs - 2000 ≤ bs' := by
  have hk := zST_K S
  have I := S.1.1.1
  have g := I.hd; unfold HEAD at g
  obtain ⟨x, ex⟩ := q_cell (N := N) (sc := sc) (sl := sl) (k := 2 * (e : Int)) (by omega) (mk w c m a)
  obtain ⟨y, ey⟩ := q_cell (N := N) (sc := sc) (sl := sl) (k := 2 * (e : Int) + 1) (by omega) (mk w c m a)
  have lb := lw_b (o_shr x 16) (n := 18) (by omega)
  have lq := q_low (N := N) (g := o_shr x 16) (n := 18) (by omega)
  generalize hs : lw (o_shr x 16) 18 = s at *
  rw [f_L_law_b102]
  -- where money is due
  have mon : ∀ w' c' a', f_L_money N 1 x y (mk w c m a) = some (1, mk w' c' m a') → zST (K + 1) w' c' a' → c' 9 = c 9 → a' 715 1 = a 715 1 → FI x2 x4 c' a' := fun w' c' a' _ _ h1 h2 => by
    unfold FI at *; rw [h1, h2]; exact F
  have FF : ∀ (c' : Int → Int → Int) (a' : Mm), c' 9 = c 9 → a' 715 1 = a 715 1 → FI x2 x4 c' a' := fun c' a' h1 h2 => by
    unfold FI at *; rw [h1, h2]; exact F
  by_cases q : (e : Int) < 4 ∨ s < 3
  · obtain ⟨w', c', a', f, S', r1, r2⟩ := q_money (N := N) m hN S (by omega) x y
    refine ⟨w', c', a', x2, x4, y, bc, bs, ?_, zST_mono S' (by omega), FF c' a' r1 r2, by omega, by omega⟩
    unfold f_L_law_b158
    by_cases q1 : (e : Int) < 4
    · simp only [to_bz, to_nz, to_cz, to_iz]
      simp (disch := omega) only [ex, ey, lq, f, bz_t, nz_t, cz_T, cz_t, iz_T, iz_F, iz_y, iz_n, not_true_eq_false, not_false_eq_true, true_and, and_true, w32_e, w64_e, mset_e, mset_n, up_e, up_n, if_y, if_n, Int.add_zero, mk_1_m2, mk_1_0, mk_1_1, mk_1_2, mk_1_3, mk_1_4, mk_1_5, mk_1_6, mk_2_m2, mk_2_0, mk_2_1, mk_2_2, mk_2_3, mk_2_4, mk_2_5, mk_2_6, mk_2_7, mk_2_8, mk_2_9, mk_2_10, mk_3_m2, mk_3_0, mk_3_1, mk_3_2, mk_3_3, mk_3_4, mk_3_5, mk_4_m2, mk_4_m1, mk_5_m2, mk_5_m1, mk_11_m2, mk_11_m1, mk_42_m2, mk_42_m1, mk_73_m2, mk_73_0, mk_73_1, mk_73_2, mk_74_m2, mk_74_m1, mk_572_m2, mk_572_m1, mk_715_m2, mk_715_m1, mk_717_m2, mk_717_m1, mk_718_m2, mk_718_m1, mk_716_m2, mk_716_0, mk_716_1, mk_716_2, mk_716_3, mk_716_4, mk_719_m2, mk_74_at, mk_572_at, mk_715_at, mk_717_at, mk_718_at, mk_4_at, mk_5_at, mk_11_at, mk_42_at, mk_O_k, mk_O_0, mk_O_1, mk_O_2, mk_O_3, mk_L_k, mk_L_0, mk_L_1, mk_L_2, mk_L_3, mk_L_4, mk_L_5, mk_L_6, mk_L_7, mk_L_8, mk_L_9, mk_L_10, mk_X_k, mk_X_0, mk_X_1, mk_X_2, mk_X_3, mk_X_4, mk_75_k, mk_573_k, r_1_6, r_73_1, r_73_2, r_716_1, r_716_2, r_716_3, r_715, r_717, r_718, s_O0, s_O1, s_O2, s_O3, s_L0, s_L1, s_L2, s_L3, s_L4, s_L5, s_L6, s_L7, s_L8, s_L9, s_L10, s_X0, s_X1, s_X2, s_X3, s_X4, s_2_4, s_2_5, s_2_6, s_2_7, s_2_8, s_2_9, s_2_10, s_3_1, s_3_2, s_3_3, s_3_4, s_3_5, s_4]
    · have q2 : s < 3 := by omega
      simp only [to_bz, to_nz, to_cz, to_iz]
      simp (disch := omega) only [ex, ey, lq, f, bz_t, nz_t, cz_T, cz_t, iz_T, iz_F, iz_y, iz_n, not_true_eq_false, not_false_eq_true, true_and, and_true, w32_e, w64_e, mset_e, mset_n, up_e, up_n, if_y, if_n, Int.add_zero, mk_1_m2, mk_1_0, mk_1_1, mk_1_2, mk_1_3, mk_1_4, mk_1_5, mk_1_6, mk_2_m2, mk_2_0, mk_2_1, mk_2_2, mk_2_3, mk_2_4, mk_2_5, mk_2_6, mk_2_7, mk_2_8, mk_2_9, mk_2_10, mk_3_m2, mk_3_0, mk_3_1, mk_3_2, mk_3_3, mk_3_4, mk_3_5, mk_4_m2, mk_4_m1, mk_5_m2, mk_5_m1, mk_11_m2, mk_11_m1, mk_42_m2, mk_42_m1, mk_73_m2, mk_73_0, mk_73_1, mk_73_2, mk_74_m2, mk_74_m1, mk_572_m2, mk_572_m1, mk_715_m2, mk_715_m1, mk_717_m2, mk_717_m1, mk_718_m2, mk_718_m1, mk_716_m2, mk_716_0, mk_716_1, mk_716_2, mk_716_3, mk_716_4, mk_719_m2, mk_74_at, mk_572_at, mk_715_at, mk_717_at, mk_718_at, mk_4_at, mk_5_at, mk_11_at, mk_42_at, mk_O_k, mk_O_0, mk_O_1, mk_O_2, mk_O_3, mk_L_k, mk_L_0, mk_L_1, mk_L_2, mk_L_3, mk_L_4, mk_L_5, mk_L_6, mk_L_7, mk_L_8, mk_L_9, mk_L_10, mk_X_k, mk_X_0, mk_X_1, mk_X_2, mk_X_3, mk_X_4, mk_75_k, mk_573_k, r_1_6, r_73_1, r_73_2, r_716_1, r_716_2, r_716_3, r_715, r_717, r_718, s_O0, s_O1, s_O2, s_O3, s_L0, s_L1, s_L2, s_L3, s_L4, s_L5, s_L6, s_L7, s_L8, s_L9, s_L10, s_X0, s_X1, s_X2, s_X3, s_X4, s_2_4, s_2_5, s_2_6, s_2_7, s_2_8, s_2_9, s_2_10, s_3_1, s_3_2, s_3_3, s_3_4, s_3_5, s_4]
  · have q0 : ¬ (e : Int) < 4 := fun z => q (Or.inl z)
    have q1 : 3 ≤ s := by omega
    by_cases s6 : s < 6
    · obtain ⟨w', c', a', f, S', r1, r2⟩ := q_enters (N := N) m hN S (by omega) x y
      refine ⟨w', c', a', x2, x4, y, bc, bs, ?_, zST_mono S' (by omega), FF c' a' r1 r2, by omega, by omega⟩
      simp only [to_bz, to_nz, to_cz, to_iz]
      simp (disch := omega) only [ex, ey, lq, f, bz_t, nz_t, cz_T, cz_t, iz_T, iz_F, iz_y, iz_n, not_true_eq_false, not_false_eq_true, true_and, and_true, w32_e, w64_e, mset_e, mset_n, up_e, up_n, if_y, if_n, Int.add_zero, mk_1_m2, mk_1_0, mk_1_1, mk_1_2, mk_1_3, mk_1_4, mk_1_5, mk_1_6, mk_2_m2, mk_2_0, mk_2_1, mk_2_2, mk_2_3, mk_2_4, mk_2_5, mk_2_6, mk_2_7, mk_2_8, mk_2_9, mk_2_10, mk_3_m2, mk_3_0, mk_3_1, mk_3_2, mk_3_3, mk_3_4, mk_3_5, mk_4_m2, mk_4_m1, mk_5_m2, mk_5_m1, mk_11_m2, mk_11_m1, mk_42_m2, mk_42_m1, mk_73_m2, mk_73_0, mk_73_1, mk_73_2, mk_74_m2, mk_74_m1, mk_572_m2, mk_572_m1, mk_715_m2, mk_715_m1, mk_717_m2, mk_717_m1, mk_718_m2, mk_718_m1, mk_716_m2, mk_716_0, mk_716_1, mk_716_2, mk_716_3, mk_716_4, mk_719_m2, mk_74_at, mk_572_at, mk_715_at, mk_717_at, mk_718_at, mk_4_at, mk_5_at, mk_11_at, mk_42_at, mk_O_k, mk_O_0, mk_O_1, mk_O_2, mk_O_3, mk_L_k, mk_L_0, mk_L_1, mk_L_2, mk_L_3, mk_L_4, mk_L_5, mk_L_6, mk_L_7, mk_L_8, mk_L_9, mk_L_10, mk_X_k, mk_X_0, mk_X_1, mk_X_2, mk_X_3, mk_X_4, mk_75_k, mk_573_k, r_1_6, r_73_1, r_73_2, r_716_1, r_716_2, r_716_3, r_715, r_717, r_718, s_O0, s_O1, s_O2, s_O3, s_L0, s_L1, s_L2, s_L3, s_L4, s_L5, s_L6, s_L7, s_L8, s_L9, s_L10, s_X0, s_X1, s_X2, s_X3, s_X4, s_2_4, s_2_5, s_2_6, s_2_7, s_2_8, s_2_9, s_2_10, s_3_1, s_3_2, s_3_3, s_3_4, s_3_5, s_4]
    by_cases s11 : s < 11
    · obtain ⟨w', c', a', f, S', r1, r2⟩ := q_moves (N := N) m hN S (by omega) (s := s - 6) (by omega) x y
      refine ⟨w', c', a', x2, x4, y, bc - 10, bs - 2000, ?_, zST_mono S' (by omega), FF c' a' r1 r2, by omega, by omega⟩
      simp only [to_bz, to_nz, to_cz, to_iz]
      simp (disch := omega) only [ex, ey, lq, f, bz_t, nz_t, cz_T, cz_t, iz_T, iz_F, iz_y, iz_n, not_true_eq_false, not_false_eq_true, true_and, and_true, w32_e, w64_e, mset_e, mset_n, up_e, up_n, if_y, if_n, Int.add_zero, mk_1_m2, mk_1_0, mk_1_1, mk_1_2, mk_1_3, mk_1_4, mk_1_5, mk_1_6, mk_2_m2, mk_2_0, mk_2_1, mk_2_2, mk_2_3, mk_2_4, mk_2_5, mk_2_6, mk_2_7, mk_2_8, mk_2_9, mk_2_10, mk_3_m2, mk_3_0, mk_3_1, mk_3_2, mk_3_3, mk_3_4, mk_3_5, mk_4_m2, mk_4_m1, mk_5_m2, mk_5_m1, mk_11_m2, mk_11_m1, mk_42_m2, mk_42_m1, mk_73_m2, mk_73_0, mk_73_1, mk_73_2, mk_74_m2, mk_74_m1, mk_572_m2, mk_572_m1, mk_715_m2, mk_715_m1, mk_717_m2, mk_717_m1, mk_718_m2, mk_718_m1, mk_716_m2, mk_716_0, mk_716_1, mk_716_2, mk_716_3, mk_716_4, mk_719_m2, mk_74_at, mk_572_at, mk_715_at, mk_717_at, mk_718_at, mk_4_at, mk_5_at, mk_11_at, mk_42_at, mk_O_k, mk_O_0, mk_O_1, mk_O_2, mk_O_3, mk_L_k, mk_L_0, mk_L_1, mk_L_2, mk_L_3, mk_L_4, mk_L_5, mk_L_6, mk_L_7, mk_L_8, mk_L_9, mk_L_10, mk_X_k, mk_X_0, mk_X_1, mk_X_2, mk_X_3, mk_X_4, mk_75_k, mk_573_k, r_1_6, r_73_1, r_73_2, r_716_1, r_716_2, r_716_3, r_715, r_717, r_718, s_O0, s_O1, s_O2, s_O3, s_L0, s_L1, s_L2, s_L3, s_L4, s_L5, s_L6, s_L7, s_L8, s_L9, s_L10, s_X0, s_X1, s_X2, s_X3, s_X4, s_2_4, s_2_5, s_2_6, s_2_7, s_2_8, s_2_9, s_2_10, s_3_1, s_3_2, s_3_3, s_3_4, s_3_5, s_4]
    by_cases s12 : s = 11
    · obtain ⟨w', c', a', f, S', r1, r2⟩ := q_orders (N := N) m hN (by omega) S x y
      refine ⟨w', c', a', x2, x4, y, bc, bs, ?_, S', FF c' a' r1 r2, by omega, by omega⟩
      simp only [to_bz, to_nz, to_cz, to_iz]
      simp (disch := omega) only [ex, ey, lq, f, bz_t, nz_t, cz_T, cz_t, iz_T, iz_F, iz_y, iz_n, not_true_eq_false, not_false_eq_true, true_and, and_true, w32_e, w64_e, mset_e, mset_n, up_e, up_n, if_y, if_n, Int.add_zero, mk_1_m2, mk_1_0, mk_1_1, mk_1_2, mk_1_3, mk_1_4, mk_1_5, mk_1_6, mk_2_m2, mk_2_0, mk_2_1, mk_2_2, mk_2_3, mk_2_4, mk_2_5, mk_2_6, mk_2_7, mk_2_8, mk_2_9, mk_2_10, mk_3_m2, mk_3_0, mk_3_1, mk_3_2, mk_3_3, mk_3_4, mk_3_5, mk_4_m2, mk_4_m1, mk_5_m2, mk_5_m1, mk_11_m2, mk_11_m1, mk_42_m2, mk_42_m1, mk_73_m2, mk_73_0, mk_73_1, mk_73_2, mk_74_m2, mk_74_m1, mk_572_m2, mk_572_m1, mk_715_m2, mk_715_m1, mk_717_m2, mk_717_m1, mk_718_m2, mk_718_m1, mk_716_m2, mk_716_0, mk_716_1, mk_716_2, mk_716_3, mk_716_4, mk_719_m2, mk_74_at, mk_572_at, mk_715_at, mk_717_at, mk_718_at, mk_4_at, mk_5_at, mk_11_at, mk_42_at, mk_O_k, mk_O_0, mk_O_1, mk_O_2, mk_O_3, mk_L_k, mk_L_0, mk_L_1, mk_L_2, mk_L_3, mk_L_4, mk_L_5, mk_L_6, mk_L_7, mk_L_8, mk_L_9, mk_L_10, mk_X_k, mk_X_0, mk_X_1, mk_X_2, mk_X_3, mk_X_4, mk_75_k, mk_573_k, r_1_6, r_73_1, r_73_2, r_716_1, r_716_2, r_716_3, r_715, r_717, r_718, s_O0, s_O1, s_O2, s_O3, s_L0, s_L1, s_L2, s_L3, s_L4, s_L5, s_L6, s_L7, s_L8, s_L9, s_L10, s_X0, s_X1, s_X2, s_X3, s_X4, s_2_4, s_2_5, s_2_6, s_2_7, s_2_8, s_2_9, s_2_10, s_3_1, s_3_2, s_3_3, s_3_4, s_3_5, s_4]
    by_cases s13 : s = 12
    · have c3 := q_count_3 (N := N) (c := c) m (a := a) I
      have q9 := uc9 S
      by_cases z : w 3 = 0
      · have y1 : yPr w (-1) = -1 := by unfold yPr; rw [if_neg (by omega)]
        have f := pr_bad (N := N) m hN S y1 (by omega)
        rw [show cd (-1) = -100000001 from rfl] at f
        refine ⟨w, _, _, x2, x4, y, bc, bs, ?_, zST_mono (act_er S w (show (-1 : Int) ≤ 6 by omega)) (by omega), FF _ _ q9 (rb_7 (-1)), by omega, by omega⟩
        unfold f_L_law_b265 f_L_law_b299 f_L_law_b317
        simp only [to_bz, to_nz, to_cz, to_iz]
        simp (disch := omega) only [ex, ey, lq, c3, f, bz_t, nz_t, cz_T, cz_t, iz_T, iz_F, iz_y, iz_n, not_true_eq_false, not_false_eq_true, true_and, and_true, w32_e, w64_e, mset_e, mset_n, up_e, up_n, if_y, if_n, Int.add_zero, mk_1_m2, mk_1_0, mk_1_1, mk_1_2, mk_1_3, mk_1_4, mk_1_5, mk_1_6, mk_2_m2, mk_2_0, mk_2_1, mk_2_2, mk_2_3, mk_2_4, mk_2_5, mk_2_6, mk_2_7, mk_2_8, mk_2_9, mk_2_10, mk_3_m2, mk_3_0, mk_3_1, mk_3_2, mk_3_3, mk_3_4, mk_3_5, mk_4_m2, mk_4_m1, mk_5_m2, mk_5_m1, mk_11_m2, mk_11_m1, mk_42_m2, mk_42_m1, mk_73_m2, mk_73_0, mk_73_1, mk_73_2, mk_74_m2, mk_74_m1, mk_572_m2, mk_572_m1, mk_715_m2, mk_715_m1, mk_717_m2, mk_717_m1, mk_718_m2, mk_718_m1, mk_716_m2, mk_716_0, mk_716_1, mk_716_2, mk_716_3, mk_716_4, mk_719_m2, mk_74_at, mk_572_at, mk_715_at, mk_717_at, mk_718_at, mk_4_at, mk_5_at, mk_11_at, mk_42_at, mk_O_k, mk_O_0, mk_O_1, mk_O_2, mk_O_3, mk_L_k, mk_L_0, mk_L_1, mk_L_2, mk_L_3, mk_L_4, mk_L_5, mk_L_6, mk_L_7, mk_L_8, mk_L_9, mk_L_10, mk_X_k, mk_X_0, mk_X_1, mk_X_2, mk_X_3, mk_X_4, mk_75_k, mk_573_k, r_1_6, r_73_1, r_73_2, r_716_1, r_716_2, r_716_3, r_715, r_717, r_718, s_O0, s_O1, s_O2, s_O3, s_L0, s_L1, s_L2, s_L3, s_L4, s_L5, s_L6, s_L7, s_L8, s_L9, s_L10, s_X0, s_X1, s_X2, s_X3, s_X4, s_2_4, s_2_5, s_2_6, s_2_7, s_2_8, s_2_9, s_2_10, s_3_1, s_3_2, s_3_3, s_3_4, s_3_5, s_4]
      · have lb2 := lw_b x (n := w 3) (by omega)
        have lq2 := q_low (N := N) (g := x) (n := w 3) (by omega)
        generalize lw x (w 3) = k at *
        have zk : 0 ≤ k ∧ k < w 3 := lb2
        have xp := I.xp zk; unfold EXP at xp
        have e4 := q_exported_4 (N := N) (c := c) m (a := a) I zk
        have e2 := q_exported_2 (N := N) (c := c) m (a := a) I zk
        by_cases z2 : w (370 + 5 * k + 4) = 0
        · have y1 : yPr w k = 0 := by unfold yPr; rw [if_pos zk, if_pos z2]
          obtain ⟨f, fn⟩ := pr_good (N := N) m hN S y1
          have S' := zST_ok S (show K ≤ K + 1 ∧ K + 1 ≤ 60000 by omega) (JV_Pr S.1 (by omega) y1)
          refine ⟨_, _, _, x2, x4, y, bc, bs, ?_, zST_mono S' (by omega), FF _ _ q9 apA_7, by omega, by omega⟩
          unfold f_L_law_b265 f_L_law_b299 f_L_law_b317
          simp only [to_bz, to_nz, to_cz, to_iz]
          simp (disch := omega) only [ex, ey, lq, c3, lq2, e4, e2, f, bz_t, nz_t, cz_T, cz_t, iz_T, iz_F, iz_y, iz_n, not_true_eq_false, not_false_eq_true, true_and, and_true, w32_e, w64_e, mset_e, mset_n, up_e, up_n, if_y, if_n, Int.add_zero, mk_1_m2, mk_1_0, mk_1_1, mk_1_2, mk_1_3, mk_1_4, mk_1_5, mk_1_6, mk_2_m2, mk_2_0, mk_2_1, mk_2_2, mk_2_3, mk_2_4, mk_2_5, mk_2_6, mk_2_7, mk_2_8, mk_2_9, mk_2_10, mk_3_m2, mk_3_0, mk_3_1, mk_3_2, mk_3_3, mk_3_4, mk_3_5, mk_4_m2, mk_4_m1, mk_5_m2, mk_5_m1, mk_11_m2, mk_11_m1, mk_42_m2, mk_42_m1, mk_73_m2, mk_73_0, mk_73_1, mk_73_2, mk_74_m2, mk_74_m1, mk_572_m2, mk_572_m1, mk_715_m2, mk_715_m1, mk_717_m2, mk_717_m1, mk_718_m2, mk_718_m1, mk_716_m2, mk_716_0, mk_716_1, mk_716_2, mk_716_3, mk_716_4, mk_719_m2, mk_74_at, mk_572_at, mk_715_at, mk_717_at, mk_718_at, mk_4_at, mk_5_at, mk_11_at, mk_42_at, mk_O_k, mk_O_0, mk_O_1, mk_O_2, mk_O_3, mk_L_k, mk_L_0, mk_L_1, mk_L_2, mk_L_3, mk_L_4, mk_L_5, mk_L_6, mk_L_7, mk_L_8, mk_L_9, mk_L_10, mk_X_k, mk_X_0, mk_X_1, mk_X_2, mk_X_3, mk_X_4, mk_75_k, mk_573_k, r_1_6, r_73_1, r_73_2, r_716_1, r_716_2, r_716_3, r_715, r_717, r_718, s_O0, s_O1, s_O2, s_O3, s_L0, s_L1, s_L2, s_L3, s_L4, s_L5, s_L6, s_L7, s_L8, s_L9, s_L10, s_X0, s_X1, s_X2, s_X3, s_X4, s_2_4, s_2_5, s_2_6, s_2_7, s_2_8, s_2_9, s_2_10, s_3_1, s_3_2, s_3_3, s_3_4, s_3_5, s_4]
        · have y1 : yPr w k = 6 := by unfold yPr; rw [if_pos zk, if_neg z2]
          have f := pr_bad (N := N) m hN S y1 (by omega)
          rw [show cd 6 = -100000003 from rfl] at f
          refine ⟨w, _, _, x2, x4, y, bc, bs, ?_, zST_mono (act_er S w (show (6 : Int) ≤ 6 by omega)) (by omega), FF _ _ q9 (rb_7 6), by omega, by omega⟩
          unfold f_L_law_b265 f_L_law_b299 f_L_law_b317
          simp only [to_bz, to_nz, to_cz, to_iz]
          simp (disch := omega) only [ex, ey, lq, c3, lq2, e4, e2, f, bz_t, nz_t, cz_T, cz_t, iz_T, iz_F, iz_y, iz_n, not_true_eq_false, not_false_eq_true, true_and, and_true, w32_e, w64_e, mset_e, mset_n, up_e, up_n, if_y, if_n, Int.add_zero, mk_1_m2, mk_1_0, mk_1_1, mk_1_2, mk_1_3, mk_1_4, mk_1_5, mk_1_6, mk_2_m2, mk_2_0, mk_2_1, mk_2_2, mk_2_3, mk_2_4, mk_2_5, mk_2_6, mk_2_7, mk_2_8, mk_2_9, mk_2_10, mk_3_m2, mk_3_0, mk_3_1, mk_3_2, mk_3_3, mk_3_4, mk_3_5, mk_4_m2, mk_4_m1, mk_5_m2, mk_5_m1, mk_11_m2, mk_11_m1, mk_42_m2, mk_42_m1, mk_73_m2, mk_73_0, mk_73_1, mk_73_2, mk_74_m2, mk_74_m1, mk_572_m2, mk_572_m1, mk_715_m2, mk_715_m1, mk_717_m2, mk_717_m1, mk_718_m2, mk_718_m1, mk_716_m2, mk_716_0, mk_716_1, mk_716_2, mk_716_3, mk_716_4, mk_719_m2, mk_74_at, mk_572_at, mk_715_at, mk_717_at, mk_718_at, mk_4_at, mk_5_at, mk_11_at, mk_42_at, mk_O_k, mk_O_0, mk_O_1, mk_O_2, mk_O_3, mk_L_k, mk_L_0, mk_L_1, mk_L_2, mk_L_3, mk_L_4, mk_L_5, mk_L_6, mk_L_7, mk_L_8, mk_L_9, mk_L_10, mk_X_k, mk_X_0, mk_X_1, mk_X_2, mk_X_3, mk_X_4, mk_75_k, mk_573_k, r_1_6, r_73_1, r_73_2, r_716_1, r_716_2, r_716_3, r_715, r_717, r_718, s_O0, s_O1, s_O2, s_O3, s_L0, s_L1, s_L2, s_L3, s_L4, s_L5, s_L6, s_L7, s_L8, s_L9, s_L10, s_X0, s_X1, s_X2, s_X3, s_X4, s_2_4, s_2_5, s_2_6, s_2_7, s_2_8, s_2_9, s_2_10, s_3_1, s_3_2, s_3_3, s_3_4, s_3_5, s_4]
    by_cases s14 : s = 13
    · have q9 := uc9 S
      have lb2 := lw_b y (n := 50) (by omega)
      have lq2 := q_low (N := N) (g := y) (n := 50) (by omega)
      generalize lw y 50 = d at *
      have c0 := q_count_0 (N := N) (c := c) m (a := a) I
      have ci := q_calledIn (N := N) (c := c) m (a := a) hN I (d := 1 + d) (by omega)
      have sb := pS_b I (1 + d)
      have f := x_pass (N := N) m hN S (d := 1 + d) (by omega)
      have S' := zST_ok S (show K ≤ K + 1 ∧ K + 1 ≤ 60000 by omega) (JV_pass S.1 (by omega) (d := 1 + d) (by omega))
      have c0' := q_count_0 (N := N) (c := uc c ((a 73 1 + a 73 2) % 7 + 1) w) m (a := apA a) S'.1.1.1
      have p0 : pR w (1 + d) 0 = w 0 + (1 + d) := (CF_see I (w 0 + (1 + d)) (fun _ => w 0 + (1 + d)) (fun _ => w 0 + (1 + d))).2.1
      rw [p0] at c0'
      refine ⟨_, _, _, x2, x4, y, bc, bs, ?_, zST_mono S' (by omega), FF _ _ q9 apA_7, by omega, by omega⟩
      unfold f_L_law_b384
      simp only [to_bz, to_nz, to_cz, to_iz]
      simp (disch := omega) only [ex, ey, lq, lq2, c0, ci, f, c0', bz_t, nz_t, cz_T, cz_t, iz_T, iz_F, iz_y, iz_n, not_true_eq_false, not_false_eq_true, true_and, and_true, w32_e, w64_e, mset_e, mset_n, up_e, up_n, if_y, if_n, Int.add_zero, mk_1_m2, mk_1_0, mk_1_1, mk_1_2, mk_1_3, mk_1_4, mk_1_5, mk_1_6, mk_2_m2, mk_2_0, mk_2_1, mk_2_2, mk_2_3, mk_2_4, mk_2_5, mk_2_6, mk_2_7, mk_2_8, mk_2_9, mk_2_10, mk_3_m2, mk_3_0, mk_3_1, mk_3_2, mk_3_3, mk_3_4, mk_3_5, mk_4_m2, mk_4_m1, mk_5_m2, mk_5_m1, mk_11_m2, mk_11_m1, mk_42_m2, mk_42_m1, mk_73_m2, mk_73_0, mk_73_1, mk_73_2, mk_74_m2, mk_74_m1, mk_572_m2, mk_572_m1, mk_715_m2, mk_715_m1, mk_717_m2, mk_717_m1, mk_718_m2, mk_718_m1, mk_716_m2, mk_716_0, mk_716_1, mk_716_2, mk_716_3, mk_716_4, mk_719_m2, mk_74_at, mk_572_at, mk_715_at, mk_717_at, mk_718_at, mk_4_at, mk_5_at, mk_11_at, mk_42_at, mk_O_k, mk_O_0, mk_O_1, mk_O_2, mk_O_3, mk_L_k, mk_L_0, mk_L_1, mk_L_2, mk_L_3, mk_L_4, mk_L_5, mk_L_6, mk_L_7, mk_L_8, mk_L_9, mk_L_10, mk_X_k, mk_X_0, mk_X_1, mk_X_2, mk_X_3, mk_X_4, mk_75_k, mk_573_k, r_1_6, r_73_1, r_73_2, r_716_1, r_716_2, r_716_3, r_715, r_717, r_718, s_O0, s_O1, s_O2, s_O3, s_L0, s_L1, s_L2, s_L3, s_L4, s_L5, s_L6, s_L7, s_L8, s_L9, s_L10, s_X0, s_X1, s_X2, s_X3, s_X4, s_2_4, s_2_5, s_2_6, s_2_7, s_2_8, s_2_9, s_2_10, s_3_1, s_3_2, s_3_3, s_3_4, s_3_5, s_4]
    by_cases s15 : s = 14
    · have c8 := q_count_8 (N := N) (c := c) m (a := a) I
      have b1 := lw_b y (n := 101) (by omega)
      have b2 := lw_b (o_shr y 7) (n := 200) (by omega)
      have b3 := lw_b (o_shr y 11) (n := 50) (by omega)
      have b4 := lw_b x (n := 120) (by omega)
      have b5 := lw_b (o_shr x 3) (n := 60) (by omega)
      have b6 := lw_b x (n := 6) (by omega)
      have b7 := lw_b y (n := 1001) (by omega)
      have k1 := q_low (N := N) (g := y) (n := 101) (by omega)
      have k2 := q_low (N := N) (g := o_shr y 7) (n := 200) (by omega)
      have k3 := q_low (N := N) (g := o_shr y 11) (n := 50) (by omega)
      have k4 := q_low (N := N) (g := x) (n := 120) (by omega)
      have k5 := q_low (N := N) (g := o_shr x 3) (n := 60) (by omega)
      have k6 := q_low (N := N) (g := x) (n := 6) (by omega)
      have k7 := q_low (N := N) (g := y) (n := 1001) (by omega)
      generalize lw y 101 = v1 at *
      generalize lw (o_shr y 7) 200 = v2 at *
      generalize lw (o_shr y 11) 50 = v3 at *
      generalize lw x 120 = v4 at *
      generalize lw (o_shr x 3) 60 = v5 at *
      generalize lw x 6 = v6 at *
      generalize lw y 1001 = v7 at *
      have f1 := x_setRules (N := N) m hN S (x := v1) (y := v2) (z := v3) (by omega) (by omega) (by omega)
      have S1 := zST_ok S (show K ≤ K + 1 ∧ K + 1 ≤ 60000 by omega) (JV_setRules S.1 (by omega) (x := v1) (y := v2) (z := v3) (by omega) (by omega) (by omega))
      have g1 := S1.1.1.1.hd; unfold HEAD at g1
      have f2 := x_setTerms (N := N) m hN S1 (x := 1 + v4) (y := 1 + v5) (by omega) (by omega)
      have S2 := zST_ok S1 (show K + 1 ≤ K + 1 + 1 ∧ K + 1 + 1 ≤ 60000 by omega) (JV_setTerms S1.1 (by omega) (x := 1 + v4) (y := 1 + v5) (by omega) (by omega))
      have f3 := x_setRate (N := N) m hN S2 (x := v6) (y := v7) (by omega) (by omega)
      have rt := S2.1.1.1.rt (k := v6) (by omega)
      have S3 := zST_ok S2 (show K + 1 + 1 ≤ K + 1 + 1 + 1 ∧ K + 1 + 1 + 1 ≤ 60000 by omega) (JV_setRate S2.1 (by omega) (x := v6) (y := v7) (by omega) (by omega))
      have q9 := uc9 S
      have q10 := uc9 S1
      have q11 := uc9 S2
      generalize up (up (up w 7 v1) 8 v2) 9 v3 = u1 at *
      generalize up (up u1 5 (1 + v4)) 6 (1 + v5) = u2 at *
      refine ⟨_, _, _, x2, x4, y, bc, bs, ?_, zST_mono S3 (by omega), FF _ _ (q11.trans (q10.trans q9)) (by rw [apA_7, apA_7, apA_7]), by omega, by omega⟩
      unfold f_L_law_b495
      simp only [to_bz, to_nz, to_cz, to_iz]
      simp (disch := omega) only [ex, ey, lq, c8, k1, k2, k3, k4, k5, k6, k7, f1, f2, f3, bz_t, nz_t, cz_T, cz_t, iz_T, iz_F, iz_y, iz_n, not_true_eq_false, not_false_eq_true, true_and, and_true, w32_e, w64_e, mset_e, mset_n, up_e, up_n, if_y, if_n, Int.add_zero, mk_1_m2, mk_1_0, mk_1_1, mk_1_2, mk_1_3, mk_1_4, mk_1_5, mk_1_6, mk_2_m2, mk_2_0, mk_2_1, mk_2_2, mk_2_3, mk_2_4, mk_2_5, mk_2_6, mk_2_7, mk_2_8, mk_2_9, mk_2_10, mk_3_m2, mk_3_0, mk_3_1, mk_3_2, mk_3_3, mk_3_4, mk_3_5, mk_4_m2, mk_4_m1, mk_5_m2, mk_5_m1, mk_11_m2, mk_11_m1, mk_42_m2, mk_42_m1, mk_73_m2, mk_73_0, mk_73_1, mk_73_2, mk_74_m2, mk_74_m1, mk_572_m2, mk_572_m1, mk_715_m2, mk_715_m1, mk_717_m2, mk_717_m1, mk_718_m2, mk_718_m1, mk_716_m2, mk_716_0, mk_716_1, mk_716_2, mk_716_3, mk_716_4, mk_719_m2, mk_74_at, mk_572_at, mk_715_at, mk_717_at, mk_718_at, mk_4_at, mk_5_at, mk_11_at, mk_42_at, mk_O_k, mk_O_0, mk_O_1, mk_O_2, mk_O_3, mk_L_k, mk_L_0, mk_L_1, mk_L_2, mk_L_3, mk_L_4, mk_L_5, mk_L_6, mk_L_7, mk_L_8, mk_L_9, mk_L_10, mk_X_k, mk_X_0, mk_X_1, mk_X_2, mk_X_3, mk_X_4, mk_75_k, mk_573_k, r_1_6, r_73_1, r_73_2, r_716_1, r_716_2, r_716_3, r_715, r_717, r_718, s_O0, s_O1, s_O2, s_O3, s_L0, s_L1, s_L2, s_L3, s_L4, s_L5, s_L6, s_L7, s_L8, s_L9, s_L10, s_X0, s_X1, s_X2, s_X3, s_X4, s_2_4, s_2_5, s_2_6, s_2_7, s_2_8, s_2_9, s_2_10, s_3_1, s_3_2, s_3_3, s_3_4, s_3_5, s_4]
    by_cases s16 : s = 15
    · have f := x_keep (N := N) m hN S
      have S' := zST_keep S
      have c2 := q_count_2 (N := N) (c := uc c 9 w) m (a := mset a 715 1 1) I
      have dg := q_digest (N := N) (c := uc c 9 w) m (a := mset a 715 1 1) hN I
      refine ⟨_, _, _, DG w, 1, y, bc, bs, ?_, zST_mono S' (by omega), Or.inr ⟨rfl, by rw [mset_e]; omega, by rw [uc_e]⟩, by omega, by omega⟩
      unfold f_L_law_b525
      simp only [to_bz, to_nz, to_cz, to_iz]
      simp (disch := omega) only [ex, ey, lq, f, c2, dg, bz_t, nz_t, cz_T, cz_t, iz_T, iz_F, iz_y, iz_n, not_true_eq_false, not_false_eq_true, true_and, and_true, w32_e, w64_e, mset_e, mset_n, up_e, up_n, if_y, if_n, Int.add_zero, mk_1_m2, mk_1_0, mk_1_1, mk_1_2, mk_1_3, mk_1_4, mk_1_5, mk_1_6, mk_2_m2, mk_2_0, mk_2_1, mk_2_2, mk_2_3, mk_2_4, mk_2_5, mk_2_6, mk_2_7, mk_2_8, mk_2_9, mk_2_10, mk_3_m2, mk_3_0, mk_3_1, mk_3_2, mk_3_3, mk_3_4, mk_3_5, mk_4_m2, mk_4_m1, mk_5_m2, mk_5_m1, mk_11_m2, mk_11_m1, mk_42_m2, mk_42_m1, mk_73_m2, mk_73_0, mk_73_1, mk_73_2, mk_74_m2, mk_74_m1, mk_572_m2, mk_572_m1, mk_715_m2, mk_715_m1, mk_717_m2, mk_717_m1, mk_718_m2, mk_718_m1, mk_716_m2, mk_716_0, mk_716_1, mk_716_2, mk_716_3, mk_716_4, mk_719_m2, mk_74_at, mk_572_at, mk_715_at, mk_717_at, mk_718_at, mk_4_at, mk_5_at, mk_11_at, mk_42_at, mk_O_k, mk_O_0, mk_O_1, mk_O_2, mk_O_3, mk_L_k, mk_L_0, mk_L_1, mk_L_2, mk_L_3, mk_L_4, mk_L_5, mk_L_6, mk_L_7, mk_L_8, mk_L_9, mk_L_10, mk_X_k, mk_X_0, mk_X_1, mk_X_2, mk_X_3, mk_X_4, mk_75_k, mk_573_k, r_1_6, r_73_1, r_73_2, r_716_1, r_716_2, r_716_3, r_715, r_717, r_718, s_O0, s_O1, s_O2, s_O3, s_L0, s_L1, s_L2, s_L3, s_L4, s_L5, s_L6, s_L7, s_L8, s_L9, s_L10, s_X0, s_X1, s_X2, s_X3, s_X4, s_2_4, s_2_5, s_2_6, s_2_7, s_2_8, s_2_9, s_2_10, s_3_1, s_3_2, s_3_3, s_3_4, s_3_5, s_4]
    by_cases s17 : s = 16
    · by_cases z : x4 = 0
      · refine ⟨w, c, a, x2, x4, y, bc, bs, ?_, zST_mono S (by omega), F, by omega, by omega⟩
        simp only [to_bz, to_nz, to_cz, to_iz]
        simp (disch := omega) only [ex, ey, lq, bz_t, nz_t, cz_T, cz_t, iz_T, iz_F, iz_y, iz_n, not_true_eq_false, not_false_eq_true, true_and, and_true, w32_e, w64_e, mset_e, mset_n, up_e, up_n, if_y, if_n, Int.add_zero, mk_1_m2, mk_1_0, mk_1_1, mk_1_2, mk_1_3, mk_1_4, mk_1_5, mk_1_6, mk_2_m2, mk_2_0, mk_2_1, mk_2_2, mk_2_3, mk_2_4, mk_2_5, mk_2_6, mk_2_7, mk_2_8, mk_2_9, mk_2_10, mk_3_m2, mk_3_0, mk_3_1, mk_3_2, mk_3_3, mk_3_4, mk_3_5, mk_4_m2, mk_4_m1, mk_5_m2, mk_5_m1, mk_11_m2, mk_11_m1, mk_42_m2, mk_42_m1, mk_73_m2, mk_73_0, mk_73_1, mk_73_2, mk_74_m2, mk_74_m1, mk_572_m2, mk_572_m1, mk_715_m2, mk_715_m1, mk_717_m2, mk_717_m1, mk_718_m2, mk_718_m1, mk_716_m2, mk_716_0, mk_716_1, mk_716_2, mk_716_3, mk_716_4, mk_719_m2, mk_74_at, mk_572_at, mk_715_at, mk_717_at, mk_718_at, mk_4_at, mk_5_at, mk_11_at, mk_42_at, mk_O_k, mk_O_0, mk_O_1, mk_O_2, mk_O_3, mk_L_k, mk_L_0, mk_L_1, mk_L_2, mk_L_3, mk_L_4, mk_L_5, mk_L_6, mk_L_7, mk_L_8, mk_L_9, mk_L_10, mk_X_k, mk_X_0, mk_X_1, mk_X_2, mk_X_3, mk_X_4, mk_75_k, mk_573_k, r_1_6, r_73_1, r_73_2, r_716_1, r_716_2, r_716_3, r_715, r_717, r_718, s_O0, s_O1, s_O2, s_O3, s_L0, s_L1, s_L2, s_L3, s_L4, s_L5, s_L6, s_L7, s_L8, s_L9, s_L10, s_X0, s_X1, s_X2, s_X3, s_X4, s_2_4, s_2_5, s_2_6, s_2_7, s_2_8, s_2_9, s_2_10, s_3_1, s_3_2, s_3_3, s_3_4, s_3_5, s_4]
      · obtain ⟨z1, z2, z3⟩ : x4 = 1 ∧ a 715 1 ≠ 0 ∧ x2 = DG (c 9) := by
          rcases F with F | F
          · exact absurd F z
          · exact F
        have f := x_restore (N := N) m hN S z2
        have J := (S.2.2.1 1 (by omega)).2 z2
        rw [show (8 : Int) + 1 = 9 from rfl] at J
        have S' := zST_ok S (show K ≤ K + 1 ∧ K + 1 ≤ 60000 by omega) (JV_mono J (by omega))
        have c2 := q_count_2 (N := N) (c := uc c ((a 73 1 + a 73 2) % 7 + 1) w) m (a := apA a) J.1.1
        have dg := q_digest (N := N) (c := uc c ((a 73 1 + a 73 2) % 7 + 1) w) m (a := apA a) hN J.1.1
        rw [← z3] at dg
        refine ⟨_, _, _, x2, x4, y, bc, bs, ?_, zST_mono S' (by omega), FF _ _ (uc9 S) apA_7, by omega, by omega⟩
        unfold f_L_law_b577
        simp only [to_bz, to_nz, to_cz, to_iz]
        simp (disch := omega) only [ex, ey, lq, f, c2, dg, bz_t, nz_t, cz_T, cz_t, iz_T, iz_F, iz_y, iz_n, not_true_eq_false, not_false_eq_true, true_and, and_true, w32_e, w64_e, mset_e, mset_n, up_e, up_n, if_y, if_n, Int.add_zero, mk_1_m2, mk_1_0, mk_1_1, mk_1_2, mk_1_3, mk_1_4, mk_1_5, mk_1_6, mk_2_m2, mk_2_0, mk_2_1, mk_2_2, mk_2_3, mk_2_4, mk_2_5, mk_2_6, mk_2_7, mk_2_8, mk_2_9, mk_2_10, mk_3_m2, mk_3_0, mk_3_1, mk_3_2, mk_3_3, mk_3_4, mk_3_5, mk_4_m2, mk_4_m1, mk_5_m2, mk_5_m1, mk_11_m2, mk_11_m1, mk_42_m2, mk_42_m1, mk_73_m2, mk_73_0, mk_73_1, mk_73_2, mk_74_m2, mk_74_m1, mk_572_m2, mk_572_m1, mk_715_m2, mk_715_m1, mk_717_m2, mk_717_m1, mk_718_m2, mk_718_m1, mk_716_m2, mk_716_0, mk_716_1, mk_716_2, mk_716_3, mk_716_4, mk_719_m2, mk_74_at, mk_572_at, mk_715_at, mk_717_at, mk_718_at, mk_4_at, mk_5_at, mk_11_at, mk_42_at, mk_O_k, mk_O_0, mk_O_1, mk_O_2, mk_O_3, mk_L_k, mk_L_0, mk_L_1, mk_L_2, mk_L_3, mk_L_4, mk_L_5, mk_L_6, mk_L_7, mk_L_8, mk_L_9, mk_L_10, mk_X_k, mk_X_0, mk_X_1, mk_X_2, mk_X_3, mk_X_4, mk_75_k, mk_573_k, r_1_6, r_73_1, r_73_2, r_716_1, r_716_2, r_716_3, r_715, r_717, r_718, s_O0, s_O1, s_O2, s_O3, s_L0, s_L1, s_L2, s_L3, s_L4, s_L5, s_L6, s_L7, s_L8, s_L9, s_L10, s_X0, s_X1, s_X2, s_X3, s_X4, s_2_4, s_2_5, s_2_6, s_2_7, s_2_8, s_2_9, s_2_10, s_3_1, s_3_2, s_3_3, s_3_4, s_3_5, s_4]
    · refine ⟨w, c, a, x2, x4, y, bc, bs, ?_, zST_mono S (by omega), F, by omega, by omega⟩
      simp only [to_bz, to_nz, to_cz, to_iz]
      simp (disch := omega) only [ex, ey, lq, bz_t, nz_t, cz_T, cz_t, iz_T, iz_F, iz_y, iz_n, not_true_eq_false, not_false_eq_true, true_and, and_true, w32_e, w64_e, mset_e, mset_n, up_e, up_n, if_y, if_n, Int.add_zero, mk_1_m2, mk_1_0, mk_1_1, mk_1_2, mk_1_3, mk_1_4, mk_1_5, mk_1_6, mk_2_m2, mk_2_0, mk_2_1, mk_2_2, mk_2_3, mk_2_4, mk_2_5, mk_2_6, mk_2_7, mk_2_8, mk_2_9, mk_2_10, mk_3_m2, mk_3_0, mk_3_1, mk_3_2, mk_3_3, mk_3_4, mk_3_5, mk_4_m2, mk_4_m1, mk_5_m2, mk_5_m1, mk_11_m2, mk_11_m1, mk_42_m2, mk_42_m1, mk_73_m2, mk_73_0, mk_73_1, mk_73_2, mk_74_m2, mk_74_m1, mk_572_m2, mk_572_m1, mk_715_m2, mk_715_m1, mk_717_m2, mk_717_m1, mk_718_m2, mk_718_m1, mk_716_m2, mk_716_0, mk_716_1, mk_716_2, mk_716_3, mk_716_4, mk_719_m2, mk_74_at, mk_572_at, mk_715_at, mk_717_at, mk_718_at, mk_4_at, mk_5_at, mk_11_at, mk_42_at, mk_O_k, mk_O_0, mk_O_1, mk_O_2, mk_O_3, mk_L_k, mk_L_0, mk_L_1, mk_L_2, mk_L_3, mk_L_4, mk_L_5, mk_L_6, mk_L_7, mk_L_8, mk_L_9, mk_L_10, mk_X_k, mk_X_0, mk_X_1, mk_X_2, mk_X_3, mk_X_4, mk_75_k, mk_573_k, r_1_6, r_73_1, r_73_2, r_716_1, r_716_2, r_716_3, r_715, r_717, r_718, s_O0, s_O1, s_O2, s_O3, s_L0, s_L1, s_L2, s_L3, s_L4, s_L5, s_L6, s_L7, s_L8, s_L9, s_L10, s_X0, s_X1, s_X2, s_X3, s_X4, s_2_4, s_2_5, s_2_6, s_2_7, s_2_8, s_2_9, s_2_10, s_3_1, s_3_2, s_3_3, s_3_4, s_3_5, s_4]
theorem l_law102 (hN : 5000 ≤ N) (n : Nat) : ∀ (e : Nat) (w : Int → Int) (c : Int → Int → Int) (a : Mm) (x2 x4 bc bs : Int), e ≤ 40 → 40 < n + e → zST (5 * (e : Int)) w c a → FI x2 x4 c a → 310 * (40 - (e : Int)) ≤ bc ∧ 62000 * (40 - (e : Int)) ≤ bs →
    ∃ μ', f_L_law_b102 sc sl N n 1 x2 x4 e bc bs (mk w c m a) = some (1, μ') := by
  induction n with
  | zero => intro e w c a x2 x4 bc bs h1 h2; omega
  | succ n ih =>
    intro e w c a x2 x4 bc bs h1 h2 S F hb
    by_cases q : e = 40
    · subst q
      refine ⟨mk w c m a, ?_⟩
      rw [f_L_law_b102]
      simp only [to_bz, to_nz, to_cz, to_iz]
      simp (disch := omega) only [bz_t, nz_t, cz_T, cz_t, iz_T, iz_F, iz_y, iz_n, not_true_eq_false, not_false_eq_true, true_and, and_true, w32_e, w64_e, mset_e, mset_n, up_e, up_n, if_y, if_n, Int.add_zero, mk_1_m2, mk_1_0, mk_1_1, mk_1_2, mk_1_3, mk_1_4, mk_1_5, mk_1_6, mk_2_m2, mk_2_0, mk_2_1, mk_2_2, mk_2_3, mk_2_4, mk_2_5, mk_2_6, mk_2_7, mk_2_8, mk_2_9, mk_2_10, mk_3_m2, mk_3_0, mk_3_1, mk_3_2, mk_3_3, mk_3_4, mk_3_5, mk_4_m2, mk_4_m1, mk_5_m2, mk_5_m1, mk_11_m2, mk_11_m1, mk_42_m2, mk_42_m1, mk_73_m2, mk_73_0, mk_73_1, mk_73_2, mk_74_m2, mk_74_m1, mk_572_m2, mk_572_m1, mk_715_m2, mk_715_m1, mk_717_m2, mk_717_m1, mk_718_m2, mk_718_m1, mk_716_m2, mk_716_0, mk_716_1, mk_716_2, mk_716_3, mk_716_4, mk_719_m2, mk_74_at, mk_572_at, mk_715_at, mk_717_at, mk_718_at, mk_4_at, mk_5_at, mk_11_at, mk_42_at, mk_O_k, mk_O_0, mk_O_1, mk_O_2, mk_O_3, mk_L_k, mk_L_0, mk_L_1, mk_L_2, mk_L_3, mk_L_4, mk_L_5, mk_L_6, mk_L_7, mk_L_8, mk_L_9, mk_L_10, mk_X_k, mk_X_0, mk_X_1, mk_X_2, mk_X_3, mk_X_4, mk_75_k, mk_573_k, r_1_6, r_73_1, r_73_2, r_716_1, r_716_2, r_716_3, r_715, r_717, r_718, s_O0, s_O1, s_O2, s_O3, s_L0, s_L1, s_L2, s_L3, s_L4, s_L5, s_L6, s_L7, s_L8, s_L9, s_L10, s_X0, s_X1, s_X2, s_X3, s_X4, s_2_4, s_2_5, s_2_6, s_2_7, s_2_8, s_2_9, s_2_10, s_3_1, s_3_2, s_3_3, s_3_4, s_3_5, s_4]
    · obtain ⟨w1, c1, a1, y2, y4, h, bc1, bs1, e1, S1, F1, b1, b2⟩ := l_step (N := N) m hN S (by omega) (x2 := x2) (x4 := x4) (bc := bc) (bs := bs) e n (by omega) (by omega) F (sc := sc) (sl := sl)
      obtain ⟨c2, a2, bc2, bs2, e2, S2, r1, r2, b3, b4⟩ := l_law579 (N := N) m hN S1 (by omega) (f_L_law_b102 sc sl N n) (x2 := y2) (x4 := y4) (e := e) (h := h) (bc := bc1) (bs := bs1) (by omega) (by omega) (sc := sc) (sl := sl)
      have F2 : FI y2 y4 c2 a2 := by unfold FI at *; rw [r1, r2]; exact F1
      obtain ⟨μ', e3⟩ := ih (e + 1) w1 c2 a2 y2 y4 bc2 bs2 (by omega) (by omega) (by rw [nc1, show 5 * ((e : Int) + 1) = 5 * (e : Int) + 4 + 1 by omega]; exact S2) F2 (by rw [nc1]; omega)
      rw [nc1] at e3
      exact ⟨μ', e1.trans (e2.trans e3)⟩
end LAWP
