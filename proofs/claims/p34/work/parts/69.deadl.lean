/-! the law's check of deadlines -/
/-- the least deadline of the first k lots, then exports -/
def mL (w : Int → Int) : Nat → Int
  | 0 => 1000000
  | k + 1 => if 0 < un w k ∧ w (40 + 11 * (k : Int) + 5) < mL w k then w (40 + 11 * (k : Int) + 5) else mL w k
def mX (w : Int → Int) (z : Int) : Nat → Int
  | 0 => z
  | k + 1 => if w (370 + 5 * (k : Int) + 4) = 0 ∧ w (370 + 5 * (k : Int) + 3) < mX w z k then w (370 + 5 * (k : Int) + 3) else mX w z k
def ndP (w : Int → Int) (z : Int × Int) (x : Int) (j : Int) : Prop :=
  (z.1 = -100000005 ∧ z.2 = w 0 + 1001 ∧ x = 1000000) ∨ ((0 ≤ z.1 ∧ z.1 < w 2) ∧ w (40 + 11 * z.1 + 5) = z.2 ∧ x = z.2 ∧ z.2 ≤ w 0 + 1000 ∧ 0 ≤ z.2) ∨ ((100 ≤ z.1 ∧ z.1 < 100 + j) ∧ w (370 + 5 * (z.1 - 100) + 3) = z.2 ∧ x = z.2 ∧ z.2 ≤ w 0 + 1000 ∧ 0 ≤ z.2)
section DEADL
variable {N : Nat} {c : Int → Int → Int} (m : Int → Int) {a : Mm} {w : Int → Int} {K : Int}
theorem nd_L (I : IA K w) (hK : K ≤ 9000) : ∀ k : Nat, (k : Int) ≤ w 2 → ndP w (ndL w k) (mL w k) 0 := by
  have g := I.hd; unfold HEAD at g
  intro k
  induction k with
  | zero => intro _; left; exact ⟨rfl, rfl, rfl⟩
  | succ k ih =>
    intro h
    have i := ih (by omega)
    have x := I.lot (l := (k : Int)) (by omega); unfold LOT at x
    unfold ndL mL
    unfold ndP at *
    generalize ndL w k = z at *
    generalize mL w k = y at *
    by_cases q : 0 < un w k
    · rcases i with ⟨i1, i2, i3⟩ | ⟨i1, i2, i3, i4, i5⟩ | ⟨i1, -⟩
      · rw [if_pos ⟨q, by omega⟩, if_pos ⟨q, by omega⟩]
        right; left
        exact ⟨⟨by show (0 : Int) ≤ k; omega, by show (k : Int) < w 2; omega⟩, rfl, rfl, by show w (40 + 11 * (k : Int) + 5) ≤ _; omega, by show 0 ≤ w (40 + 11 * (k : Int) + 5); omega⟩
      · rw [i3]
        by_cases q2 : w (40 + 11 * (k : Int) + 5) < z.2
        · rw [if_pos ⟨q, q2⟩, if_pos ⟨q, q2⟩]
          right; left
          exact ⟨⟨by show (0 : Int) ≤ k; omega, by show (k : Int) < w 2; omega⟩, rfl, rfl, by show w (40 + 11 * (k : Int) + 5) ≤ _; omega, by show 0 ≤ w (40 + 11 * (k : Int) + 5); omega⟩
        · rw [if_neg (fun h => q2 h.2), if_neg (fun h => q2 h.2)]
          right; left
          exact ⟨i1, i2, rfl, i4, i5⟩
      · omega
    · rw [if_neg (fun h => q h.1), if_neg (fun h => q h.1)]
      exact i
theorem nd_X (I : IA K w) (hK : K ≤ 9000) {z : Int × Int} {y : Int} (hz : ndP w z y 0) : ∀ k : Nat, (k : Int) ≤ w 3 → ndP w (ndX w z k) (mX w y k) k := by
  have g := I.hd; unfold HEAD at g
  intro k
  induction k with
  | zero => intro _; exact hz
  | succ k ih =>
    intro h
    have i := ih (by omega)
    have x := I.xp (e := (k : Int)) (by omega); unfold EXP at x
    unfold ndX mX
    unfold ndP at *
    generalize ndX w z k = z at *
    generalize mX w y k = y at *
    rw [nc1]
    by_cases q : w (370 + 5 * (k : Int) + 4) = 0
    · by_cases q2 : w (370 + 5 * (k : Int) + 3) < z.2
      · rw [if_pos ⟨q, q2⟩, if_pos ⟨q, by rcases i with ⟨i1, i2, i3⟩ | ⟨i1, i2, i3, i4, i5⟩ | ⟨i1, i2, i3, i4, i5⟩ <;> omega⟩]
        right; right
        refine ⟨⟨by show (100 : Int) ≤ 100 + k; omega, by show 100 + (k : Int) < 100 + (k + 1); omega⟩, ?_, rfl, by show w (370 + 5 * (k : Int) + 3) ≤ _; omega, by show 0 ≤ w (370 + 5 * (k : Int) + 3); omega⟩
        show w (370 + 5 * (100 + (k : Int) - 100) + 3) = w (370 + 5 * (k : Int) + 3)
        rw [show 100 + (k : Int) - 100 = k by omega]
      · rcases i with ⟨i1, i2, i3⟩ | ⟨i1, i2, i3, i4, i5⟩ | ⟨i1, i2, i3, i4, i5⟩
        · omega
        · rw [if_neg (fun h => q2 h.2), if_neg (fun h => by omega)]
          right; left
          exact ⟨i1, i2, i3, i4, i5⟩
        · rw [if_neg (fun h => q2 h.2), if_neg (fun h => by omega)]
          right; right
          exact ⟨⟨i1.1, by omega⟩, i2, i3, i4, i5⟩
    · rw [if_neg (fun h => q h.1), if_neg (fun h => q h.1)]
      rcases i with i | i | ⟨i1, i⟩
      · left; exact i
      · right; left; exact i
      · right; right; exact ⟨⟨i1.1, by omega⟩, i⟩
theorem mL_le : ∀ k : Nat, ∀ l : Nat, l < k → 0 < un w l → mL w k ≤ w (40 + 11 * (l : Int) + 5) := by
  intro k
  induction k with
  | zero => intro l h; omega
  | succ k ih =>
    intro l h q
    unfold mL
    by_cases e : l = k
    · subst e
      by_cases q2 : w (40 + 11 * (l : Int) + 5) < mL w l
      · rw [if_pos ⟨q, q2⟩]; omega
      · rw [if_neg (fun h => q2 h.2)]; omega
    · have i := ih l (by omega) q
      split <;> omega
theorem mX_le (z : Int) : ∀ k : Nat, mX w z k ≤ z ∧ ∀ l : Nat, l < k → w (370 + 5 * (l : Int) + 4) = 0 → mX w z k ≤ w (370 + 5 * (l : Int) + 3) := by
  intro k
  induction k with
  | zero => exact ⟨Int.le_refl _, fun l h => by omega⟩
  | succ k ih =>
    unfold mX
    refine ⟨by split <;> omega, fun l h q => ?_⟩
    by_cases e : l = k
    · subst e
      by_cases q2 : w (370 + 5 * (l : Int) + 3) < mX w z l
      · rw [if_pos ⟨q, q2⟩]; omega
      · rw [if_neg (fun h => q2 h.2)]; omega
    · have i := ih.2 l (by omega) q
      split <;> omega
/-- nothing is called before the least deadline is past -/
theorem pS_0 (I : IA K w) {d : Int} (h : w 0 + d ≤ mX w (mL w (w 2).toNat) (w 3).toNat) : pS w d = 0 := by
  have g := I.hd; unfold HEAD at g
  have b := mX_le (w := w) (mL w (w 2).toNat) (w 3).toNat
  have e1 : sm (tX w (fun _ => w 0 + d)) (w 3).toNat = 0 := by
    refine sm_0 (fun i hi => tX_n (fun z => ?_))
    have q := b.2 i.toNat (by omega) (by rw [show ((i.toNat : Nat) : Int) = i by omega]; exact z.1)
    rw [show ((i.toNat : Nat) : Int) = i by omega] at q
    omega
  have e2 : sm (tL w (fun _ => w 0 + d)) (w 2).toNat = 0 := by
    refine sm_0 (fun i hi => tL_n (fun z => ?_))
    have q := mL_le (w := w) (w 2).toNat i.toNat (by omega) (by rw [show ((i.toNat : Nat) : Int) = i by omega]; exact z.1)
    rw [show ((i.toNat : Nat) : Int) = i by omega] at q
    omega
  show sm (tX w (fun _ => w 0 + d)) (w 3).toNat + sm (tL w (fun _ => w 0 + d)) (w 2).toNat = 0
  rw [e1, e2]; rfl
/-- one check of the law that leaves what is seen -/
def kO (K K' : Int) (r : Rs) (w : Int → Int) (c : Int → Int → Int) (m : Int → Int) (a : Mm) : Prop := ∃ c' a', r = some (1, mk w c' m a') ∧ zST K' w c' a' ∧ c' 9 = c 9 ∧ a' 715 1 = a 715 1
theorem kO_i (S : zST K w c a) : kO K K (some (1, mk w c m a)) w c m a := ⟨c, a, rfl, S, rfl, rfl⟩
theorem apA_7 : apA a 715 1 = a 715 1 := by unfold apA; split <;> exact mset_n (by omega)
/-- an act, undone -/
theorem zST_back {u : Int → Int} (hN : 5000 ≤ N) (S : zST K w c a) (hK : K + 1 ≤ 60000) (J : JV (K + 1) u) {A : Mm} (f : zF a A) (e1 : A 73 1 = apA a 73 1) (e2 : A 73 2 = apA a 73 2) (R : zR A) : ∃ s, 0 ≤ s ∧ s ≤ 5 ∧ apA a 73 2 = s + 1 ∧ f_X7_undo N 1 (mk u (uc c ((a 73 1 + a 73 2) % 7 + 1) w) m A) = some (s, mk w (uc c ((a 73 1 + a 73 2) % 7 + 1) w) m (mset A 73 2 s)) ∧
    zST (K + 1) w (uc c ((a 73 1 + a 73 2) % 7 + 1) w) (mset A 73 2 s) := by
  have h1 := S.2.1.1
  have h2 := S.2.1.2.1
  have S' := zST_act S (show K ≤ K + 1 ∧ K + 1 ≤ 60000 by omega) J f e1 e2 R
  rcases apA_73 h1 h2 with ⟨g1, g2, g3⟩ | ⟨g1, g2, g3⟩
  · have x := x_undo (N := N) m hN S' (s := 5) (by omega) (by omega)
    have y := zST_undo S' (s := 5) (by omega) (by omega)
    rw [e1, g2, show ((a 73 1 + 1) % 7 + 5) % 7 + 1 = (a 73 1 + a 73 2) % 7 + 1 by omega, uc_e] at x y
    exact ⟨5, by omega, by omega, by omega, x, y⟩
  · have x := x_undo (N := N) m hN S' (s := a 73 2) (by omega) (by omega)
    have y := zST_undo S' (s := a 73 2) (by omega) (by omega)
    rw [e1, g2, uc_e] at x y
    exact ⟨a 73 2, by omega, by omega, by omega, x, y⟩
theorem back_ok {u : Int → Int} (hN : 5000 ≤ N) (S : zST K w c a) (hK : K + 1 ≤ 60000) (J : JV (K + 1) u) : ∃ s, 0 ≤ s ∧ s ≤ 5 ∧ apA a 73 2 = s + 1 ∧ f_X7_undo N 1 (mk u (uc c ((a 73 1 + a 73 2) % 7 + 1) w) m (apA a)) = some (s, mk w (uc c ((a 73 1 + a 73 2) % 7 + 1) w) m (mset (apA a) 73 2 s)) ∧
    zST (K + 1) w (uc c ((a 73 1 + a 73 2) % 7 + 1) w) (mset (apA a) 73 2 s) :=
  zST_back m hN S hK J zF_ap rfl rfl (by have r := S.2.2.2.1; unfold zR at *; rw [apA_16]; exact r)
theorem l_dl244 (hN : 5000 ≤ N) (S : zST K w c a) (hK : K + 1 ≤ 60000) {x d : Int} (hd : 1 ≤ d ∧ d ≤ 100) : kO K (K + 1) (f_L_deadlines_b244 N 1 x d (pS w d) (mk w c m a)) w c m a := by
  have hk := zST_K S
  unfold f_L_deadlines_b244
  by_cases q : o_and (o_shr x 8) 3 = 0
  · have dg := q_digest (N := N) (c := c) m (a := a) hN S.1.1.1
    have ps := x_pass (N := N) m hN S hd
    obtain ⟨s, s1, s2, s3, s4, s5⟩ := back_ok (N := N) m hN S hK (JV_pass S.1 hK hd)
    have dg2 := q_digest (N := N) (c := uc c ((a 73 1 + a 73 2) % 7 + 1) w) m (a := mset (apA a) 73 2 s) hN S.1.1.1
    refine ⟨uc c ((a 73 1 + a 73 2) % 7 + 1) w, mset (apA a) 73 2 s, ?_, s5, uc_9 w (by have h1 := S.2.1.1; have h2 := S.2.1.2.1; omega), by rw [mset_n (by omega)]; exact apA_7⟩
    simp only [to_bz, to_nz, to_cz, to_iz]
    simp (disch := omega) only [q, dg, ps, s4, dg2, bz_t, nz_t, cz_T, cz_t, iz_T, iz_F, iz_y, iz_n, not_true_eq_false, not_false_eq_true, true_and, and_true, w32_e, w64_e, mset_e, mset_n, up_e, up_n, if_y, if_n, Int.add_zero, mk_1_m2, mk_1_0, mk_1_1, mk_1_2, mk_1_3, mk_1_4, mk_1_5, mk_1_6, mk_2_m2, mk_2_0, mk_2_1, mk_2_2, mk_2_3, mk_2_4, mk_2_5, mk_2_6, mk_2_7, mk_2_8, mk_2_9, mk_2_10, mk_3_m2, mk_3_0, mk_3_1, mk_3_2, mk_3_3, mk_3_4, mk_3_5, mk_4_m2, mk_4_m1, mk_5_m2, mk_5_m1, mk_11_m2, mk_11_m1, mk_42_m2, mk_42_m1, mk_73_m2, mk_73_0, mk_73_1, mk_73_2, mk_74_m2, mk_74_m1, mk_572_m2, mk_572_m1, mk_715_m2, mk_715_m1, mk_717_m2, mk_717_m1, mk_718_m2, mk_718_m1, mk_716_m2, mk_716_0, mk_716_1, mk_716_2, mk_716_3, mk_716_4, mk_719_m2, mk_74_at, mk_572_at, mk_715_at, mk_717_at, mk_718_at, mk_4_at, mk_5_at, mk_11_at, mk_42_at, mk_O_k, mk_O_0, mk_O_1, mk_O_2, mk_O_3, mk_L_k, mk_L_0, mk_L_1, mk_L_2, mk_L_3, mk_L_4, mk_L_5, mk_L_6, mk_L_7, mk_L_8, mk_L_9, mk_L_10, mk_X_k, mk_X_0, mk_X_1, mk_X_2, mk_X_3, mk_X_4, mk_75_k, mk_573_k, r_1_6, r_73_1, r_73_2, r_716_1, r_716_2, r_716_3, r_715, r_717, r_718, s_O0, s_O1, s_O2, s_O3, s_L0, s_L1, s_L2, s_L3, s_L4, s_L5, s_L6, s_L7, s_L8, s_L9, s_L10, s_X0, s_X1, s_X2, s_X3, s_X4, s_2_4, s_2_5, s_2_6, s_2_7, s_2_8, s_2_9, s_2_10, s_3_1, s_3_2, s_3_3, s_3_4, s_3_5, s_4]
  · refine ⟨c, a, ?_, zST_mono S (by omega), rfl, rfl⟩
    simp only [to_bz, to_nz, to_cz, to_iz]
    simp (disch := omega) only [q, bz_t, nz_t, cz_T, cz_t, iz_T, iz_F, iz_y, iz_n, not_true_eq_false, not_false_eq_true, true_and, and_true, w32_e, w64_e, mset_e, mset_n, up_e, up_n, if_y, if_n, Int.add_zero, mk_1_m2, mk_1_0, mk_1_1, mk_1_2, mk_1_3, mk_1_4, mk_1_5, mk_1_6, mk_2_m2, mk_2_0, mk_2_1, mk_2_2, mk_2_3, mk_2_4, mk_2_5, mk_2_6, mk_2_7, mk_2_8, mk_2_9, mk_2_10, mk_3_m2, mk_3_0, mk_3_1, mk_3_2, mk_3_3, mk_3_4, mk_3_5, mk_4_m2, mk_4_m1, mk_5_m2, mk_5_m1, mk_11_m2, mk_11_m1, mk_42_m2, mk_42_m1, mk_73_m2, mk_73_0, mk_73_1, mk_73_2, mk_74_m2, mk_74_m1, mk_572_m2, mk_572_m1, mk_715_m2, mk_715_m1, mk_717_m2, mk_717_m1, mk_718_m2, mk_718_m1, mk_716_m2, mk_716_0, mk_716_1, mk_716_2, mk_716_3, mk_716_4, mk_719_m2, mk_74_at, mk_572_at, mk_715_at, mk_717_at, mk_718_at, mk_4_at, mk_5_at, mk_11_at, mk_42_at, mk_O_k, mk_O_0, mk_O_1, mk_O_2, mk_O_3, mk_L_k, mk_L_0, mk_L_1, mk_L_2, mk_L_3, mk_L_4, mk_L_5, mk_L_6, mk_L_7, mk_L_8, mk_L_9, mk_L_10, mk_X_k, mk_X_0, mk_X_1, mk_X_2, mk_X_3, mk_X_4, mk_75_k, mk_573_k, r_1_6, r_73_1, r_73_2, r_716_1, r_716_2, r_716_3, r_715, r_717, r_718, s_O0, s_O1, s_O2, s_O3, s_L0, s_L1, s_L2, s_L3, s_L4, s_L5, s_L6, s_L7, s_L8, s_L9, s_L10, s_X0, s_X1, s_X2, s_X3, s_X4, s_2_4, s_2_5, s_2_6, s_2_7, s_2_8, s_2_9, s_2_10, s_3_1, s_3_2, s_3_3, s_3_4, s_3_5, s_4]
theorem l_dl173 (hN : 5000 ≤ N) (S : zST K w c a) (hK : K + 1 ≤ 60000) {x z : Int} (hz : z = -100000005 → mX w (mL w (w 2).toNat) (w 3).toNat = 1000000) (hw : w 0 ≤ 900000) : kO K (K + 1) (f_L_deadlines_b173 N 1 x z (w 0) (mX w (mL w (w 2).toNat) (w 3).toNat) (mk w c m a)) w c m a := by
  have I := S.1.1.1
  have g := I.hd; unfold HEAD at g
  have lb := lw_b x (n := 100) (by omega)
  have lq := q_low (N := N) (g := x) (n := 100) (by omega)
  generalize lw x 100 = y at *
  have ci := q_calledIn (N := N) (c := c) m (a := a) hN I (d := 1 + y) (by omega)
  have c0 := q_calledIn_b (N := N) (c := c) m (a := a) (w := w) (d := 0) (by omega)
  have c1 := q_calledIn_b (N := N) (c := c) m (a := a) (w := w) (d := 101) (by omega)
  have sb := pS_b I (1 + y)
  have p0 := pS_0 I (d := 1 + y)
  have r := l_dl244 (N := N) m hN S hK (x := x) (d := 1 + y) (by omega)
  generalize mX w (mL w (w 2).toNat) (w 3).toNat = t at *
  obtain ⟨c', a', e, r2⟩ := r
  refine ⟨c', a', ?_, r2⟩
  have e2 : f_L_deadlines_b228 N 1 x (w 0) t (1 + y) (pS w (1 + y)) (mk w c m a) = some (1, mk w c' m a') := by
    unfold f_L_deadlines_b228
    by_cases q : t < w 0 + (1 + y)
    · simp only [to_bz, to_nz, to_cz, to_iz]
      simp (disch := omega) only [e, bz_t, nz_t, cz_T, cz_t, iz_T, iz_F, iz_y, iz_n, not_true_eq_false, not_false_eq_true, true_and, and_true, w32_e, w64_e, mset_e, mset_n, up_e, up_n, if_y, if_n, Int.add_zero, mk_1_m2, mk_1_0, mk_1_1, mk_1_2, mk_1_3, mk_1_4, mk_1_5, mk_1_6, mk_2_m2, mk_2_0, mk_2_1, mk_2_2, mk_2_3, mk_2_4, mk_2_5, mk_2_6, mk_2_7, mk_2_8, mk_2_9, mk_2_10, mk_3_m2, mk_3_0, mk_3_1, mk_3_2, mk_3_3, mk_3_4, mk_3_5, mk_4_m2, mk_4_m1, mk_5_m2, mk_5_m1, mk_11_m2, mk_11_m1, mk_42_m2, mk_42_m1, mk_73_m2, mk_73_0, mk_73_1, mk_73_2, mk_74_m2, mk_74_m1, mk_572_m2, mk_572_m1, mk_715_m2, mk_715_m1, mk_717_m2, mk_717_m1, mk_718_m2, mk_718_m1, mk_716_m2, mk_716_0, mk_716_1, mk_716_2, mk_716_3, mk_716_4, mk_719_m2, mk_74_at, mk_572_at, mk_715_at, mk_717_at, mk_718_at, mk_4_at, mk_5_at, mk_11_at, mk_42_at, mk_O_k, mk_O_0, mk_O_1, mk_O_2, mk_O_3, mk_L_k, mk_L_0, mk_L_1, mk_L_2, mk_L_3, mk_L_4, mk_L_5, mk_L_6, mk_L_7, mk_L_8, mk_L_9, mk_L_10, mk_X_k, mk_X_0, mk_X_1, mk_X_2, mk_X_3, mk_X_4, mk_75_k, mk_573_k, r_1_6, r_73_1, r_73_2, r_716_1, r_716_2, r_716_3, r_715, r_717, r_718, s_O0, s_O1, s_O2, s_O3, s_L0, s_L1, s_L2, s_L3, s_L4, s_L5, s_L6, s_L7, s_L8, s_L9, s_L10, s_X0, s_X1, s_X2, s_X3, s_X4, s_2_4, s_2_5, s_2_6, s_2_7, s_2_8, s_2_9, s_2_10, s_3_1, s_3_2, s_3_3, s_3_4, s_3_5, s_4]
    · have p1 := p0 (by omega)
      simp only [to_bz, to_nz, to_cz, to_iz]
      simp (disch := omega) only [e, bz_t, nz_t, cz_T, cz_t, iz_T, iz_F, iz_y, iz_n, not_true_eq_false, not_false_eq_true, true_and, and_true, w32_e, w64_e, mset_e, mset_n, up_e, up_n, if_y, if_n, Int.add_zero, mk_1_m2, mk_1_0, mk_1_1, mk_1_2, mk_1_3, mk_1_4, mk_1_5, mk_1_6, mk_2_m2, mk_2_0, mk_2_1, mk_2_2, mk_2_3, mk_2_4, mk_2_5, mk_2_6, mk_2_7, mk_2_8, mk_2_9, mk_2_10, mk_3_m2, mk_3_0, mk_3_1, mk_3_2, mk_3_3, mk_3_4, mk_3_5, mk_4_m2, mk_4_m1, mk_5_m2, mk_5_m1, mk_11_m2, mk_11_m1, mk_42_m2, mk_42_m1, mk_73_m2, mk_73_0, mk_73_1, mk_73_2, mk_74_m2, mk_74_m1, mk_572_m2, mk_572_m1, mk_715_m2, mk_715_m1, mk_717_m2, mk_717_m1, mk_718_m2, mk_718_m1, mk_716_m2, mk_716_0, mk_716_1, mk_716_2, mk_716_3, mk_716_4, mk_719_m2, mk_74_at, mk_572_at, mk_715_at, mk_717_at, mk_718_at, mk_4_at, mk_5_at, mk_11_at, mk_42_at, mk_O_k, mk_O_0, mk_O_1, mk_O_2, mk_O_3, mk_L_k, mk_L_0, mk_L_1, mk_L_2, mk_L_3, mk_L_4, mk_L_5, mk_L_6, mk_L_7, mk_L_8, mk_L_9, mk_L_10, mk_X_k, mk_X_0, mk_X_1, mk_X_2, mk_X_3, mk_X_4, mk_75_k, mk_573_k, r_1_6, r_73_1, r_73_2, r_716_1, r_716_2, r_716_3, r_715, r_717, r_718, s_O0, s_O1, s_O2, s_O3, s_L0, s_L1, s_L2, s_L3, s_L4, s_L5, s_L6, s_L7, s_L8, s_L9, s_L10, s_X0, s_X1, s_X2, s_X3, s_X4, s_2_4, s_2_5, s_2_6, s_2_7, s_2_8, s_2_9, s_2_10, s_3_1, s_3_2, s_3_3, s_3_4, s_3_5, s_4]
  unfold f_L_deadlines_b173
  by_cases q : z = -100000005
  · have t1 := hz q
    have p1 := p0 (by omega)
    simp only [to_bz, to_nz, to_cz, to_iz]
    simp (disch := omega) only [lq, ci, c0, c1, e2, bz_t, nz_t, cz_T, cz_t, iz_T, iz_F, iz_y, iz_n, not_true_eq_false, not_false_eq_true, true_and, and_true, w32_e, w64_e, mset_e, mset_n, up_e, up_n, if_y, if_n, Int.add_zero, mk_1_m2, mk_1_0, mk_1_1, mk_1_2, mk_1_3, mk_1_4, mk_1_5, mk_1_6, mk_2_m2, mk_2_0, mk_2_1, mk_2_2, mk_2_3, mk_2_4, mk_2_5, mk_2_6, mk_2_7, mk_2_8, mk_2_9, mk_2_10, mk_3_m2, mk_3_0, mk_3_1, mk_3_2, mk_3_3, mk_3_4, mk_3_5, mk_4_m2, mk_4_m1, mk_5_m2, mk_5_m1, mk_11_m2, mk_11_m1, mk_42_m2, mk_42_m1, mk_73_m2, mk_73_0, mk_73_1, mk_73_2, mk_74_m2, mk_74_m1, mk_572_m2, mk_572_m1, mk_715_m2, mk_715_m1, mk_717_m2, mk_717_m1, mk_718_m2, mk_718_m1, mk_716_m2, mk_716_0, mk_716_1, mk_716_2, mk_716_3, mk_716_4, mk_719_m2, mk_74_at, mk_572_at, mk_715_at, mk_717_at, mk_718_at, mk_4_at, mk_5_at, mk_11_at, mk_42_at, mk_O_k, mk_O_0, mk_O_1, mk_O_2, mk_O_3, mk_L_k, mk_L_0, mk_L_1, mk_L_2, mk_L_3, mk_L_4, mk_L_5, mk_L_6, mk_L_7, mk_L_8, mk_L_9, mk_L_10, mk_X_k, mk_X_0, mk_X_1, mk_X_2, mk_X_3, mk_X_4, mk_75_k, mk_573_k, r_1_6, r_73_1, r_73_2, r_716_1, r_716_2, r_716_3, r_715, r_717, r_718, s_O0, s_O1, s_O2, s_O3, s_L0, s_L1, s_L2, s_L3, s_L4, s_L5, s_L6, s_L7, s_L8, s_L9, s_L10, s_X0, s_X1, s_X2, s_X3, s_X4, s_2_4, s_2_5, s_2_6, s_2_7, s_2_8, s_2_9, s_2_10, s_3_1, s_3_2, s_3_3, s_3_4, s_3_5, s_4]
  · simp only [to_bz, to_nz, to_cz, to_iz]
    simp (disch := omega) only [lq, ci, c0, c1, e2, bz_t, nz_t, cz_T, cz_t, iz_T, iz_F, iz_y, iz_n, not_true_eq_false, not_false_eq_true, true_and, and_true, w32_e, w64_e, mset_e, mset_n, up_e, up_n, if_y, if_n, Int.add_zero, mk_1_m2, mk_1_0, mk_1_1, mk_1_2, mk_1_3, mk_1_4, mk_1_5, mk_1_6, mk_2_m2, mk_2_0, mk_2_1, mk_2_2, mk_2_3, mk_2_4, mk_2_5, mk_2_6, mk_2_7, mk_2_8, mk_2_9, mk_2_10, mk_3_m2, mk_3_0, mk_3_1, mk_3_2, mk_3_3, mk_3_4, mk_3_5, mk_4_m2, mk_4_m1, mk_5_m2, mk_5_m1, mk_11_m2, mk_11_m1, mk_42_m2, mk_42_m1, mk_73_m2, mk_73_0, mk_73_1, mk_73_2, mk_74_m2, mk_74_m1, mk_572_m2, mk_572_m1, mk_715_m2, mk_715_m1, mk_717_m2, mk_717_m1, mk_718_m2, mk_718_m1, mk_716_m2, mk_716_0, mk_716_1, mk_716_2, mk_716_3, mk_716_4, mk_719_m2, mk_74_at, mk_572_at, mk_715_at, mk_717_at, mk_718_at, mk_4_at, mk_5_at, mk_11_at, mk_42_at, mk_O_k, mk_O_0, mk_O_1, mk_O_2, mk_O_3, mk_L_k, mk_L_0, mk_L_1, mk_L_2, mk_L_3, mk_L_4, mk_L_5, mk_L_6, mk_L_7, mk_L_8, mk_L_9, mk_L_10, mk_X_k, mk_X_0, mk_X_1, mk_X_2, mk_X_3, mk_X_4, mk_75_k, mk_573_k, r_1_6, r_73_1, r_73_2, r_716_1, r_716_2, r_716_3, r_715, r_717, r_718, s_O0, s_O1, s_O2, s_O3, s_L0, s_L1, s_L2, s_L3, s_L4, s_L5, s_L6, s_L7, s_L8, s_L9, s_L10, s_X0, s_X1, s_X2, s_X3, s_X4, s_2_4, s_2_5, s_2_6, s_2_7, s_2_8, s_2_9, s_2_10, s_3_1, s_3_2, s_3_3, s_3_4, s_3_5, s_4]
theorem l_dl74 (hN : 5000 ≤ N) (S : zST K w c a) (hK : K ≤ 9000) {x z y0 : Int} {cn : Nat} (hc : w 3 = cn) (h0 : R32 y0) (R : Rs)
    (H : ∀ n : Nat, f_L_deadlines_b74 N (n + 1) 1 x z (w 0) (mX w y0 cn) cn (mk w c m a) = R) (n : Nat) : ∀ k : Nat, k ≤ cn → cn < n + k →
    f_L_deadlines_b74 N n 1 x z (w 0) (mX w y0 k) k (mk w c m a) = R := by
  have I := S.1.1.1
  have g := I.hd; unfold HEAD at g
  induction n with
  | zero => intro k h1 h2; omega
  | succ n ih =>
    intro k h1 h2
    by_cases e : k = cn
    · subst e
      exact H n
    · have r := ih (k + 1) (by omega) (by omega)
      have hk : 0 ≤ (k : Int) ∧ (k : Int) < w 3 := by omega
      have x := I.xp hk; unfold EXP at x
      have c3 := q_count_3 (N := N) (c := c) m (a := a) I
      have e3 := q_exported_3 (N := N) (c := c) m (a := a) I hk
      have e4 := q_exported_4 (N := N) (c := c) m (a := a) I hk
      unfold mX at r
      rw [nc1] at r
      generalize mX w y0 k = t at *
      rw [f_L_deadlines_b74]
      by_cases q : w (370 + 5 * (k : Int) + 4) = 0
      · by_cases q2 : w (370 + 5 * (k : Int) + 3) < t
        · rw [if_pos ⟨q, q2⟩] at r
          simp only [to_bz, to_nz, to_cz, to_iz]
          simp (disch := omega) only [c3, e3, e4, bz_t, nz_t, cz_T, cz_t, iz_T, iz_F, iz_y, iz_n, not_true_eq_false, not_false_eq_true, true_and, and_true, w32_e, w64_e, mset_e, mset_n, up_e, up_n, if_y, if_n, Int.add_zero, mk_1_m2, mk_1_0, mk_1_1, mk_1_2, mk_1_3, mk_1_4, mk_1_5, mk_1_6, mk_2_m2, mk_2_0, mk_2_1, mk_2_2, mk_2_3, mk_2_4, mk_2_5, mk_2_6, mk_2_7, mk_2_8, mk_2_9, mk_2_10, mk_3_m2, mk_3_0, mk_3_1, mk_3_2, mk_3_3, mk_3_4, mk_3_5, mk_4_m2, mk_4_m1, mk_5_m2, mk_5_m1, mk_11_m2, mk_11_m1, mk_42_m2, mk_42_m1, mk_73_m2, mk_73_0, mk_73_1, mk_73_2, mk_74_m2, mk_74_m1, mk_572_m2, mk_572_m1, mk_715_m2, mk_715_m1, mk_717_m2, mk_717_m1, mk_718_m2, mk_718_m1, mk_716_m2, mk_716_0, mk_716_1, mk_716_2, mk_716_3, mk_716_4, mk_719_m2, mk_74_at, mk_572_at, mk_715_at, mk_717_at, mk_718_at, mk_4_at, mk_5_at, mk_11_at, mk_42_at, mk_O_k, mk_O_0, mk_O_1, mk_O_2, mk_O_3, mk_L_k, mk_L_0, mk_L_1, mk_L_2, mk_L_3, mk_L_4, mk_L_5, mk_L_6, mk_L_7, mk_L_8, mk_L_9, mk_L_10, mk_X_k, mk_X_0, mk_X_1, mk_X_2, mk_X_3, mk_X_4, mk_75_k, mk_573_k, r_1_6, r_73_1, r_73_2, r_716_1, r_716_2, r_716_3, r_715, r_717, r_718, s_O0, s_O1, s_O2, s_O3, s_L0, s_L1, s_L2, s_L3, s_L4, s_L5, s_L6, s_L7, s_L8, s_L9, s_L10, s_X0, s_X1, s_X2, s_X3, s_X4, s_2_4, s_2_5, s_2_6, s_2_7, s_2_8, s_2_9, s_2_10, s_3_1, s_3_2, s_3_3, s_3_4, s_3_5, s_4]
          exact r
        · rw [if_neg (fun h => q2 h.2)] at r
          simp only [to_bz, to_nz, to_cz, to_iz]
          simp (disch := omega) only [c3, e3, e4, bz_t, nz_t, cz_T, cz_t, iz_T, iz_F, iz_y, iz_n, not_true_eq_false, not_false_eq_true, true_and, and_true, w32_e, w64_e, mset_e, mset_n, up_e, up_n, if_y, if_n, Int.add_zero, mk_1_m2, mk_1_0, mk_1_1, mk_1_2, mk_1_3, mk_1_4, mk_1_5, mk_1_6, mk_2_m2, mk_2_0, mk_2_1, mk_2_2, mk_2_3, mk_2_4, mk_2_5, mk_2_6, mk_2_7, mk_2_8, mk_2_9, mk_2_10, mk_3_m2, mk_3_0, mk_3_1, mk_3_2, mk_3_3, mk_3_4, mk_3_5, mk_4_m2, mk_4_m1, mk_5_m2, mk_5_m1, mk_11_m2, mk_11_m1, mk_42_m2, mk_42_m1, mk_73_m2, mk_73_0, mk_73_1, mk_73_2, mk_74_m2, mk_74_m1, mk_572_m2, mk_572_m1, mk_715_m2, mk_715_m1, mk_717_m2, mk_717_m1, mk_718_m2, mk_718_m1, mk_716_m2, mk_716_0, mk_716_1, mk_716_2, mk_716_3, mk_716_4, mk_719_m2, mk_74_at, mk_572_at, mk_715_at, mk_717_at, mk_718_at, mk_4_at, mk_5_at, mk_11_at, mk_42_at, mk_O_k, mk_O_0, mk_O_1, mk_O_2, mk_O_3, mk_L_k, mk_L_0, mk_L_1, mk_L_2, mk_L_3, mk_L_4, mk_L_5, mk_L_6, mk_L_7, mk_L_8, mk_L_9, mk_L_10, mk_X_k, mk_X_0, mk_X_1, mk_X_2, mk_X_3, mk_X_4, mk_75_k, mk_573_k, r_1_6, r_73_1, r_73_2, r_716_1, r_716_2, r_716_3, r_715, r_717, r_718, s_O0, s_O1, s_O2, s_O3, s_L0, s_L1, s_L2, s_L3, s_L4, s_L5, s_L6, s_L7, s_L8, s_L9, s_L10, s_X0, s_X1, s_X2, s_X3, s_X4, s_2_4, s_2_5, s_2_6, s_2_7, s_2_8, s_2_9, s_2_10, s_3_1, s_3_2, s_3_3, s_3_4, s_3_5, s_4]
          exact r
      · rw [if_neg (fun h => q h.1)] at r
        simp only [to_bz, to_nz, to_cz, to_iz]
        simp (disch := omega) only [c3, e3, e4, bz_t, nz_t, cz_T, cz_t, iz_T, iz_F, iz_y, iz_n, not_true_eq_false, not_false_eq_true, true_and, and_true, w32_e, w64_e, mset_e, mset_n, up_e, up_n, if_y, if_n, Int.add_zero, mk_1_m2, mk_1_0, mk_1_1, mk_1_2, mk_1_3, mk_1_4, mk_1_5, mk_1_6, mk_2_m2, mk_2_0, mk_2_1, mk_2_2, mk_2_3, mk_2_4, mk_2_5, mk_2_6, mk_2_7, mk_2_8, mk_2_9, mk_2_10, mk_3_m2, mk_3_0, mk_3_1, mk_3_2, mk_3_3, mk_3_4, mk_3_5, mk_4_m2, mk_4_m1, mk_5_m2, mk_5_m1, mk_11_m2, mk_11_m1, mk_42_m2, mk_42_m1, mk_73_m2, mk_73_0, mk_73_1, mk_73_2, mk_74_m2, mk_74_m1, mk_572_m2, mk_572_m1, mk_715_m2, mk_715_m1, mk_717_m2, mk_717_m1, mk_718_m2, mk_718_m1, mk_716_m2, mk_716_0, mk_716_1, mk_716_2, mk_716_3, mk_716_4, mk_719_m2, mk_74_at, mk_572_at, mk_715_at, mk_717_at, mk_718_at, mk_4_at, mk_5_at, mk_11_at, mk_42_at, mk_O_k, mk_O_0, mk_O_1, mk_O_2, mk_O_3, mk_L_k, mk_L_0, mk_L_1, mk_L_2, mk_L_3, mk_L_4, mk_L_5, mk_L_6, mk_L_7, mk_L_8, mk_L_9, mk_L_10, mk_X_k, mk_X_0, mk_X_1, mk_X_2, mk_X_3, mk_X_4, mk_75_k, mk_573_k, r_1_6, r_73_1, r_73_2, r_716_1, r_716_2, r_716_3, r_715, r_717, r_718, s_O0, s_O1, s_O2, s_O3, s_L0, s_L1, s_L2, s_L3, s_L4, s_L5, s_L6, s_L7, s_L8, s_L9, s_L10, s_X0, s_X1, s_X2, s_X3, s_X4, s_2_4, s_2_5, s_2_6, s_2_7, s_2_8, s_2_9, s_2_10, s_3_1, s_3_2, s_3_3, s_3_4, s_3_5, s_4]
        exact r
theorem l_dl18 (hN : 5000 ≤ N) (S : zST K w c a) {x z : Int} {cn : Nat} (hc : w 2 = cn) (R : Rs)
    (H : f_L_deadlines_b74 N N 1 x z (w 0) (mL w cn) 0 (mk w c m a) = R) (n : Nat) : ∀ k : Nat, k ≤ cn → cn < n + k →
    f_L_deadlines_b18 N n 1 x z (w 0) (mL w k) k (mk w c m a) = R := by
  have I := S.1.1.1
  have g := I.hd; unfold HEAD at g
  induction n with
  | zero => intro k h1 h2; omega
  | succ n ih =>
    intro k h1 h2
    have c2 := q_count_2 (N := N) (c := c) m (a := a) I
    rw [f_L_deadlines_b18]
    by_cases e : k = cn
    · subst e
      simp only [to_bz, to_nz, to_cz, to_iz]
      simp (disch := omega) only [c2, bz_t, nz_t, cz_T, cz_t, iz_T, iz_F, iz_y, iz_n, not_true_eq_false, not_false_eq_true, true_and, and_true, w32_e, w64_e, mset_e, mset_n, up_e, up_n, if_y, if_n, Int.add_zero, mk_1_m2, mk_1_0, mk_1_1, mk_1_2, mk_1_3, mk_1_4, mk_1_5, mk_1_6, mk_2_m2, mk_2_0, mk_2_1, mk_2_2, mk_2_3, mk_2_4, mk_2_5, mk_2_6, mk_2_7, mk_2_8, mk_2_9, mk_2_10, mk_3_m2, mk_3_0, mk_3_1, mk_3_2, mk_3_3, mk_3_4, mk_3_5, mk_4_m2, mk_4_m1, mk_5_m2, mk_5_m1, mk_11_m2, mk_11_m1, mk_42_m2, mk_42_m1, mk_73_m2, mk_73_0, mk_73_1, mk_73_2, mk_74_m2, mk_74_m1, mk_572_m2, mk_572_m1, mk_715_m2, mk_715_m1, mk_717_m2, mk_717_m1, mk_718_m2, mk_718_m1, mk_716_m2, mk_716_0, mk_716_1, mk_716_2, mk_716_3, mk_716_4, mk_719_m2, mk_74_at, mk_572_at, mk_715_at, mk_717_at, mk_718_at, mk_4_at, mk_5_at, mk_11_at, mk_42_at, mk_O_k, mk_O_0, mk_O_1, mk_O_2, mk_O_3, mk_L_k, mk_L_0, mk_L_1, mk_L_2, mk_L_3, mk_L_4, mk_L_5, mk_L_6, mk_L_7, mk_L_8, mk_L_9, mk_L_10, mk_X_k, mk_X_0, mk_X_1, mk_X_2, mk_X_3, mk_X_4, mk_75_k, mk_573_k, r_1_6, r_73_1, r_73_2, r_716_1, r_716_2, r_716_3, r_715, r_717, r_718, s_O0, s_O1, s_O2, s_O3, s_L0, s_L1, s_L2, s_L3, s_L4, s_L5, s_L6, s_L7, s_L8, s_L9, s_L10, s_X0, s_X1, s_X2, s_X3, s_X4, s_2_4, s_2_5, s_2_6, s_2_7, s_2_8, s_2_9, s_2_10, s_3_1, s_3_2, s_3_3, s_3_4, s_3_5, s_4]
      exact H
    · have r := ih (k + 1) (by omega) (by omega)
      have hk : 0 ≤ (k : Int) ∧ (k : Int) < w 2 := by omega
      have x := I.lot hk; unfold LOT at x
      have l5 := q_lot_5 (N := N) (c := c) m (a := a) I hk
      have l7 := q_lot_7 (N := N) (c := c) m (a := a) I hk
      unfold mL at r
      rw [nc1] at r
      generalize mL w k = t at *
      by_cases q : 0 < un w k
      · by_cases q2 : w (40 + 11 * (k : Int) + 5) < t
        · rw [if_pos ⟨q, q2⟩] at r
          simp only [to_bz, to_nz, to_cz, to_iz]
          simp (disch := omega) only [c2, l5, l7, bz_t, nz_t, cz_T, cz_t, iz_T, iz_F, iz_y, iz_n, not_true_eq_false, not_false_eq_true, true_and, and_true, w32_e, w64_e, mset_e, mset_n, up_e, up_n, if_y, if_n, Int.add_zero, mk_1_m2, mk_1_0, mk_1_1, mk_1_2, mk_1_3, mk_1_4, mk_1_5, mk_1_6, mk_2_m2, mk_2_0, mk_2_1, mk_2_2, mk_2_3, mk_2_4, mk_2_5, mk_2_6, mk_2_7, mk_2_8, mk_2_9, mk_2_10, mk_3_m2, mk_3_0, mk_3_1, mk_3_2, mk_3_3, mk_3_4, mk_3_5, mk_4_m2, mk_4_m1, mk_5_m2, mk_5_m1, mk_11_m2, mk_11_m1, mk_42_m2, mk_42_m1, mk_73_m2, mk_73_0, mk_73_1, mk_73_2, mk_74_m2, mk_74_m1, mk_572_m2, mk_572_m1, mk_715_m2, mk_715_m1, mk_717_m2, mk_717_m1, mk_718_m2, mk_718_m1, mk_716_m2, mk_716_0, mk_716_1, mk_716_2, mk_716_3, mk_716_4, mk_719_m2, mk_74_at, mk_572_at, mk_715_at, mk_717_at, mk_718_at, mk_4_at, mk_5_at, mk_11_at, mk_42_at, mk_O_k, mk_O_0, mk_O_1, mk_O_2, mk_O_3, mk_L_k, mk_L_0, mk_L_1, mk_L_2, mk_L_3, mk_L_4, mk_L_5, mk_L_6, mk_L_7, mk_L_8, mk_L_9, mk_L_10, mk_X_k, mk_X_0, mk_X_1, mk_X_2, mk_X_3, mk_X_4, mk_75_k, mk_573_k, r_1_6, r_73_1, r_73_2, r_716_1, r_716_2, r_716_3, r_715, r_717, r_718, s_O0, s_O1, s_O2, s_O3, s_L0, s_L1, s_L2, s_L3, s_L4, s_L5, s_L6, s_L7, s_L8, s_L9, s_L10, s_X0, s_X1, s_X2, s_X3, s_X4, s_2_4, s_2_5, s_2_6, s_2_7, s_2_8, s_2_9, s_2_10, s_3_1, s_3_2, s_3_3, s_3_4, s_3_5, s_4]
          exact r
        · rw [if_neg (fun h => q2 h.2)] at r
          simp only [to_bz, to_nz, to_cz, to_iz]
          simp (disch := omega) only [c2, l5, l7, bz_t, nz_t, cz_T, cz_t, iz_T, iz_F, iz_y, iz_n, not_true_eq_false, not_false_eq_true, true_and, and_true, w32_e, w64_e, mset_e, mset_n, up_e, up_n, if_y, if_n, Int.add_zero, mk_1_m2, mk_1_0, mk_1_1, mk_1_2, mk_1_3, mk_1_4, mk_1_5, mk_1_6, mk_2_m2, mk_2_0, mk_2_1, mk_2_2, mk_2_3, mk_2_4, mk_2_5, mk_2_6, mk_2_7, mk_2_8, mk_2_9, mk_2_10, mk_3_m2, mk_3_0, mk_3_1, mk_3_2, mk_3_3, mk_3_4, mk_3_5, mk_4_m2, mk_4_m1, mk_5_m2, mk_5_m1, mk_11_m2, mk_11_m1, mk_42_m2, mk_42_m1, mk_73_m2, mk_73_0, mk_73_1, mk_73_2, mk_74_m2, mk_74_m1, mk_572_m2, mk_572_m1, mk_715_m2, mk_715_m1, mk_717_m2, mk_717_m1, mk_718_m2, mk_718_m1, mk_716_m2, mk_716_0, mk_716_1, mk_716_2, mk_716_3, mk_716_4, mk_719_m2, mk_74_at, mk_572_at, mk_715_at, mk_717_at, mk_718_at, mk_4_at, mk_5_at, mk_11_at, mk_42_at, mk_O_k, mk_O_0, mk_O_1, mk_O_2, mk_O_3, mk_L_k, mk_L_0, mk_L_1, mk_L_2, mk_L_3, mk_L_4, mk_L_5, mk_L_6, mk_L_7, mk_L_8, mk_L_9, mk_L_10, mk_X_k, mk_X_0, mk_X_1, mk_X_2, mk_X_3, mk_X_4, mk_75_k, mk_573_k, r_1_6, r_73_1, r_73_2, r_716_1, r_716_2, r_716_3, r_715, r_717, r_718, s_O0, s_O1, s_O2, s_O3, s_L0, s_L1, s_L2, s_L3, s_L4, s_L5, s_L6, s_L7, s_L8, s_L9, s_L10, s_X0, s_X1, s_X2, s_X3, s_X4, s_2_4, s_2_5, s_2_6, s_2_7, s_2_8, s_2_9, s_2_10, s_3_1, s_3_2, s_3_3, s_3_4, s_3_5, s_4]
          exact r
      · rw [if_neg (fun h => q h.1)] at r
        simp only [to_bz, to_nz, to_cz, to_iz]
        simp (disch := omega) only [c2, l5, l7, bz_t, nz_t, cz_T, cz_t, iz_T, iz_F, iz_y, iz_n, not_true_eq_false, not_false_eq_true, true_and, and_true, w32_e, w64_e, mset_e, mset_n, up_e, up_n, if_y, if_n, Int.add_zero, mk_1_m2, mk_1_0, mk_1_1, mk_1_2, mk_1_3, mk_1_4, mk_1_5, mk_1_6, mk_2_m2, mk_2_0, mk_2_1, mk_2_2, mk_2_3, mk_2_4, mk_2_5, mk_2_6, mk_2_7, mk_2_8, mk_2_9, mk_2_10, mk_3_m2, mk_3_0, mk_3_1, mk_3_2, mk_3_3, mk_3_4, mk_3_5, mk_4_m2, mk_4_m1, mk_5_m2, mk_5_m1, mk_11_m2, mk_11_m1, mk_42_m2, mk_42_m1, mk_73_m2, mk_73_0, mk_73_1, mk_73_2, mk_74_m2, mk_74_m1, mk_572_m2, mk_572_m1, mk_715_m2, mk_715_m1, mk_717_m2, mk_717_m1, mk_718_m2, mk_718_m1, mk_716_m2, mk_716_0, mk_716_1, mk_716_2, mk_716_3, mk_716_4, mk_719_m2, mk_74_at, mk_572_at, mk_715_at, mk_717_at, mk_718_at, mk_4_at, mk_5_at, mk_11_at, mk_42_at, mk_O_k, mk_O_0, mk_O_1, mk_O_2, mk_O_3, mk_L_k, mk_L_0, mk_L_1, mk_L_2, mk_L_3, mk_L_4, mk_L_5, mk_L_6, mk_L_7, mk_L_8, mk_L_9, mk_L_10, mk_X_k, mk_X_0, mk_X_1, mk_X_2, mk_X_3, mk_X_4, mk_75_k, mk_573_k, r_1_6, r_73_1, r_73_2, r_716_1, r_716_2, r_716_3, r_715, r_717, r_718, s_O0, s_O1, s_O2, s_O3, s_L0, s_L1, s_L2, s_L3, s_L4, s_L5, s_L6, s_L7, s_L8, s_L9, s_L10, s_X0, s_X1, s_X2, s_X3, s_X4, s_2_4, s_2_5, s_2_6, s_2_7, s_2_8, s_2_9, s_2_10, s_3_1, s_3_2, s_3_3, s_3_4, s_3_5, s_4]
        exact r
theorem q_deadlines (hN : 5000 ≤ N) (S : zST K w c a) (hK : K ≤ 9000) (x : Int) : kO K (K + 1) (f_L_deadlines N 1 x (mk w c m a)) w c m a := by
  have I := S.1.1.1
  have g := I.hd; unfold HEAD at g
  have P := nd_X I hK (nd_L I hK (w 2).toNat (by omega)) (w 3).toNat (by omega)
  have nx := q_next (N := N) (c := c) m (a := a) hN I
  have c0 := q_count_0 (N := N) (c := c) m (a := a) I
  have c3 := q_count_3 (N := N) (c := c) m (a := a) I
  generalize ndX w (ndL w (w 2).toNat) (w 3).toNat = z at *
  unfold ndP at P
  obtain ⟨c', a', e, r⟩ := l_dl173 (N := N) m hN S (by omega) (x := x) (z := z.1) (fun q => by rcases P with ⟨i1, i2, i3⟩ | ⟨i1, i2, i3, i4, i5⟩ | ⟨i1, i2, i3, i4, i5⟩ <;> omega) (by omega)
  have H : ∀ n : Nat, f_L_deadlines_b74 N (n + 1) 1 x z.1 (w 0) (mX w (mL w (w 2).toNat) (w 3).toNat) (w 3).toNat (mk w c m a) = some (1, mk w c' m a') := fun n => by
    rw [f_L_deadlines_b74, show (((w 3).toNat : Nat) : Int) = w 3 by omega]
    generalize mX w (mL w (w 2).toNat) (w 3).toNat = t at *
    unfold f_L_deadlines_b166
    rcases P with ⟨i1, i2, i3⟩ | ⟨i1, i2, i3, i4, i5⟩ | ⟨i1, i2, i3, i4, i5⟩
    · simp only [to_bz, to_nz, to_cz, to_iz]
      simp (disch := omega) only [c3, e, bz_t, nz_t, cz_T, cz_t, iz_T, iz_F, iz_y, iz_n, not_true_eq_false, not_false_eq_true, true_and, and_true, w32_e, w64_e, mset_e, mset_n, up_e, up_n, if_y, if_n, Int.add_zero, mk_1_m2, mk_1_0, mk_1_1, mk_1_2, mk_1_3, mk_1_4, mk_1_5, mk_1_6, mk_2_m2, mk_2_0, mk_2_1, mk_2_2, mk_2_3, mk_2_4, mk_2_5, mk_2_6, mk_2_7, mk_2_8, mk_2_9, mk_2_10, mk_3_m2, mk_3_0, mk_3_1, mk_3_2, mk_3_3, mk_3_4, mk_3_5, mk_4_m2, mk_4_m1, mk_5_m2, mk_5_m1, mk_11_m2, mk_11_m1, mk_42_m2, mk_42_m1, mk_73_m2, mk_73_0, mk_73_1, mk_73_2, mk_74_m2, mk_74_m1, mk_572_m2, mk_572_m1, mk_715_m2, mk_715_m1, mk_717_m2, mk_717_m1, mk_718_m2, mk_718_m1, mk_716_m2, mk_716_0, mk_716_1, mk_716_2, mk_716_3, mk_716_4, mk_719_m2, mk_74_at, mk_572_at, mk_715_at, mk_717_at, mk_718_at, mk_4_at, mk_5_at, mk_11_at, mk_42_at, mk_O_k, mk_O_0, mk_O_1, mk_O_2, mk_O_3, mk_L_k, mk_L_0, mk_L_1, mk_L_2, mk_L_3, mk_L_4, mk_L_5, mk_L_6, mk_L_7, mk_L_8, mk_L_9, mk_L_10, mk_X_k, mk_X_0, mk_X_1, mk_X_2, mk_X_3, mk_X_4, mk_75_k, mk_573_k, r_1_6, r_73_1, r_73_2, r_716_1, r_716_2, r_716_3, r_715, r_717, r_718, s_O0, s_O1, s_O2, s_O3, s_L0, s_L1, s_L2, s_L3, s_L4, s_L5, s_L6, s_L7, s_L8, s_L9, s_L10, s_X0, s_X1, s_X2, s_X3, s_X4, s_2_4, s_2_5, s_2_6, s_2_7, s_2_8, s_2_9, s_2_10, s_3_1, s_3_2, s_3_3, s_3_4, s_3_5, s_4]
    · have l5 := q_lot_5 (N := N) (c := c) m (a := a) I i1
      rw [i2, ← i3] at l5
      simp only [to_bz, to_nz, to_cz, to_iz]
      simp (disch := omega) only [c3, e, l5, bz_t, nz_t, cz_T, cz_t, iz_T, iz_F, iz_y, iz_n, not_true_eq_false, not_false_eq_true, true_and, and_true, w32_e, w64_e, mset_e, mset_n, up_e, up_n, if_y, if_n, Int.add_zero, mk_1_m2, mk_1_0, mk_1_1, mk_1_2, mk_1_3, mk_1_4, mk_1_5, mk_1_6, mk_2_m2, mk_2_0, mk_2_1, mk_2_2, mk_2_3, mk_2_4, mk_2_5, mk_2_6, mk_2_7, mk_2_8, mk_2_9, mk_2_10, mk_3_m2, mk_3_0, mk_3_1, mk_3_2, mk_3_3, mk_3_4, mk_3_5, mk_4_m2, mk_4_m1, mk_5_m2, mk_5_m1, mk_11_m2, mk_11_m1, mk_42_m2, mk_42_m1, mk_73_m2, mk_73_0, mk_73_1, mk_73_2, mk_74_m2, mk_74_m1, mk_572_m2, mk_572_m1, mk_715_m2, mk_715_m1, mk_717_m2, mk_717_m1, mk_718_m2, mk_718_m1, mk_716_m2, mk_716_0, mk_716_1, mk_716_2, mk_716_3, mk_716_4, mk_719_m2, mk_74_at, mk_572_at, mk_715_at, mk_717_at, mk_718_at, mk_4_at, mk_5_at, mk_11_at, mk_42_at, mk_O_k, mk_O_0, mk_O_1, mk_O_2, mk_O_3, mk_L_k, mk_L_0, mk_L_1, mk_L_2, mk_L_3, mk_L_4, mk_L_5, mk_L_6, mk_L_7, mk_L_8, mk_L_9, mk_L_10, mk_X_k, mk_X_0, mk_X_1, mk_X_2, mk_X_3, mk_X_4, mk_75_k, mk_573_k, r_1_6, r_73_1, r_73_2, r_716_1, r_716_2, r_716_3, r_715, r_717, r_718, s_O0, s_O1, s_O2, s_O3, s_L0, s_L1, s_L2, s_L3, s_L4, s_L5, s_L6, s_L7, s_L8, s_L9, s_L10, s_X0, s_X1, s_X2, s_X3, s_X4, s_2_4, s_2_5, s_2_6, s_2_7, s_2_8, s_2_9, s_2_10, s_3_1, s_3_2, s_3_3, s_3_4, s_3_5, s_4]
    · have e3 := q_exported_3 (N := N) (c := c) m (a := a) I (l := z.1 - 100) (by omega)
      rw [i2, ← i3] at e3
      simp only [to_bz, to_nz, to_cz, to_iz]
      simp (disch := omega) only [c3, e, e3, bz_t, nz_t, cz_T, cz_t, iz_T, iz_F, iz_y, iz_n, not_true_eq_false, not_false_eq_true, true_and, and_true, w32_e, w64_e, mset_e, mset_n, up_e, up_n, if_y, if_n, Int.add_zero, mk_1_m2, mk_1_0, mk_1_1, mk_1_2, mk_1_3, mk_1_4, mk_1_5, mk_1_6, mk_2_m2, mk_2_0, mk_2_1, mk_2_2, mk_2_3, mk_2_4, mk_2_5, mk_2_6, mk_2_7, mk_2_8, mk_2_9, mk_2_10, mk_3_m2, mk_3_0, mk_3_1, mk_3_2, mk_3_3, mk_3_4, mk_3_5, mk_4_m2, mk_4_m1, mk_5_m2, mk_5_m1, mk_11_m2, mk_11_m1, mk_42_m2, mk_42_m1, mk_73_m2, mk_73_0, mk_73_1, mk_73_2, mk_74_m2, mk_74_m1, mk_572_m2, mk_572_m1, mk_715_m2, mk_715_m1, mk_717_m2, mk_717_m1, mk_718_m2, mk_718_m1, mk_716_m2, mk_716_0, mk_716_1, mk_716_2, mk_716_3, mk_716_4, mk_719_m2, mk_74_at, mk_572_at, mk_715_at, mk_717_at, mk_718_at, mk_4_at, mk_5_at, mk_11_at, mk_42_at, mk_O_k, mk_O_0, mk_O_1, mk_O_2, mk_O_3, mk_L_k, mk_L_0, mk_L_1, mk_L_2, mk_L_3, mk_L_4, mk_L_5, mk_L_6, mk_L_7, mk_L_8, mk_L_9, mk_L_10, mk_X_k, mk_X_0, mk_X_1, mk_X_2, mk_X_3, mk_X_4, mk_75_k, mk_573_k, r_1_6, r_73_1, r_73_2, r_716_1, r_716_2, r_716_3, r_715, r_717, r_718, s_O0, s_O1, s_O2, s_O3, s_L0, s_L1, s_L2, s_L3, s_L4, s_L5, s_L6, s_L7, s_L8, s_L9, s_L10, s_X0, s_X1, s_X2, s_X3, s_X4, s_2_4, s_2_5, s_2_6, s_2_7, s_2_8, s_2_9, s_2_10, s_3_1, s_3_2, s_3_3, s_3_4, s_3_5, s_4]
  have h74 := l_dl74 (N := N) m hN S hK (x := x) (z := z.1) (y0 := mL w (w 2).toNat) (cn := (w 3).toNat) (by omega) (by
    have := nd_L I hK (w 2).toNat (by omega)
    unfold ndP at this
    unfold R32
    rcases this with ⟨i1, i2, i3⟩ | ⟨i1, i2, i3, i4, i5⟩ | ⟨i1, i2, i3, i4, i5⟩ <;> omega) _ H N 0 (by omega) (by omega)
  have h18 := l_dl18 (N := N) m hN S (x := x) (z := z.1) (cn := (w 2).toNat) (by omega) _ h74 N 0 (by omega) (by omega)
  replace h18 : f_L_deadlines_b18 N N 1 x z.1 (w 0) 1000000 0 (mk w c m a) = some (1, mk w c' m a') := h18
  refine ⟨c', a', ?_, r⟩
  unfold f_L_deadlines
  simp only [to_bz, to_nz, to_cz, to_iz]
  simp (disch := omega) only [nx, c0, h18, bz_t, nz_t, cz_T, cz_t, iz_T, iz_F, iz_y, iz_n, not_true_eq_false, not_false_eq_true, true_and, and_true, w32_e, w64_e, mset_e, mset_n, up_e, up_n, if_y, if_n, Int.add_zero, mk_1_m2, mk_1_0, mk_1_1, mk_1_2, mk_1_3, mk_1_4, mk_1_5, mk_1_6, mk_2_m2, mk_2_0, mk_2_1, mk_2_2, mk_2_3, mk_2_4, mk_2_5, mk_2_6, mk_2_7, mk_2_8, mk_2_9, mk_2_10, mk_3_m2, mk_3_0, mk_3_1, mk_3_2, mk_3_3, mk_3_4, mk_3_5, mk_4_m2, mk_4_m1, mk_5_m2, mk_5_m1, mk_11_m2, mk_11_m1, mk_42_m2, mk_42_m1, mk_73_m2, mk_73_0, mk_73_1, mk_73_2, mk_74_m2, mk_74_m1, mk_572_m2, mk_572_m1, mk_715_m2, mk_715_m1, mk_717_m2, mk_717_m1, mk_718_m2, mk_718_m1, mk_716_m2, mk_716_0, mk_716_1, mk_716_2, mk_716_3, mk_716_4, mk_719_m2, mk_74_at, mk_572_at, mk_715_at, mk_717_at, mk_718_at, mk_4_at, mk_5_at, mk_11_at, mk_42_at, mk_O_k, mk_O_0, mk_O_1, mk_O_2, mk_O_3, mk_L_k, mk_L_0, mk_L_1, mk_L_2, mk_L_3, mk_L_4, mk_L_5, mk_L_6, mk_L_7, mk_L_8, mk_L_9, mk_L_10, mk_X_k, mk_X_0, mk_X_1, mk_X_2, mk_X_3, mk_X_4, mk_75_k, mk_573_k, r_1_6, r_73_1, r_73_2, r_716_1, r_716_2, r_716_3, r_715, r_717, r_718, s_O0, s_O1, s_O2, s_O3, s_L0, s_L1, s_L2, s_L3, s_L4, s_L5, s_L6, s_L7, s_L8, s_L9, s_L10, s_X0, s_X1, s_X2, s_X3, s_X4, s_2_4, s_2_5, s_2_6, s_2_7, s_2_8, s_2_9, s_2_10, s_3_1, s_3_2, s_3_3, s_3_4, s_3_5, s_4]
end DEADL
