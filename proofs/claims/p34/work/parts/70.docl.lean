/-! the law's check of documents -/
/-- what was written stays -/
def lE (z z' : Int × (Int → Int)) : Prop := z.1 ≤ z'.1 ∧ ∀ i, i < z.1 → z'.2 i = z.2 i
theorem lE_i (z : Int × (Int → Int)) : lE z z := ⟨Int.le_refl _, fun _ _ => rfl⟩
theorem lE_t {x y z : Int × (Int → Int)} (h : lE x y) (g : lE y z) : lE x z := ⟨Int.le_trans h.1 g.1, fun i hi => (g.2 i (Int.lt_of_lt_of_le hi h.1)).trans (h.2 i hi)⟩
theorem lE_C (z : Int × (Int → Int)) (x : Int) : lE z (aC z x) := ⟨by show z.1 ≤ z.1 + 1; omega, fun i hi => up_n (by omega)⟩
theorem lE_N (z : Int × (Int → Int)) {x : Int} (h : 1 ≤ nd x) : lE z (aN z x) := ⟨by show z.1 ≤ z.1 + nd x; omega, fun i hi => by
  show Gd (z.1 + nd x) x z.2 i = z.2 i
  unfold Gd
  exact if_neg (by omega)⟩
theorem at_C {z : Int × (Int → Int)} {x : Int} {F : Int × (Int → Int)} (h : lE (aC z x) F) : F.2 z.1 = x ∧ z.1 + 1 ≤ F.1 :=
  ⟨(h.2 z.1 (by show z.1 < z.1 + 1; omega)).trans (up_e _ _ _), h.1⟩
theorem at_N {z : Int × (Int → Int)} {x : Int} {F : Int × (Int → Int)} (h : lE (aN z x) F) : z.1 + nd x ≤ F.1 ∧ ∀ r : Nat, 1 ≤ r → (r : Int) ≤ nd x → F.2 (z.1 + nd x - r) = 48 + x / p10 (r - 1) % 10 := by
  refine ⟨h.1, fun r h1 h2 => ?_⟩
  refine (h.2 (z.1 + nd x - r) (by show z.1 + nd x - r < z.1 + nd x; omega)).trans ?_
  show Gd (z.1 + nd x) x z.2 (z.1 + nd x - r) = _
  unfold Gd
  rw [if_pos (by omega), show (z.1 + nd x - 1 - (z.1 + nd x - (r : Int))).toNat = r - 1 by omega]
/-- a check of a document ends well -/
def dO (K : Int) (w : Int → Int) (c : Int → Int → Int) (m : Int → Int) (a0 : Mm) (r : Rs) : Prop := ∃ a', r = some (1, mk w c m a') ∧ zST K w c a' ∧ zE a0 a'
def sgn (j : Int) : Int := if j = 0 then 47 else if j = 1 then 58 else if j = 2 then 43 else 33
theorem ug_01 (w : Int → Int) (l : Int) : ug w l = 0 ∨ ug w l = 1 := by unfold ug; split; exact Or.inr rfl; exact Or.inl rfl
section DOCL
variable {N : Nat} {c : Int → Int → Int} (m : Int → Int) {a0 : Mm} {w : Int → Int} {K : Int}
theorem l_dc202 (hN : 5000 ≤ N) (k0 : Int → Int → Int → Int → Int → Int → Int → Mm → Rs) {l n p j : Int} (z1 : 0 ≤ l ∧ l < w 2) (hj : 0 ≤ j ∧ j ≤ 3) (hp : 0 ≤ p ∧ p ≤ (dD w l).1) (hn : (dD w l).1 ≤ 30)
    (G : (p < (dD w l).1 ∧ (dD w l).2 p = sgn j) ∨ (j = 3 ∧ p = (dD w l).1)) {bc bs : Int} (hb : 10 ≤ bc ∧ 2000 ≤ bs)
    (H : ∀ a, zST K w c a → zE a0 a → dO K w c m a0 (k0 1 l n (if p < (dD w l).1 then p + 1 else p) (j + 1) (bc - 10) (bs - 2000) (mk w c m a))) :
    ∀ a, zST K w c a → zE a0 a → dO K w c m a0 (f_L_document_b202 N k0 1 l n p j (sgn j) bc bs (mk w c m a)) := by
  intro a S E
  have sb : 33 ≤ sgn j ∧ sgn j ≤ 58 := by unfold sgn; (repeat' split) <;> omega
  by_cases q : p < (dD w l).1
  · rw [if_pos q] at H
    obtain ⟨a1, e1, S1, E1⟩ := q_docAt (N := N) m hN S z1 hp.1 q
    obtain ⟨a2, r1, r2⟩ := H a1 S1 (zE_t E E1)
    refine ⟨a2, ?_, r2⟩
    have g : (dD w l).2 p = sgn j := by rcases G with G | G; exact G.2; omega
    rw [g] at e1
    generalize sgn j = s at *
    unfold f_L_document_b202 f_L_document_b220 f_L_document_b235
    by_cases q3 : 3 ≤ j
    · simp only [to_bz, to_nz, to_cz, to_iz]
      simp (disch := omega) only [e1, bz_t, nz_t, cz_T, cz_t, iz_T, iz_F, iz_y, iz_n, not_true_eq_false, not_false_eq_true, true_and, and_true, w32_e, w64_e, mset_e, mset_n, up_e, up_n, if_y, if_n, Int.add_zero, mk_1_m2, mk_1_0, mk_1_1, mk_1_2, mk_1_3, mk_1_4, mk_1_5, mk_1_6, mk_2_m2, mk_2_0, mk_2_1, mk_2_2, mk_2_3, mk_2_4, mk_2_5, mk_2_6, mk_2_7, mk_2_8, mk_2_9, mk_2_10, mk_3_m2, mk_3_0, mk_3_1, mk_3_2, mk_3_3, mk_3_4, mk_3_5, mk_4_m2, mk_4_m1, mk_5_m2, mk_5_m1, mk_11_m2, mk_11_m1, mk_42_m2, mk_42_m1, mk_73_m2, mk_73_0, mk_73_1, mk_73_2, mk_74_m2, mk_74_m1, mk_572_m2, mk_572_m1, mk_715_m2, mk_715_m1, mk_717_m2, mk_717_m1, mk_718_m2, mk_718_m1, mk_716_m2, mk_716_0, mk_716_1, mk_716_2, mk_716_3, mk_716_4, mk_719_m2, mk_74_at, mk_572_at, mk_715_at, mk_717_at, mk_718_at, mk_4_at, mk_5_at, mk_11_at, mk_42_at, mk_O_k, mk_O_0, mk_O_1, mk_O_2, mk_O_3, mk_L_k, mk_L_0, mk_L_1, mk_L_2, mk_L_3, mk_L_4, mk_L_5, mk_L_6, mk_L_7, mk_L_8, mk_L_9, mk_L_10, mk_X_k, mk_X_0, mk_X_1, mk_X_2, mk_X_3, mk_X_4, mk_75_k, mk_573_k, r_1_6, r_73_1, r_73_2, r_716_1, r_716_2, r_716_3, r_715, r_717, r_718, s_O0, s_O1, s_O2, s_O3, s_L0, s_L1, s_L2, s_L3, s_L4, s_L5, s_L6, s_L7, s_L8, s_L9, s_L10, s_X0, s_X1, s_X2, s_X3, s_X4, s_2_4, s_2_5, s_2_6, s_2_7, s_2_8, s_2_9, s_2_10, s_3_1, s_3_2, s_3_3, s_3_4, s_3_5, s_4]
      exact r1
    · simp only [to_bz, to_nz, to_cz, to_iz]
      simp (disch := omega) only [e1, bz_t, nz_t, cz_T, cz_t, iz_T, iz_F, iz_y, iz_n, not_true_eq_false, not_false_eq_true, true_and, and_true, w32_e, w64_e, mset_e, mset_n, up_e, up_n, if_y, if_n, Int.add_zero, mk_1_m2, mk_1_0, mk_1_1, mk_1_2, mk_1_3, mk_1_4, mk_1_5, mk_1_6, mk_2_m2, mk_2_0, mk_2_1, mk_2_2, mk_2_3, mk_2_4, mk_2_5, mk_2_6, mk_2_7, mk_2_8, mk_2_9, mk_2_10, mk_3_m2, mk_3_0, mk_3_1, mk_3_2, mk_3_3, mk_3_4, mk_3_5, mk_4_m2, mk_4_m1, mk_5_m2, mk_5_m1, mk_11_m2, mk_11_m1, mk_42_m2, mk_42_m1, mk_73_m2, mk_73_0, mk_73_1, mk_73_2, mk_74_m2, mk_74_m1, mk_572_m2, mk_572_m1, mk_715_m2, mk_715_m1, mk_717_m2, mk_717_m1, mk_718_m2, mk_718_m1, mk_716_m2, mk_716_0, mk_716_1, mk_716_2, mk_716_3, mk_716_4, mk_719_m2, mk_74_at, mk_572_at, mk_715_at, mk_717_at, mk_718_at, mk_4_at, mk_5_at, mk_11_at, mk_42_at, mk_O_k, mk_O_0, mk_O_1, mk_O_2, mk_O_3, mk_L_k, mk_L_0, mk_L_1, mk_L_2, mk_L_3, mk_L_4, mk_L_5, mk_L_6, mk_L_7, mk_L_8, mk_L_9, mk_L_10, mk_X_k, mk_X_0, mk_X_1, mk_X_2, mk_X_3, mk_X_4, mk_75_k, mk_573_k, r_1_6, r_73_1, r_73_2, r_716_1, r_716_2, r_716_3, r_715, r_717, r_718, s_O0, s_O1, s_O2, s_O3, s_L0, s_L1, s_L2, s_L3, s_L4, s_L5, s_L6, s_L7, s_L8, s_L9, s_L10, s_X0, s_X1, s_X2, s_X3, s_X4, s_2_4, s_2_5, s_2_6, s_2_7, s_2_8, s_2_9, s_2_10, s_3_1, s_3_2, s_3_3, s_3_4, s_3_5, s_4]
      exact r1
  · rw [if_neg q] at H
    obtain ⟨a1, e1, S1, E1⟩ := q_docAt_n (N := N) m hN S z1 (i := p) (by omega)
    obtain ⟨a2, r1, r2⟩ := H a1 S1 (zE_t E E1)
    refine ⟨a2, ?_, r2⟩
    have g : j = 3 := by rcases G with G | G <;> omega
    subst g
    rw [show sgn 3 = 33 from rfl]
    unfold f_L_document_b202 f_L_document_b220 f_L_document_b235
    simp only [to_bz, to_nz, to_cz, to_iz]
    simp (disch := omega) only [e1, bz_t, nz_t, cz_T, cz_t, iz_T, iz_F, iz_y, iz_n, not_true_eq_false, not_false_eq_true, true_and, and_true, w32_e, w64_e, mset_e, mset_n, up_e, up_n, if_y, if_n, Int.add_zero, mk_1_m2, mk_1_0, mk_1_1, mk_1_2, mk_1_3, mk_1_4, mk_1_5, mk_1_6, mk_2_m2, mk_2_0, mk_2_1, mk_2_2, mk_2_3, mk_2_4, mk_2_5, mk_2_6, mk_2_7, mk_2_8, mk_2_9, mk_2_10, mk_3_m2, mk_3_0, mk_3_1, mk_3_2, mk_3_3, mk_3_4, mk_3_5, mk_4_m2, mk_4_m1, mk_5_m2, mk_5_m1, mk_11_m2, mk_11_m1, mk_42_m2, mk_42_m1, mk_73_m2, mk_73_0, mk_73_1, mk_73_2, mk_74_m2, mk_74_m1, mk_572_m2, mk_572_m1, mk_715_m2, mk_715_m1, mk_717_m2, mk_717_m1, mk_718_m2, mk_718_m1, mk_716_m2, mk_716_0, mk_716_1, mk_716_2, mk_716_3, mk_716_4, mk_719_m2, mk_74_at, mk_572_at, mk_715_at, mk_717_at, mk_718_at, mk_4_at, mk_5_at, mk_11_at, mk_42_at, mk_O_k, mk_O_0, mk_O_1, mk_O_2, mk_O_3, mk_L_k, mk_L_0, mk_L_1, mk_L_2, mk_L_3, mk_L_4, mk_L_5, mk_L_6, mk_L_7, mk_L_8, mk_L_9, mk_L_10, mk_X_k, mk_X_0, mk_X_1, mk_X_2, mk_X_3, mk_X_4, mk_75_k, mk_573_k, r_1_6, r_73_1, r_73_2, r_716_1, r_716_2, r_716_3, r_715, r_717, r_718, s_O0, s_O1, s_O2, s_O3, s_L0, s_L1, s_L2, s_L3, s_L4, s_L5, s_L6, s_L7, s_L8, s_L9, s_L10, s_X0, s_X1, s_X2, s_X3, s_X4, s_2_4, s_2_5, s_2_6, s_2_7, s_2_8, s_2_9, s_2_10, s_3_1, s_3_2, s_3_3, s_3_4, s_3_5, s_4]
    exact r1
theorem l_dc128 (hN : 5000 ≤ N) (k0 : Int → Int → Int → Int → Int → Int → Int → Mm → Rs) {l n j x e : Int} (z1 : 0 ≤ l ∧ l < w 2) (hj : 0 ≤ j ∧ j ≤ 3) (hx : 0 ≤ x ∧ x < 1000000000) (he : e ≤ (dD w l).1) (hn : (dD w l).1 ≤ 30)
    (G : ∀ r : Nat, 1 ≤ r → (r : Int) ≤ nd x → 0 ≤ e - r ∧ (dD w l).2 (e - r) = 48 + x / p10 (r - 1) % 10)
    {R : Int → Int → Mm → Rs} (hR : ∀ bc bs μ, R bc bs μ = f_L_document_b202 N k0 1 l n e j (sgn j) bc bs μ) :
    ∀ (r g : Nat) (bc bs : Int), (r : Int) ≤ nd x → r < g → 10 * (r : Int) ≤ bc ∧ 2000 * (r : Int) ≤ bs → (∀ a, zST K w c a → zE a0 a → dO K w c m a0 (R (bc - 10 * r) (bs - 2000 * r) (mk w c m a))) →
    ∀ a, zST K w c a → zE a0 a → dO K w c m a0 (f_L_document_b128 N k0 g 1 l n (e - r) j x (q10 r) bc bs (mk w c m a)) := by
  have n9 := nd_9 hx
  intro r
  induction r with
  | zero =>
    intro g bc bs h1 h2 hb H a S E
    obtain ⟨g, rfl⟩ : ∃ g', g = g' + 1 := ⟨g - 1, by omega⟩
    obtain ⟨a2, r1, r2⟩ := H a S E
    refine ⟨a2, ?_, r2⟩
    rw [hR, show ((0 : Nat) : Int) = 0 from rfl, Int.mul_zero, Int.mul_zero, Int.sub_zero, Int.sub_zero] at r1
    rw [f_L_document_b128, show q10 0 = 0 from rfl, show ((0 : Nat) : Int) = 0 from rfl, Int.sub_zero]
    unfold sgn at r1
    by_cases q0 : j = 0
    · subst q0
      simp only [to_bz, to_nz, to_cz, to_iz]
      simp (disch := omega) only [bz_t, nz_t, cz_T, cz_t, iz_T, iz_F, iz_y, iz_n, not_true_eq_false, not_false_eq_true, true_and, and_true, w32_e, w64_e, mset_e, mset_n, up_e, up_n, if_y, if_n, Int.add_zero, mk_1_m2, mk_1_0, mk_1_1, mk_1_2, mk_1_3, mk_1_4, mk_1_5, mk_1_6, mk_2_m2, mk_2_0, mk_2_1, mk_2_2, mk_2_3, mk_2_4, mk_2_5, mk_2_6, mk_2_7, mk_2_8, mk_2_9, mk_2_10, mk_3_m2, mk_3_0, mk_3_1, mk_3_2, mk_3_3, mk_3_4, mk_3_5, mk_4_m2, mk_4_m1, mk_5_m2, mk_5_m1, mk_11_m2, mk_11_m1, mk_42_m2, mk_42_m1, mk_73_m2, mk_73_0, mk_73_1, mk_73_2, mk_74_m2, mk_74_m1, mk_572_m2, mk_572_m1, mk_715_m2, mk_715_m1, mk_717_m2, mk_717_m1, mk_718_m2, mk_718_m1, mk_716_m2, mk_716_0, mk_716_1, mk_716_2, mk_716_3, mk_716_4, mk_719_m2, mk_74_at, mk_572_at, mk_715_at, mk_717_at, mk_718_at, mk_4_at, mk_5_at, mk_11_at, mk_42_at, mk_O_k, mk_O_0, mk_O_1, mk_O_2, mk_O_3, mk_L_k, mk_L_0, mk_L_1, mk_L_2, mk_L_3, mk_L_4, mk_L_5, mk_L_6, mk_L_7, mk_L_8, mk_L_9, mk_L_10, mk_X_k, mk_X_0, mk_X_1, mk_X_2, mk_X_3, mk_X_4, mk_75_k, mk_573_k, r_1_6, r_73_1, r_73_2, r_716_1, r_716_2, r_716_3, r_715, r_717, r_718, s_O0, s_O1, s_O2, s_O3, s_L0, s_L1, s_L2, s_L3, s_L4, s_L5, s_L6, s_L7, s_L8, s_L9, s_L10, s_X0, s_X1, s_X2, s_X3, s_X4, s_2_4, s_2_5, s_2_6, s_2_7, s_2_8, s_2_9, s_2_10, s_3_1, s_3_2, s_3_3, s_3_4, s_3_5, s_4]
      exact r1
    by_cases q1 : j = 1
    · subst q1
      simp only [to_bz, to_nz, to_cz, to_iz]
      simp (disch := omega) only [bz_t, nz_t, cz_T, cz_t, iz_T, iz_F, iz_y, iz_n, not_true_eq_false, not_false_eq_true, true_and, and_true, w32_e, w64_e, mset_e, mset_n, up_e, up_n, if_y, if_n, Int.add_zero, mk_1_m2, mk_1_0, mk_1_1, mk_1_2, mk_1_3, mk_1_4, mk_1_5, mk_1_6, mk_2_m2, mk_2_0, mk_2_1, mk_2_2, mk_2_3, mk_2_4, mk_2_5, mk_2_6, mk_2_7, mk_2_8, mk_2_9, mk_2_10, mk_3_m2, mk_3_0, mk_3_1, mk_3_2, mk_3_3, mk_3_4, mk_3_5, mk_4_m2, mk_4_m1, mk_5_m2, mk_5_m1, mk_11_m2, mk_11_m1, mk_42_m2, mk_42_m1, mk_73_m2, mk_73_0, mk_73_1, mk_73_2, mk_74_m2, mk_74_m1, mk_572_m2, mk_572_m1, mk_715_m2, mk_715_m1, mk_717_m2, mk_717_m1, mk_718_m2, mk_718_m1, mk_716_m2, mk_716_0, mk_716_1, mk_716_2, mk_716_3, mk_716_4, mk_719_m2, mk_74_at, mk_572_at, mk_715_at, mk_717_at, mk_718_at, mk_4_at, mk_5_at, mk_11_at, mk_42_at, mk_O_k, mk_O_0, mk_O_1, mk_O_2, mk_O_3, mk_L_k, mk_L_0, mk_L_1, mk_L_2, mk_L_3, mk_L_4, mk_L_5, mk_L_6, mk_L_7, mk_L_8, mk_L_9, mk_L_10, mk_X_k, mk_X_0, mk_X_1, mk_X_2, mk_X_3, mk_X_4, mk_75_k, mk_573_k, r_1_6, r_73_1, r_73_2, r_716_1, r_716_2, r_716_3, r_715, r_717, r_718, s_O0, s_O1, s_O2, s_O3, s_L0, s_L1, s_L2, s_L3, s_L4, s_L5, s_L6, s_L7, s_L8, s_L9, s_L10, s_X0, s_X1, s_X2, s_X3, s_X4, s_2_4, s_2_5, s_2_6, s_2_7, s_2_8, s_2_9, s_2_10, s_3_1, s_3_2, s_3_3, s_3_4, s_3_5, s_4]
      exact r1
    by_cases q2 : j = 2
    · subst q2
      simp only [to_bz, to_nz, to_cz, to_iz]
      simp (disch := omega) only [bz_t, nz_t, cz_T, cz_t, iz_T, iz_F, iz_y, iz_n, not_true_eq_false, not_false_eq_true, true_and, and_true, w32_e, w64_e, mset_e, mset_n, up_e, up_n, if_y, if_n, Int.add_zero, mk_1_m2, mk_1_0, mk_1_1, mk_1_2, mk_1_3, mk_1_4, mk_1_5, mk_1_6, mk_2_m2, mk_2_0, mk_2_1, mk_2_2, mk_2_3, mk_2_4, mk_2_5, mk_2_6, mk_2_7, mk_2_8, mk_2_9, mk_2_10, mk_3_m2, mk_3_0, mk_3_1, mk_3_2, mk_3_3, mk_3_4, mk_3_5, mk_4_m2, mk_4_m1, mk_5_m2, mk_5_m1, mk_11_m2, mk_11_m1, mk_42_m2, mk_42_m1, mk_73_m2, mk_73_0, mk_73_1, mk_73_2, mk_74_m2, mk_74_m1, mk_572_m2, mk_572_m1, mk_715_m2, mk_715_m1, mk_717_m2, mk_717_m1, mk_718_m2, mk_718_m1, mk_716_m2, mk_716_0, mk_716_1, mk_716_2, mk_716_3, mk_716_4, mk_719_m2, mk_74_at, mk_572_at, mk_715_at, mk_717_at, mk_718_at, mk_4_at, mk_5_at, mk_11_at, mk_42_at, mk_O_k, mk_O_0, mk_O_1, mk_O_2, mk_O_3, mk_L_k, mk_L_0, mk_L_1, mk_L_2, mk_L_3, mk_L_4, mk_L_5, mk_L_6, mk_L_7, mk_L_8, mk_L_9, mk_L_10, mk_X_k, mk_X_0, mk_X_1, mk_X_2, mk_X_3, mk_X_4, mk_75_k, mk_573_k, r_1_6, r_73_1, r_73_2, r_716_1, r_716_2, r_716_3, r_715, r_717, r_718, s_O0, s_O1, s_O2, s_O3, s_L0, s_L1, s_L2, s_L3, s_L4, s_L5, s_L6, s_L7, s_L8, s_L9, s_L10, s_X0, s_X1, s_X2, s_X3, s_X4, s_2_4, s_2_5, s_2_6, s_2_7, s_2_8, s_2_9, s_2_10, s_3_1, s_3_2, s_3_3, s_3_4, s_3_5, s_4]
      exact r1
    · rw [if_neg q0, if_neg q1, if_neg q2] at r1
      simp only [to_bz, to_nz, to_cz, to_iz]
      simp (disch := omega) only [bz_t, nz_t, cz_T, cz_t, iz_T, iz_F, iz_y, iz_n, not_true_eq_false, not_false_eq_true, true_and, and_true, w32_e, w64_e, mset_e, mset_n, up_e, up_n, if_y, if_n, Int.add_zero, mk_1_m2, mk_1_0, mk_1_1, mk_1_2, mk_1_3, mk_1_4, mk_1_5, mk_1_6, mk_2_m2, mk_2_0, mk_2_1, mk_2_2, mk_2_3, mk_2_4, mk_2_5, mk_2_6, mk_2_7, mk_2_8, mk_2_9, mk_2_10, mk_3_m2, mk_3_0, mk_3_1, mk_3_2, mk_3_3, mk_3_4, mk_3_5, mk_4_m2, mk_4_m1, mk_5_m2, mk_5_m1, mk_11_m2, mk_11_m1, mk_42_m2, mk_42_m1, mk_73_m2, mk_73_0, mk_73_1, mk_73_2, mk_74_m2, mk_74_m1, mk_572_m2, mk_572_m1, mk_715_m2, mk_715_m1, mk_717_m2, mk_717_m1, mk_718_m2, mk_718_m1, mk_716_m2, mk_716_0, mk_716_1, mk_716_2, mk_716_3, mk_716_4, mk_719_m2, mk_74_at, mk_572_at, mk_715_at, mk_717_at, mk_718_at, mk_4_at, mk_5_at, mk_11_at, mk_42_at, mk_O_k, mk_O_0, mk_O_1, mk_O_2, mk_O_3, mk_L_k, mk_L_0, mk_L_1, mk_L_2, mk_L_3, mk_L_4, mk_L_5, mk_L_6, mk_L_7, mk_L_8, mk_L_9, mk_L_10, mk_X_k, mk_X_0, mk_X_1, mk_X_2, mk_X_3, mk_X_4, mk_75_k, mk_573_k, r_1_6, r_73_1, r_73_2, r_716_1, r_716_2, r_716_3, r_715, r_717, r_718, s_O0, s_O1, s_O2, s_O3, s_L0, s_L1, s_L2, s_L3, s_L4, s_L5, s_L6, s_L7, s_L8, s_L9, s_L10, s_X0, s_X1, s_X2, s_X3, s_X4, s_2_4, s_2_5, s_2_6, s_2_7, s_2_8, s_2_9, s_2_10, s_3_1, s_3_2, s_3_3, s_3_4, s_3_5, s_4]
      exact r1
  | succ r ih =>
    intro g bc bs h1 h2 hb H a S E
    obtain ⟨g, rfl⟩ : ∃ g', g = g' + 1 := ⟨g - 1, by omega⟩
    rw [nc1] at *
    obtain ⟨G0, G1⟩ := G (r + 1) (by omega) (by omega)
    rw [nc1] at G0 G1
    obtain ⟨a1, e1, S1, E1⟩ := q_docAt (N := N) m hN S z1 (i := e - ((r : Int) + 1)) G0 (by omega)
    rw [G1] at e1
    have r1 := ih g (bc - 10) (bs - 2000) (by omega) (by omega) (by omega) (by
      rw [show bc - 10 - 10 * (r : Int) = bc - 10 * ((r : Int) + 1) by omega, show bs - 2000 - 2000 * (r : Int) = bs - 2000 * ((r : Int) + 1) by omega]
      exact H) a1 S1 (zE_t E E1)
    obtain ⟨a2, r1, r2⟩ := r1
    refine ⟨a2, ?_, r2⟩
    have pr := p10_1 r
    have pb : p10 r ≤ p10 9 := p10_m (by omega)
    have p9 : p10 9 = 1000000000 := rfl
    have d1 := div_b (A := 1000000000) (x := x) (y := p10 r) (by omega) (by omega)
    have t1 : Int.tdiv x (p10 r) = x / p10 r := Int.tdiv_eq_ediv_of_nonneg hx.1
    have t2 : Int.tdiv (p10 r) 10 = q10 r := (Int.tdiv_eq_ediv_of_nonneg (by omega)).trans (q10_d r)
    have t3 : q10 r = p10 r / 10 := (q10_d r).symm
    have t4 := o_rem_g (x := x / p10 r) (n := 10) (by omega) (by omega)
    rw [f_L_document_b128, show q10 (r + 1) = p10 r from rfl]
    rw [show e - (r : Int) = e - ((r : Int) + 1) + 1 by omega] at r1
    rw [show r + 1 - 1 = r by omega] at e1
    have eb : e - ((r : Int) + 1) ≤ 30 := by omega
    generalize e - ((r : Int) + 1) = e' at *
    generalize x / p10 r = y at *
    generalize p10 r = p at *
    simp only [to_bz, to_nz, to_cz, to_iz]
    simp (disch := omega) only [e1, t1, t2, t4, bz_t, nz_t, cz_T, cz_t, iz_T, iz_F, iz_y, iz_n, not_true_eq_false, not_false_eq_true, true_and, and_true, w32_e, w64_e, mset_e, mset_n, up_e, up_n, if_y, if_n, Int.add_zero, mk_1_m2, mk_1_0, mk_1_1, mk_1_2, mk_1_3, mk_1_4, mk_1_5, mk_1_6, mk_2_m2, mk_2_0, mk_2_1, mk_2_2, mk_2_3, mk_2_4, mk_2_5, mk_2_6, mk_2_7, mk_2_8, mk_2_9, mk_2_10, mk_3_m2, mk_3_0, mk_3_1, mk_3_2, mk_3_3, mk_3_4, mk_3_5, mk_4_m2, mk_4_m1, mk_5_m2, mk_5_m1, mk_11_m2, mk_11_m1, mk_42_m2, mk_42_m1, mk_73_m2, mk_73_0, mk_73_1, mk_73_2, mk_74_m2, mk_74_m1, mk_572_m2, mk_572_m1, mk_715_m2, mk_715_m1, mk_717_m2, mk_717_m1, mk_718_m2, mk_718_m1, mk_716_m2, mk_716_0, mk_716_1, mk_716_2, mk_716_3, mk_716_4, mk_719_m2, mk_74_at, mk_572_at, mk_715_at, mk_717_at, mk_718_at, mk_4_at, mk_5_at, mk_11_at, mk_42_at, mk_O_k, mk_O_0, mk_O_1, mk_O_2, mk_O_3, mk_L_k, mk_L_0, mk_L_1, mk_L_2, mk_L_3, mk_L_4, mk_L_5, mk_L_6, mk_L_7, mk_L_8, mk_L_9, mk_L_10, mk_X_k, mk_X_0, mk_X_1, mk_X_2, mk_X_3, mk_X_4, mk_75_k, mk_573_k, r_1_6, r_73_1, r_73_2, r_716_1, r_716_2, r_716_3, r_715, r_717, r_718, s_O0, s_O1, s_O2, s_O3, s_L0, s_L1, s_L2, s_L3, s_L4, s_L5, s_L6, s_L7, s_L8, s_L9, s_L10, s_X0, s_X1, s_X2, s_X3, s_X4, s_2_4, s_2_5, s_2_6, s_2_7, s_2_8, s_2_9, s_2_10, s_3_1, s_3_2, s_3_3, s_3_4, s_3_5, s_4]
    exact r1
theorem l_dc104 (k0 : Int → Int → Int → Int → Int → Int → Int → Mm → Rs) {l n k j x bc bs : Int} (hx : 0 ≤ x ∧ x < 1000000000) (μ : Mm) :
    ∀ (i g : Nat), (i : Int) + 1 ≤ nd x → i < g → f_L_document_b104 N k0 g 1 l n k j x (p10 ((nd x).toNat - 1 - i)) bc bs μ = f_L_document_b128 N k0 N 1 l n k j x (q10 (nd x).toNat) bc bs μ := by
  obtain ⟨n1, n2, n3, n4⟩ := nd_p hx
  have n9 := nd_9 hx
  have t1 : Int.tdiv x 10 = x / 10 := Int.tdiv_eq_ediv_of_nonneg hx.1
  have p9 : p10 9 = 1000000000 := rfl
  intro i
  induction i with
  | zero =>
    intro g h1 h2
    obtain ⟨g, rfl⟩ : ∃ g', g = g' + 1 := ⟨g - 1, by omega⟩
    rw [show (nd x).toNat - 1 - 0 = (nd x).toNat - 1 by omega]
    obtain ⟨d, hd⟩ : ∃ d, (nd x).toNat = d + 1 := ⟨(nd x).toNat - 1, by omega⟩
    rw [hd] at n1 ⊢
    rw [p10_s] at n1
    rw [show d + 1 - 1 = d by omega, f_L_document_b104, show q10 (d + 1) = p10 d from rfl]
    have pb : p10 d ≤ p10 9 := p10_m (by omega)
    generalize p10 d = p at *
    simp only [to_bz, to_nz, to_cz, to_iz]
    simp (disch := omega) only [t1, bz_t, nz_t, cz_T, cz_t, iz_T, iz_F, iz_y, iz_n, not_true_eq_false, not_false_eq_true, true_and, and_true, w32_e, w64_e, mset_e, mset_n, up_e, up_n, if_y, if_n, Int.add_zero, mk_1_m2, mk_1_0, mk_1_1, mk_1_2, mk_1_3, mk_1_4, mk_1_5, mk_1_6, mk_2_m2, mk_2_0, mk_2_1, mk_2_2, mk_2_3, mk_2_4, mk_2_5, mk_2_6, mk_2_7, mk_2_8, mk_2_9, mk_2_10, mk_3_m2, mk_3_0, mk_3_1, mk_3_2, mk_3_3, mk_3_4, mk_3_5, mk_4_m2, mk_4_m1, mk_5_m2, mk_5_m1, mk_11_m2, mk_11_m1, mk_42_m2, mk_42_m1, mk_73_m2, mk_73_0, mk_73_1, mk_73_2, mk_74_m2, mk_74_m1, mk_572_m2, mk_572_m1, mk_715_m2, mk_715_m1, mk_717_m2, mk_717_m1, mk_718_m2, mk_718_m1, mk_716_m2, mk_716_0, mk_716_1, mk_716_2, mk_716_3, mk_716_4, mk_719_m2, mk_74_at, mk_572_at, mk_715_at, mk_717_at, mk_718_at, mk_4_at, mk_5_at, mk_11_at, mk_42_at, mk_O_k, mk_O_0, mk_O_1, mk_O_2, mk_O_3, mk_L_k, mk_L_0, mk_L_1, mk_L_2, mk_L_3, mk_L_4, mk_L_5, mk_L_6, mk_L_7, mk_L_8, mk_L_9, mk_L_10, mk_X_k, mk_X_0, mk_X_1, mk_X_2, mk_X_3, mk_X_4, mk_75_k, mk_573_k, r_1_6, r_73_1, r_73_2, r_716_1, r_716_2, r_716_3, r_715, r_717, r_718, s_O0, s_O1, s_O2, s_O3, s_L0, s_L1, s_L2, s_L3, s_L4, s_L5, s_L6, s_L7, s_L8, s_L9, s_L10, s_X0, s_X1, s_X2, s_X3, s_X4, s_2_4, s_2_5, s_2_6, s_2_7, s_2_8, s_2_9, s_2_10, s_3_1, s_3_2, s_3_3, s_3_4, s_3_5, s_4]
  | succ i ih =>
    intro g h1 h2
    obtain ⟨g, rfl⟩ : ∃ g', g = g' + 1 := ⟨g - 1, by omega⟩
    have r := ih g (by omega) (by omega)
    have n5 : p10 ((nd x).toNat - 1) ≤ x := by rcases n2 with n2 | n2; omega; exact n2
    rw [show (nd x).toNat - 1 - i = ((nd x).toNat - 1 - (i + 1)) + 1 by omega, p10_s] at r
    have pm : p10 (((nd x).toNat - 1 - (i + 1)) + 1) ≤ p10 ((nd x).toNat - 1) := p10_m (by omega)
    rw [p10_s] at pm
    have pb : p10 ((nd x).toNat - 1 - (i + 1)) ≤ p10 8 := p10_m (by omega)
    have p8 : p10 8 = 100000000 := rfl
    have p1 := p10_1 ((nd x).toNat - 1 - (i + 1))
    rw [f_L_document_b104]
    generalize p10 ((nd x).toNat - 1 - (i + 1)) = p at *
    rw [Int.mul_comm 10 p] at r
    simp only [to_bz, to_nz, to_cz, to_iz]
    simp (disch := omega) only [t1, bz_t, nz_t, cz_T, cz_t, iz_T, iz_F, iz_y, iz_n, not_true_eq_false, not_false_eq_true, true_and, and_true, w32_e, w64_e, mset_e, mset_n, up_e, up_n, if_y, if_n, Int.add_zero, mk_1_m2, mk_1_0, mk_1_1, mk_1_2, mk_1_3, mk_1_4, mk_1_5, mk_1_6, mk_2_m2, mk_2_0, mk_2_1, mk_2_2, mk_2_3, mk_2_4, mk_2_5, mk_2_6, mk_2_7, mk_2_8, mk_2_9, mk_2_10, mk_3_m2, mk_3_0, mk_3_1, mk_3_2, mk_3_3, mk_3_4, mk_3_5, mk_4_m2, mk_4_m1, mk_5_m2, mk_5_m1, mk_11_m2, mk_11_m1, mk_42_m2, mk_42_m1, mk_73_m2, mk_73_0, mk_73_1, mk_73_2, mk_74_m2, mk_74_m1, mk_572_m2, mk_572_m1, mk_715_m2, mk_715_m1, mk_717_m2, mk_717_m1, mk_718_m2, mk_718_m1, mk_716_m2, mk_716_0, mk_716_1, mk_716_2, mk_716_3, mk_716_4, mk_719_m2, mk_74_at, mk_572_at, mk_715_at, mk_717_at, mk_718_at, mk_4_at, mk_5_at, mk_11_at, mk_42_at, mk_O_k, mk_O_0, mk_O_1, mk_O_2, mk_O_3, mk_L_k, mk_L_0, mk_L_1, mk_L_2, mk_L_3, mk_L_4, mk_L_5, mk_L_6, mk_L_7, mk_L_8, mk_L_9, mk_L_10, mk_X_k, mk_X_0, mk_X_1, mk_X_2, mk_X_3, mk_X_4, mk_75_k, mk_573_k, r_1_6, r_73_1, r_73_2, r_716_1, r_716_2, r_716_3, r_715, r_717, r_718, s_O0, s_O1, s_O2, s_O3, s_L0, s_L1, s_L2, s_L3, s_L4, s_L5, s_L6, s_L7, s_L8, s_L9, s_L10, s_X0, s_X1, s_X2, s_X3, s_X4, s_2_4, s_2_5, s_2_6, s_2_7, s_2_8, s_2_9, s_2_10, s_3_1, s_3_2, s_3_3, s_3_4, s_3_5, s_4]
    exact r
/-- one number and its sign -/
theorem l_dcpart (hN : 5000 ≤ N) (k0 : Int → Int → Int → Int → Int → Int → Int → Mm → Rs) {l n j x k : Int} (z1 : 0 ≤ l ∧ l < w 2) (hj : 0 ≤ j ∧ j ≤ 3) (hx : 0 ≤ x ∧ x < 1000000000) (hk : 0 ≤ k) (he : k + nd x ≤ (dD w l).1) (hn : (dD w l).1 ≤ 30)
    (G : ∀ r : Nat, 1 ≤ r → (r : Int) ≤ nd x → (dD w l).2 (k + nd x - r) = 48 + x / p10 (r - 1) % 10)
    (G2 : (k + nd x < (dD w l).1 ∧ (dD w l).2 (k + nd x) = sgn j) ∨ (j = 3 ∧ k + nd x = (dD w l).1)) {bc bs : Int} (hb : 10 * (nd x + 1) ≤ bc ∧ 2000 * (nd x + 1) ≤ bs)
    (H : ∀ a, zST K w c a → zE a0 a → dO K w c m a0 (k0 1 l n (if k + nd x < (dD w l).1 then k + nd x + 1 else k + nd x) (j + 1) (bc - 10 * nd x - 10) (bs - 2000 * nd x - 2000) (mk w c m a))) :
    ∀ a, zST K w c a → zE a0 a → dO K w c m a0 (f_L_document_b104 N k0 N 1 l n k j x 1 bc bs (mk w c m a)) := by
  intro a S E
  have n9 := nd_9 hx
  have e1 := l_dc104 (N := N) k0 (l := l) (n := n) (k := k) (j := j) (bc := bc) (bs := bs) hx (mk w c m a) ((nd x).toNat - 1) N (by omega) (by omega)
  rw [show (nd x).toNat - 1 - ((nd x).toNat - 1) = 0 by omega, show p10 0 = 1 from rfl] at e1
  rw [e1]
  have r := l_dc128 (N := N) (c := c) m (a0 := a0) (K := K) hN k0 (n := n) z1 hj hx (e := k + nd x) he hn (fun r h1 h2 => ⟨by omega, G r h1 h2⟩) (R := fun bc bs μ => f_L_document_b202 N k0 1 l n (k + nd x) j (sgn j) bc bs μ) (fun _ _ _ => rfl) (nd x).toNat N bc bs (by omega) (by omega) (by omega) (by
    rw [show (((nd x).toNat : Nat) : Int) = nd x by omega]
    exact l_dc202 (N := N) (c := c) m (a0 := a0) hN k0 z1 hj (by omega) hn G2 (by omega) H) a S E
  rw [show k + nd x - (((nd x).toNat : Nat) : Int) = k by omega] at r
  exact r
/-- the mark at the end -/
theorem l_dc291 (hN : 5000 ≤ N) {l bc bs u0 : Int} (z1 : 0 ≤ l ∧ l < w 2) (hn : 1 ≤ (dD w l).1 ∧ (dD w l).1 ≤ 30) (hb : 10 ≤ bc ∧ 2000 ≤ bs) (hu : u0 = if 0 < un w l ∧ w (40 + 11 * l + 5) < w 0 + 8 then 1 else 0)
    (G : ((dD w l).2 ((dD w l).1 - 1) = 33 ∧ ug w l = 1) ∨ ((dD w l).2 ((dD w l).1 - 1) ≠ 33 ∧ ug w l = 0)) {cn : Nat} (hc : w 3 = cn) {a : Mm} (S : zST K w c a) (E : zE a0 a) (n : Nat) : ∀ k : Nat, k ≤ cn → cn < n + k →
    dO K w c m a0 (f_L_document_b291 N n 1 l (dD w l).1 (dD w l).1 (if u0 = 1 ∨ 0 < sm (uef w l) k then 1 else 0) k bc bs (mk w c m a)) := by
  have I := S.1.1.1
  have g := I.hd; unfold HEAD at g
  have c3 := q_count_3 (N := N) (c := c) m (a := a) I
  have c0 := q_count_0 (N := N) (c := c) m (a := a) I
  induction n with
  | zero => intro k h1 h2; omega
  | succ n ih =>
    intro k h1 h2
    rw [f_L_document_b291]
    by_cases e : k = cn
    · subst e
      obtain ⟨a1, e1, S1, E1⟩ := q_docAt (N := N) m hN S z1 (i := (dD w l).1 - 1) (by omega) (by omega)
      refine ⟨a1, ?_, S1, zE_t E E1⟩
      have eu : (if u0 = 1 ∨ 0 < sm (uef w l) k then (1 : Int) else 0) = ug w l := by
        unfold ug
        rw [show (w 3).toNat = k by omega]
        by_cases q : 0 < un w l ∧ w (40 + 11 * l + 5) < w 0 + 8
        · rw [if_pos q] at hu
          rw [if_pos (Or.inl hu), if_pos (Or.inl q)]
        · rw [if_neg q] at hu
          by_cases q2 : 0 < sm (uef w l) k
          · rw [if_pos (Or.inr q2), if_pos (Or.inr q2)]
          · rw [if_neg (by omega), if_neg (fun z => z.elim q q2)]
      rw [eu]
      unfold f_L_document_b381
      rcases G with ⟨G1, G2⟩ | ⟨G1, G2⟩
      · rw [G1] at e1
        rw [G2]
        simp only [to_bz, to_nz, to_cz, to_iz]
        simp (disch := omega) only [c3, e1, bz_t, nz_t, cz_T, cz_t, iz_T, iz_F, iz_y, iz_n, not_true_eq_false, not_false_eq_true, true_and, and_true, w32_e, w64_e, mset_e, mset_n, up_e, up_n, if_y, if_n, Int.add_zero, mk_1_m2, mk_1_0, mk_1_1, mk_1_2, mk_1_3, mk_1_4, mk_1_5, mk_1_6, mk_2_m2, mk_2_0, mk_2_1, mk_2_2, mk_2_3, mk_2_4, mk_2_5, mk_2_6, mk_2_7, mk_2_8, mk_2_9, mk_2_10, mk_3_m2, mk_3_0, mk_3_1, mk_3_2, mk_3_3, mk_3_4, mk_3_5, mk_4_m2, mk_4_m1, mk_5_m2, mk_5_m1, mk_11_m2, mk_11_m1, mk_42_m2, mk_42_m1, mk_73_m2, mk_73_0, mk_73_1, mk_73_2, mk_74_m2, mk_74_m1, mk_572_m2, mk_572_m1, mk_715_m2, mk_715_m1, mk_717_m2, mk_717_m1, mk_718_m2, mk_718_m1, mk_716_m2, mk_716_0, mk_716_1, mk_716_2, mk_716_3, mk_716_4, mk_719_m2, mk_74_at, mk_572_at, mk_715_at, mk_717_at, mk_718_at, mk_4_at, mk_5_at, mk_11_at, mk_42_at, mk_O_k, mk_O_0, mk_O_1, mk_O_2, mk_O_3, mk_L_k, mk_L_0, mk_L_1, mk_L_2, mk_L_3, mk_L_4, mk_L_5, mk_L_6, mk_L_7, mk_L_8, mk_L_9, mk_L_10, mk_X_k, mk_X_0, mk_X_1, mk_X_2, mk_X_3, mk_X_4, mk_75_k, mk_573_k, r_1_6, r_73_1, r_73_2, r_716_1, r_716_2, r_716_3, r_715, r_717, r_718, s_O0, s_O1, s_O2, s_O3, s_L0, s_L1, s_L2, s_L3, s_L4, s_L5, s_L6, s_L7, s_L8, s_L9, s_L10, s_X0, s_X1, s_X2, s_X3, s_X4, s_2_4, s_2_5, s_2_6, s_2_7, s_2_8, s_2_9, s_2_10, s_3_1, s_3_2, s_3_3, s_3_4, s_3_5, s_4]
      · rw [G2]
        generalize (dD w l).2 ((dD w l).1 - 1) = ch at *
        simp only [to_bz, to_nz, to_cz, to_iz]
        simp (disch := omega) only [c3, e1, bz_t, nz_t, cz_T, cz_t, iz_T, iz_F, iz_y, iz_n, not_true_eq_false, not_false_eq_true, true_and, and_true, w32_e, w64_e, mset_e, mset_n, up_e, up_n, if_y, if_n, Int.add_zero, mk_1_m2, mk_1_0, mk_1_1, mk_1_2, mk_1_3, mk_1_4, mk_1_5, mk_1_6, mk_2_m2, mk_2_0, mk_2_1, mk_2_2, mk_2_3, mk_2_4, mk_2_5, mk_2_6, mk_2_7, mk_2_8, mk_2_9, mk_2_10, mk_3_m2, mk_3_0, mk_3_1, mk_3_2, mk_3_3, mk_3_4, mk_3_5, mk_4_m2, mk_4_m1, mk_5_m2, mk_5_m1, mk_11_m2, mk_11_m1, mk_42_m2, mk_42_m1, mk_73_m2, mk_73_0, mk_73_1, mk_73_2, mk_74_m2, mk_74_m1, mk_572_m2, mk_572_m1, mk_715_m2, mk_715_m1, mk_717_m2, mk_717_m1, mk_718_m2, mk_718_m1, mk_716_m2, mk_716_0, mk_716_1, mk_716_2, mk_716_3, mk_716_4, mk_719_m2, mk_74_at, mk_572_at, mk_715_at, mk_717_at, mk_718_at, mk_4_at, mk_5_at, mk_11_at, mk_42_at, mk_O_k, mk_O_0, mk_O_1, mk_O_2, mk_O_3, mk_L_k, mk_L_0, mk_L_1, mk_L_2, mk_L_3, mk_L_4, mk_L_5, mk_L_6, mk_L_7, mk_L_8, mk_L_9, mk_L_10, mk_X_k, mk_X_0, mk_X_1, mk_X_2, mk_X_3, mk_X_4, mk_75_k, mk_573_k, r_1_6, r_73_1, r_73_2, r_716_1, r_716_2, r_716_3, r_715, r_717, r_718, s_O0, s_O1, s_O2, s_O3, s_L0, s_L1, s_L2, s_L3, s_L4, s_L5, s_L6, s_L7, s_L8, s_L9, s_L10, s_X0, s_X1, s_X2, s_X3, s_X4, s_2_4, s_2_5, s_2_6, s_2_7, s_2_8, s_2_9, s_2_10, s_3_1, s_3_2, s_3_3, s_3_4, s_3_5, s_4]
    · have r := ih (k + 1) (by omega) (by omega)
      have hk : 0 ≤ (k : Int) ∧ (k : Int) < w 3 := by omega
      have x := I.xp hk; unfold EXP at x
      have e0 := q_exported_0 (N := N) (c := c) m (a := a) I hk
      have e3 := q_exported_3 (N := N) (c := c) m (a := a) I hk
      have e4 := q_exported_4 (N := N) (c := c) m (a := a) I hk
      have sb := sm_nn (f := uef w l) (n := k) (fun i _ => (uef_b l i).1)
      rw [show sm (uef w l) (k + 1) = sm (uef w l) k + uef w l k from rfl, nc1] at r
      obtain ⟨a2, r1, r2⟩ := r
      refine ⟨a2, ?_, r2⟩
      generalize sm (uef w l) k = y at *
      have ub := uef_b (w := w) l (k : Int)
      by_cases q : u0 = 1 ∨ 0 < y
      · rw [if_pos q]
        rw [if_pos (by omega)] at r1
        simp only [to_bz, to_nz, to_cz, to_iz]
        simp (disch := omega) only [c3, bz_t, nz_t, cz_T, cz_t, iz_T, iz_F, iz_y, iz_n, not_true_eq_false, not_false_eq_true, true_and, and_true, w32_e, w64_e, mset_e, mset_n, up_e, up_n, if_y, if_n, Int.add_zero, mk_1_m2, mk_1_0, mk_1_1, mk_1_2, mk_1_3, mk_1_4, mk_1_5, mk_1_6, mk_2_m2, mk_2_0, mk_2_1, mk_2_2, mk_2_3, mk_2_4, mk_2_5, mk_2_6, mk_2_7, mk_2_8, mk_2_9, mk_2_10, mk_3_m2, mk_3_0, mk_3_1, mk_3_2, mk_3_3, mk_3_4, mk_3_5, mk_4_m2, mk_4_m1, mk_5_m2, mk_5_m1, mk_11_m2, mk_11_m1, mk_42_m2, mk_42_m1, mk_73_m2, mk_73_0, mk_73_1, mk_73_2, mk_74_m2, mk_74_m1, mk_572_m2, mk_572_m1, mk_715_m2, mk_715_m1, mk_717_m2, mk_717_m1, mk_718_m2, mk_718_m1, mk_716_m2, mk_716_0, mk_716_1, mk_716_2, mk_716_3, mk_716_4, mk_719_m2, mk_74_at, mk_572_at, mk_715_at, mk_717_at, mk_718_at, mk_4_at, mk_5_at, mk_11_at, mk_42_at, mk_O_k, mk_O_0, mk_O_1, mk_O_2, mk_O_3, mk_L_k, mk_L_0, mk_L_1, mk_L_2, mk_L_3, mk_L_4, mk_L_5, mk_L_6, mk_L_7, mk_L_8, mk_L_9, mk_L_10, mk_X_k, mk_X_0, mk_X_1, mk_X_2, mk_X_3, mk_X_4, mk_75_k, mk_573_k, r_1_6, r_73_1, r_73_2, r_716_1, r_716_2, r_716_3, r_715, r_717, r_718, s_O0, s_O1, s_O2, s_O3, s_L0, s_L1, s_L2, s_L3, s_L4, s_L5, s_L6, s_L7, s_L8, s_L9, s_L10, s_X0, s_X1, s_X2, s_X3, s_X4, s_2_4, s_2_5, s_2_6, s_2_7, s_2_8, s_2_9, s_2_10, s_3_1, s_3_2, s_3_3, s_3_4, s_3_5, s_4]
        exact r1
      · rw [if_neg q]
        by_cases q1 : w (370 + 5 * (k : Int)) = l
        · by_cases q2 : w (370 + 5 * (k : Int) + 4) = 0
          · by_cases q3 : w (370 + 5 * (k : Int) + 3) < w 0 + 8
            · rw [show uef w l (k : Int) = 1 from if_pos ⟨q1, q2, q3⟩, if_pos (by omega)] at r1
              simp only [to_bz, to_nz, to_cz, to_iz]
              simp (disch := omega) only [c3, e0, e4, e3, c0, bz_t, nz_t, cz_T, cz_t, iz_T, iz_F, iz_y, iz_n, not_true_eq_false, not_false_eq_true, true_and, and_true, w32_e, w64_e, mset_e, mset_n, up_e, up_n, if_y, if_n, Int.add_zero, mk_1_m2, mk_1_0, mk_1_1, mk_1_2, mk_1_3, mk_1_4, mk_1_5, mk_1_6, mk_2_m2, mk_2_0, mk_2_1, mk_2_2, mk_2_3, mk_2_4, mk_2_5, mk_2_6, mk_2_7, mk_2_8, mk_2_9, mk_2_10, mk_3_m2, mk_3_0, mk_3_1, mk_3_2, mk_3_3, mk_3_4, mk_3_5, mk_4_m2, mk_4_m1, mk_5_m2, mk_5_m1, mk_11_m2, mk_11_m1, mk_42_m2, mk_42_m1, mk_73_m2, mk_73_0, mk_73_1, mk_73_2, mk_74_m2, mk_74_m1, mk_572_m2, mk_572_m1, mk_715_m2, mk_715_m1, mk_717_m2, mk_717_m1, mk_718_m2, mk_718_m1, mk_716_m2, mk_716_0, mk_716_1, mk_716_2, mk_716_3, mk_716_4, mk_719_m2, mk_74_at, mk_572_at, mk_715_at, mk_717_at, mk_718_at, mk_4_at, mk_5_at, mk_11_at, mk_42_at, mk_O_k, mk_O_0, mk_O_1, mk_O_2, mk_O_3, mk_L_k, mk_L_0, mk_L_1, mk_L_2, mk_L_3, mk_L_4, mk_L_5, mk_L_6, mk_L_7, mk_L_8, mk_L_9, mk_L_10, mk_X_k, mk_X_0, mk_X_1, mk_X_2, mk_X_3, mk_X_4, mk_75_k, mk_573_k, r_1_6, r_73_1, r_73_2, r_716_1, r_716_2, r_716_3, r_715, r_717, r_718, s_O0, s_O1, s_O2, s_O3, s_L0, s_L1, s_L2, s_L3, s_L4, s_L5, s_L6, s_L7, s_L8, s_L9, s_L10, s_X0, s_X1, s_X2, s_X3, s_X4, s_2_4, s_2_5, s_2_6, s_2_7, s_2_8, s_2_9, s_2_10, s_3_1, s_3_2, s_3_3, s_3_4, s_3_5, s_4]
              exact r1
            · rw [show uef w l (k : Int) = 0 from if_neg (fun z => q3 z.2.2), if_neg (by omega)] at r1
              simp only [to_bz, to_nz, to_cz, to_iz]
              simp (disch := omega) only [c3, e0, e4, e3, c0, bz_t, nz_t, cz_T, cz_t, iz_T, iz_F, iz_y, iz_n, not_true_eq_false, not_false_eq_true, true_and, and_true, w32_e, w64_e, mset_e, mset_n, up_e, up_n, if_y, if_n, Int.add_zero, mk_1_m2, mk_1_0, mk_1_1, mk_1_2, mk_1_3, mk_1_4, mk_1_5, mk_1_6, mk_2_m2, mk_2_0, mk_2_1, mk_2_2, mk_2_3, mk_2_4, mk_2_5, mk_2_6, mk_2_7, mk_2_8, mk_2_9, mk_2_10, mk_3_m2, mk_3_0, mk_3_1, mk_3_2, mk_3_3, mk_3_4, mk_3_5, mk_4_m2, mk_4_m1, mk_5_m2, mk_5_m1, mk_11_m2, mk_11_m1, mk_42_m2, mk_42_m1, mk_73_m2, mk_73_0, mk_73_1, mk_73_2, mk_74_m2, mk_74_m1, mk_572_m2, mk_572_m1, mk_715_m2, mk_715_m1, mk_717_m2, mk_717_m1, mk_718_m2, mk_718_m1, mk_716_m2, mk_716_0, mk_716_1, mk_716_2, mk_716_3, mk_716_4, mk_719_m2, mk_74_at, mk_572_at, mk_715_at, mk_717_at, mk_718_at, mk_4_at, mk_5_at, mk_11_at, mk_42_at, mk_O_k, mk_O_0, mk_O_1, mk_O_2, mk_O_3, mk_L_k, mk_L_0, mk_L_1, mk_L_2, mk_L_3, mk_L_4, mk_L_5, mk_L_6, mk_L_7, mk_L_8, mk_L_9, mk_L_10, mk_X_k, mk_X_0, mk_X_1, mk_X_2, mk_X_3, mk_X_4, mk_75_k, mk_573_k, r_1_6, r_73_1, r_73_2, r_716_1, r_716_2, r_716_3, r_715, r_717, r_718, s_O0, s_O1, s_O2, s_O3, s_L0, s_L1, s_L2, s_L3, s_L4, s_L5, s_L6, s_L7, s_L8, s_L9, s_L10, s_X0, s_X1, s_X2, s_X3, s_X4, s_2_4, s_2_5, s_2_6, s_2_7, s_2_8, s_2_9, s_2_10, s_3_1, s_3_2, s_3_3, s_3_4, s_3_5, s_4]
              exact r1
          · rw [show uef w l (k : Int) = 0 from if_neg (fun z => q2 z.2.1), if_neg (by omega)] at r1
            simp only [to_bz, to_nz, to_cz, to_iz]
            simp (disch := omega) only [c3, e0, e4, bz_t, nz_t, cz_T, cz_t, iz_T, iz_F, iz_y, iz_n, not_true_eq_false, not_false_eq_true, true_and, and_true, w32_e, w64_e, mset_e, mset_n, up_e, up_n, if_y, if_n, Int.add_zero, mk_1_m2, mk_1_0, mk_1_1, mk_1_2, mk_1_3, mk_1_4, mk_1_5, mk_1_6, mk_2_m2, mk_2_0, mk_2_1, mk_2_2, mk_2_3, mk_2_4, mk_2_5, mk_2_6, mk_2_7, mk_2_8, mk_2_9, mk_2_10, mk_3_m2, mk_3_0, mk_3_1, mk_3_2, mk_3_3, mk_3_4, mk_3_5, mk_4_m2, mk_4_m1, mk_5_m2, mk_5_m1, mk_11_m2, mk_11_m1, mk_42_m2, mk_42_m1, mk_73_m2, mk_73_0, mk_73_1, mk_73_2, mk_74_m2, mk_74_m1, mk_572_m2, mk_572_m1, mk_715_m2, mk_715_m1, mk_717_m2, mk_717_m1, mk_718_m2, mk_718_m1, mk_716_m2, mk_716_0, mk_716_1, mk_716_2, mk_716_3, mk_716_4, mk_719_m2, mk_74_at, mk_572_at, mk_715_at, mk_717_at, mk_718_at, mk_4_at, mk_5_at, mk_11_at, mk_42_at, mk_O_k, mk_O_0, mk_O_1, mk_O_2, mk_O_3, mk_L_k, mk_L_0, mk_L_1, mk_L_2, mk_L_3, mk_L_4, mk_L_5, mk_L_6, mk_L_7, mk_L_8, mk_L_9, mk_L_10, mk_X_k, mk_X_0, mk_X_1, mk_X_2, mk_X_3, mk_X_4, mk_75_k, mk_573_k, r_1_6, r_73_1, r_73_2, r_716_1, r_716_2, r_716_3, r_715, r_717, r_718, s_O0, s_O1, s_O2, s_O3, s_L0, s_L1, s_L2, s_L3, s_L4, s_L5, s_L6, s_L7, s_L8, s_L9, s_L10, s_X0, s_X1, s_X2, s_X3, s_X4, s_2_4, s_2_5, s_2_6, s_2_7, s_2_8, s_2_9, s_2_10, s_3_1, s_3_2, s_3_3, s_3_4, s_3_5, s_4]
            exact r1
        · rw [show uef w l (k : Int) = 0 from if_neg (fun z => q1 z.1), if_neg (by omega)] at r1
          simp only [to_bz, to_nz, to_cz, to_iz]
          simp (disch := omega) only [c3, e0, bz_t, nz_t, cz_T, cz_t, iz_T, iz_F, iz_y, iz_n, not_true_eq_false, not_false_eq_true, true_and, and_true, w32_e, w64_e, mset_e, mset_n, up_e, up_n, if_y, if_n, Int.add_zero, mk_1_m2, mk_1_0, mk_1_1, mk_1_2, mk_1_3, mk_1_4, mk_1_5, mk_1_6, mk_2_m2, mk_2_0, mk_2_1, mk_2_2, mk_2_3, mk_2_4, mk_2_5, mk_2_6, mk_2_7, mk_2_8, mk_2_9, mk_2_10, mk_3_m2, mk_3_0, mk_3_1, mk_3_2, mk_3_3, mk_3_4, mk_3_5, mk_4_m2, mk_4_m1, mk_5_m2, mk_5_m1, mk_11_m2, mk_11_m1, mk_42_m2, mk_42_m1, mk_73_m2, mk_73_0, mk_73_1, mk_73_2, mk_74_m2, mk_74_m1, mk_572_m2, mk_572_m1, mk_715_m2, mk_715_m1, mk_717_m2, mk_717_m1, mk_718_m2, mk_718_m1, mk_716_m2, mk_716_0, mk_716_1, mk_716_2, mk_716_3, mk_716_4, mk_719_m2, mk_74_at, mk_572_at, mk_715_at, mk_717_at, mk_718_at, mk_4_at, mk_5_at, mk_11_at, mk_42_at, mk_O_k, mk_O_0, mk_O_1, mk_O_2, mk_O_3, mk_L_k, mk_L_0, mk_L_1, mk_L_2, mk_L_3, mk_L_4, mk_L_5, mk_L_6, mk_L_7, mk_L_8, mk_L_9, mk_L_10, mk_X_k, mk_X_0, mk_X_1, mk_X_2, mk_X_3, mk_X_4, mk_75_k, mk_573_k, r_1_6, r_73_1, r_73_2, r_716_1, r_716_2, r_716_3, r_715, r_717, r_718, s_O0, s_O1, s_O2, s_O3, s_L0, s_L1, s_L2, s_L3, s_L4, s_L5, s_L6, s_L7, s_L8, s_L9, s_L10, s_X0, s_X1, s_X2, s_X3, s_X4, s_2_4, s_2_5, s_2_6, s_2_7, s_2_8, s_2_9, s_2_10, s_3_1, s_3_2, s_3_3, s_3_4, s_3_5, s_4]
          exact r1
theorem q_document (hN : 5000 ≤ N) {a : Mm} (S : zST K w c a) {l : Int} (z1 : 0 ≤ l ∧ l < w 2) : dO K w c m a (f_L_document N 1 l (mk w c m a)) := by
  have I := S.1.1.1
  have g := I.hd; unfold HEAD at g
  have lo := I.lot z1; unfold LOT at lo
  obtain ⟨⟨d1, d2⟩, ⟨d3, d4⟩, ⟨d5, d6⟩, ⟨d7, d8⟩, d9, d10⟩ := d_b I z1
  have db := dC_b I z1
  have hdn := db.2.2
  -- the stations of the text
  have F8 : lE (dC w l) (dD w l) := by unfold dD; split; exact lE_C _ _; exact lE_i _
  obtain ⟨n7, g7⟩ := at_N F8
  have F7 := lE_t (lE_N _ d7) F8
  obtain ⟨s6, n6⟩ := at_C F7
  have F6 := lE_t (lE_C _ _) F7
  obtain ⟨n5, g5⟩ := at_N F6
  have F5 := lE_t (lE_N _ d5) F6
  obtain ⟨s4, n4⟩ := at_C F5
  have F4 := lE_t (lE_C _ _) F5
  obtain ⟨n3, g3⟩ := at_N F4
  have F3 := lE_t (lE_N _ d3) F4
  obtain ⟨s2, n2⟩ := at_C F3
  have F2 := lE_t (lE_C _ _) F3
  obtain ⟨n1, g1⟩ := at_N F2
  have F1 := lE_t (lE_N _ d1) F2
  obtain ⟨s0, n0⟩ := at_C F1
  clear F1 F2 F3 F4 F5 F6 F7 F8
  have e9 : (dD w l).1 = if ug w l = 1 then 1 + nd l + 1 + nd (w (40 + 11 * l)) + 1 + nd (un w l) + 1 + nd (wt w l 1) + 1 else 1 + nd l + 1 + nd (w (40 + 11 * l)) + 1 + nd (un w l) + 1 + nd (wt w l 1) := by
    have e : (dC w l).1 = 0 + 1 + nd l + 1 + nd (w (40 + 11 * l)) + 1 + nd (un w l) + 1 + nd (wt w l 1) := rfl
    unfold dD
    split
    · show (dC w l).1 + 1 = _; omega
    · omega
  have G9 : ((dD w l).2 ((dD w l).1 - 1) = 33 ∧ ug w l = 1) ∨ ((dD w l).2 ((dD w l).1 - 1) ≠ 33 ∧ ug w l = 0) := by
    by_cases q : ug w l = 1
    · left
      have F : lE (aC (dC w l) 33) (dD w l) := by unfold dD; rw [if_pos q]; exact lE_i _
      have e : (dD w l).1 = (dC w l).1 + 1 := by unfold dD; rw [if_pos q]; rfl
      rw [e, show (dC w l).1 + 1 - 1 = (dC w l).1 by omega]
      exact ⟨(at_C F).1, q⟩
    · right
      have e : (dD w l).1 = (dC w l).1 := by unfold dD; rw [if_neg q]
      have g71 := g7 1 (by omega) (by omega)
      rw [e]
      refine ⟨?_, by unfold ug at q ⊢; split at q <;> first | (exact absurd rfl q) | (rename_i h; exact if_neg h)⟩
      replace g71 : (dD w l).2 ((dC w l).1 - 1) = 48 + wt w l 1 / p10 (1 - 1) % 10 := g71
      rw [g71]
      omega
  replace g1 : ∀ r : Nat, 1 ≤ r → (r : Int) ≤ nd l → (dD w l).2 (1 + nd l - r) = 48 + l / p10 (r - 1) % 10 := g1
  replace s2 : (dD w l).2 (1 + nd l) = 47 := s2
  replace g3 : ∀ r : Nat, 1 ≤ r → (r : Int) ≤ nd (w (40 + 11 * l)) → (dD w l).2 (1 + nd l + 1 + nd (w (40 + 11 * l)) - r) = 48 + w (40 + 11 * l) / p10 (r - 1) % 10 := g3
  replace s4 : (dD w l).2 (1 + nd l + 1 + nd (w (40 + 11 * l))) = 58 := s4
  replace g5 : ∀ r : Nat, 1 ≤ r → (r : Int) ≤ nd (un w l) → (dD w l).2 (1 + nd l + 1 + nd (w (40 + 11 * l)) + 1 + nd (un w l) - r) = 48 + un w l / p10 (r - 1) % 10 := g5
  replace s6 : (dD w l).2 (1 + nd l + 1 + nd (w (40 + 11 * l)) + 1 + nd (un w l)) = 43 := s6
  replace g7 : ∀ r : Nat, 1 ≤ r → (r : Int) ≤ nd (wt w l 1) → (dD w l).2 (1 + nd l + 1 + nd (w (40 + 11 * l)) + 1 + nd (un w l) + 1 + nd (wt w l 1) - r) = 48 + wt w l 1 / p10 (r - 1) % 10 := g7
  replace s0 : (dD w l).2 0 = 76 := s0
  clear n0 n1 n2 n3 n4 n5 n6 n7
  have hu := ug_01 w l
  have dd1 : (dD w l).1 = 1 + nd l + 1 + nd (w (40 + 11 * l)) + 1 + nd (un w l) + 1 + nd (wt w l 1) + ug w l := by
    rcases hu with hu | hu
    · rw [if_neg (by omega)] at e9; omega
    · rw [if_pos hu] at e9; omega
  have s8 : ug w l = 1 → (dD w l).2 (1 + nd l + 1 + nd (w (40 + 11 * l)) + 1 + nd (un w l) + 1 + nd (wt w l 1)) = 33 := fun q => by
    rcases G9 with ⟨G1, G2⟩ | ⟨G1, G2⟩
    · rw [show 1 + nd l + 1 + nd (w (40 + 11 * l)) + 1 + nd (un w l) + 1 + nd (wt w l 1) = (dD w l).1 - 1 by omega]; exact G1
    · omega
  -- backwards: the mark
  have E4 : ∀ bc bs : Int, 10 ≤ bc ∧ 2000 ≤ bs → ∀ b, zST K w c b → zE a b → dO K w c m a (f_L_document_b46 N (N - 5 + 1) 1 l (dD w l).1 (dD w l).1 4 bc bs (mk w c m b)) := by
    intro bc bs hb b S E
    have l7 := q_lot_7 (N := N) (c := c) m (a := b) I z1
    have l5 := q_lot_5 (N := N) (c := c) m (a := b) I z1
    have c0 := q_count_0 (N := N) (c := c) m (a := b) I
    have r := l_dc291 (N := N) (c := c) m (a0 := a) hN z1 (bc := bc) (bs := bs) (by omega) hb rfl G9 (cn := (w 3).toNat) (by omega) S E N 0 (by omega) (by omega)
    rw [show ((0 : Nat) : Int) = 0 from rfl, show sm (uef w l) 0 = 0 from rfl] at r
    obtain ⟨a2, r1, r2⟩ := r
    refine ⟨a2, ?_, r2⟩
    rw [f_L_document_b46]
    by_cases q1 : 0 < un w l
    · by_cases q2 : w (40 + 11 * l + 5) < w 0 + 8
      · rw [if_pos (Or.inl (if_pos ⟨q1, q2⟩))] at r1
        simp only [to_bz, to_nz, to_cz, to_iz]
        simp (disch := omega) only [l7, l5, c0, bz_t, nz_t, cz_T, cz_t, iz_T, iz_F, iz_y, iz_n, not_true_eq_false, not_false_eq_true, true_and, and_true, w32_e, w64_e, mset_e, mset_n, up_e, up_n, if_y, if_n, Int.add_zero, mk_1_m2, mk_1_0, mk_1_1, mk_1_2, mk_1_3, mk_1_4, mk_1_5, mk_1_6, mk_2_m2, mk_2_0, mk_2_1, mk_2_2, mk_2_3, mk_2_4, mk_2_5, mk_2_6, mk_2_7, mk_2_8, mk_2_9, mk_2_10, mk_3_m2, mk_3_0, mk_3_1, mk_3_2, mk_3_3, mk_3_4, mk_3_5, mk_4_m2, mk_4_m1, mk_5_m2, mk_5_m1, mk_11_m2, mk_11_m1, mk_42_m2, mk_42_m1, mk_73_m2, mk_73_0, mk_73_1, mk_73_2, mk_74_m2, mk_74_m1, mk_572_m2, mk_572_m1, mk_715_m2, mk_715_m1, mk_717_m2, mk_717_m1, mk_718_m2, mk_718_m1, mk_716_m2, mk_716_0, mk_716_1, mk_716_2, mk_716_3, mk_716_4, mk_719_m2, mk_74_at, mk_572_at, mk_715_at, mk_717_at, mk_718_at, mk_4_at, mk_5_at, mk_11_at, mk_42_at, mk_O_k, mk_O_0, mk_O_1, mk_O_2, mk_O_3, mk_L_k, mk_L_0, mk_L_1, mk_L_2, mk_L_3, mk_L_4, mk_L_5, mk_L_6, mk_L_7, mk_L_8, mk_L_9, mk_L_10, mk_X_k, mk_X_0, mk_X_1, mk_X_2, mk_X_3, mk_X_4, mk_75_k, mk_573_k, r_1_6, r_73_1, r_73_2, r_716_1, r_716_2, r_716_3, r_715, r_717, r_718, s_O0, s_O1, s_O2, s_O3, s_L0, s_L1, s_L2, s_L3, s_L4, s_L5, s_L6, s_L7, s_L8, s_L9, s_L10, s_X0, s_X1, s_X2, s_X3, s_X4, s_2_4, s_2_5, s_2_6, s_2_7, s_2_8, s_2_9, s_2_10, s_3_1, s_3_2, s_3_3, s_3_4, s_3_5, s_4]
        exact r1
      · rw [if_neg (show ¬ (0 < un w l ∧ w (40 + 11 * l + 5) < w 0 + 8) from fun z => q2 z.2), if_neg (by omega)] at r1
        simp only [to_bz, to_nz, to_cz, to_iz]
        simp (disch := omega) only [l7, l5, c0, bz_t, nz_t, cz_T, cz_t, iz_T, iz_F, iz_y, iz_n, not_true_eq_false, not_false_eq_true, true_and, and_true, w32_e, w64_e, mset_e, mset_n, up_e, up_n, if_y, if_n, Int.add_zero, mk_1_m2, mk_1_0, mk_1_1, mk_1_2, mk_1_3, mk_1_4, mk_1_5, mk_1_6, mk_2_m2, mk_2_0, mk_2_1, mk_2_2, mk_2_3, mk_2_4, mk_2_5, mk_2_6, mk_2_7, mk_2_8, mk_2_9, mk_2_10, mk_3_m2, mk_3_0, mk_3_1, mk_3_2, mk_3_3, mk_3_4, mk_3_5, mk_4_m2, mk_4_m1, mk_5_m2, mk_5_m1, mk_11_m2, mk_11_m1, mk_42_m2, mk_42_m1, mk_73_m2, mk_73_0, mk_73_1, mk_73_2, mk_74_m2, mk_74_m1, mk_572_m2, mk_572_m1, mk_715_m2, mk_715_m1, mk_717_m2, mk_717_m1, mk_718_m2, mk_718_m1, mk_716_m2, mk_716_0, mk_716_1, mk_716_2, mk_716_3, mk_716_4, mk_719_m2, mk_74_at, mk_572_at, mk_715_at, mk_717_at, mk_718_at, mk_4_at, mk_5_at, mk_11_at, mk_42_at, mk_O_k, mk_O_0, mk_O_1, mk_O_2, mk_O_3, mk_L_k, mk_L_0, mk_L_1, mk_L_2, mk_L_3, mk_L_4, mk_L_5, mk_L_6, mk_L_7, mk_L_8, mk_L_9, mk_L_10, mk_X_k, mk_X_0, mk_X_1, mk_X_2, mk_X_3, mk_X_4, mk_75_k, mk_573_k, r_1_6, r_73_1, r_73_2, r_716_1, r_716_2, r_716_3, r_715, r_717, r_718, s_O0, s_O1, s_O2, s_O3, s_L0, s_L1, s_L2, s_L3, s_L4, s_L5, s_L6, s_L7, s_L8, s_L9, s_L10, s_X0, s_X1, s_X2, s_X3, s_X4, s_2_4, s_2_5, s_2_6, s_2_7, s_2_8, s_2_9, s_2_10, s_3_1, s_3_2, s_3_3, s_3_4, s_3_5, s_4]
        exact r1
    · rw [if_neg (show ¬ (0 < un w l ∧ w (40 + 11 * l + 5) < w 0 + 8) from fun z => q1 z.1), if_neg (by omega)] at r1
      simp only [to_bz, to_nz, to_cz, to_iz]
      simp (disch := omega) only [l7, bz_t, nz_t, cz_T, cz_t, iz_T, iz_F, iz_y, iz_n, not_true_eq_false, not_false_eq_true, true_and, and_true, w32_e, w64_e, mset_e, mset_n, up_e, up_n, if_y, if_n, Int.add_zero, mk_1_m2, mk_1_0, mk_1_1, mk_1_2, mk_1_3, mk_1_4, mk_1_5, mk_1_6, mk_2_m2, mk_2_0, mk_2_1, mk_2_2, mk_2_3, mk_2_4, mk_2_5, mk_2_6, mk_2_7, mk_2_8, mk_2_9, mk_2_10, mk_3_m2, mk_3_0, mk_3_1, mk_3_2, mk_3_3, mk_3_4, mk_3_5, mk_4_m2, mk_4_m1, mk_5_m2, mk_5_m1, mk_11_m2, mk_11_m1, mk_42_m2, mk_42_m1, mk_73_m2, mk_73_0, mk_73_1, mk_73_2, mk_74_m2, mk_74_m1, mk_572_m2, mk_572_m1, mk_715_m2, mk_715_m1, mk_717_m2, mk_717_m1, mk_718_m2, mk_718_m1, mk_716_m2, mk_716_0, mk_716_1, mk_716_2, mk_716_3, mk_716_4, mk_719_m2, mk_74_at, mk_572_at, mk_715_at, mk_717_at, mk_718_at, mk_4_at, mk_5_at, mk_11_at, mk_42_at, mk_O_k, mk_O_0, mk_O_1, mk_O_2, mk_O_3, mk_L_k, mk_L_0, mk_L_1, mk_L_2, mk_L_3, mk_L_4, mk_L_5, mk_L_6, mk_L_7, mk_L_8, mk_L_9, mk_L_10, mk_X_k, mk_X_0, mk_X_1, mk_X_2, mk_X_3, mk_X_4, mk_75_k, mk_573_k, r_1_6, r_73_1, r_73_2, r_716_1, r_716_2, r_716_3, r_715, r_717, r_718, s_O0, s_O1, s_O2, s_O3, s_L0, s_L1, s_L2, s_L3, s_L4, s_L5, s_L6, s_L7, s_L8, s_L9, s_L10, s_X0, s_X1, s_X2, s_X3, s_X4, s_2_4, s_2_5, s_2_6, s_2_7, s_2_8, s_2_9, s_2_10, s_3_1, s_3_2, s_3_3, s_3_4, s_3_5, s_4]
      exact r1
  have E3 : ∀ bc bs : Int, 10 * (nd (wt w l 1) + 2) ≤ bc ∧ 2000 * (nd (wt w l 1) + 2) ≤ bs → ∀ b, zST K w c b → zE a b → dO K w c m a (f_L_document_b46 N (N - 5 + 1 + 1) 1 l (dD w l).1 (1 + nd l + 1 + nd (w (40 + 11 * l)) + 1 + nd (un w l) + 1) 3 bc bs (mk w c m b)) := by
    intro bc bs hb b S E
    have l12 := q_lot_12 (N := N) (c := c) m (a := b) hN I z1
    have r := l_dcpart (N := N) (c := c) m (a0 := a) hN (f_L_document_b46 N (N - 5 + 1)) (n := (dD w l).1) (j := 3) (x := wt w l 1) (k := 1 + nd l + 1 + nd (w (40 + 11 * l)) + 1 + nd (un w l) + 1) z1 (by omega) (by omega) (by omega) (by omega) hdn g7 (by
      rcases hu with hu | hu
      · right; exact ⟨rfl, by omega⟩
      · left; exact ⟨by omega, s8 hu⟩) (bc := bc) (bs := bs) (by omega) (by
      have e : (if 1 + nd l + 1 + nd (w (40 + 11 * l)) + 1 + nd (un w l) + 1 + nd (wt w l 1) < (dD w l).1 then 1 + nd l + 1 + nd (w (40 + 11 * l)) + 1 + nd (un w l) + 1 + nd (wt w l 1) + 1 else 1 + nd l + 1 + nd (w (40 + 11 * l)) + 1 + nd (un w l) + 1 + nd (wt w l 1)) = (dD w l).1 := by split <;> omega
      rw [e]
      exact E4 _ _ (by omega)) b S E
    obtain ⟨a2, r1, r2⟩ := r
    refine ⟨a2, ?_, r2⟩
    rw [f_L_document_b46]
    generalize (dD w l).1 = n at *
    generalize 1 + nd l + 1 + nd (w (40 + 11 * l)) + 1 + nd (un w l) + 1 = k at *
    simp only [to_bz, to_nz, to_cz, to_iz]
    simp (disch := omega) only [l12, bz_t, nz_t, cz_T, cz_t, iz_T, iz_F, iz_y, iz_n, not_true_eq_false, not_false_eq_true, true_and, and_true, w32_e, w64_e, mset_e, mset_n, up_e, up_n, if_y, if_n, Int.add_zero, mk_1_m2, mk_1_0, mk_1_1, mk_1_2, mk_1_3, mk_1_4, mk_1_5, mk_1_6, mk_2_m2, mk_2_0, mk_2_1, mk_2_2, mk_2_3, mk_2_4, mk_2_5, mk_2_6, mk_2_7, mk_2_8, mk_2_9, mk_2_10, mk_3_m2, mk_3_0, mk_3_1, mk_3_2, mk_3_3, mk_3_4, mk_3_5, mk_4_m2, mk_4_m1, mk_5_m2, mk_5_m1, mk_11_m2, mk_11_m1, mk_42_m2, mk_42_m1, mk_73_m2, mk_73_0, mk_73_1, mk_73_2, mk_74_m2, mk_74_m1, mk_572_m2, mk_572_m1, mk_715_m2, mk_715_m1, mk_717_m2, mk_717_m1, mk_718_m2, mk_718_m1, mk_716_m2, mk_716_0, mk_716_1, mk_716_2, mk_716_3, mk_716_4, mk_719_m2, mk_74_at, mk_572_at, mk_715_at, mk_717_at, mk_718_at, mk_4_at, mk_5_at, mk_11_at, mk_42_at, mk_O_k, mk_O_0, mk_O_1, mk_O_2, mk_O_3, mk_L_k, mk_L_0, mk_L_1, mk_L_2, mk_L_3, mk_L_4, mk_L_5, mk_L_6, mk_L_7, mk_L_8, mk_L_9, mk_L_10, mk_X_k, mk_X_0, mk_X_1, mk_X_2, mk_X_3, mk_X_4, mk_75_k, mk_573_k, r_1_6, r_73_1, r_73_2, r_716_1, r_716_2, r_716_3, r_715, r_717, r_718, s_O0, s_O1, s_O2, s_O3, s_L0, s_L1, s_L2, s_L3, s_L4, s_L5, s_L6, s_L7, s_L8, s_L9, s_L10, s_X0, s_X1, s_X2, s_X3, s_X4, s_2_4, s_2_5, s_2_6, s_2_7, s_2_8, s_2_9, s_2_10, s_3_1, s_3_2, s_3_3, s_3_4, s_3_5, s_4]
    exact r1
  have E2 : ∀ bc bs : Int, 10 * (nd (un w l) + 1 + nd (wt w l 1) + 2) ≤ bc ∧ 2000 * (nd (un w l) + 1 + nd (wt w l 1) + 2) ≤ bs → ∀ b, zST K w c b → zE a b → dO K w c m a (f_L_document_b46 N (N - 5 + 1 + 1 + 1) 1 l (dD w l).1 (1 + nd l + 1 + nd (w (40 + 11 * l)) + 1) 2 bc bs (mk w c m b)) := by
    intro bc bs hb b S E
    have l7 := q_lot_7 (N := N) (c := c) m (a := b) I z1
    have r := l_dcpart (N := N) (c := c) m (a0 := a) hN (f_L_document_b46 N (N - 5 + 1 + 1)) (n := (dD w l).1) (j := 2) (x := un w l) (k := 1 + nd l + 1 + nd (w (40 + 11 * l)) + 1) z1 (by omega) (by omega) (by omega) (by omega) hdn g5 (Or.inl ⟨by omega, s6⟩) (bc := bc) (bs := bs) (by omega) (by
      rw [if_pos (by omega)]
      exact E3 _ _ (by omega)) b S E
    obtain ⟨a2, r1, r2⟩ := r
    refine ⟨a2, ?_, r2⟩
    rw [f_L_document_b46]
    generalize (dD w l).1 = n at *
    generalize 1 + nd l + 1 + nd (w (40 + 11 * l)) + 1 = k at *
    simp only [to_bz, to_nz, to_cz, to_iz]
    simp (disch := omega) only [l7, bz_t, nz_t, cz_T, cz_t, iz_T, iz_F, iz_y, iz_n, not_true_eq_false, not_false_eq_true, true_and, and_true, w32_e, w64_e, mset_e, mset_n, up_e, up_n, if_y, if_n, Int.add_zero, mk_1_m2, mk_1_0, mk_1_1, mk_1_2, mk_1_3, mk_1_4, mk_1_5, mk_1_6, mk_2_m2, mk_2_0, mk_2_1, mk_2_2, mk_2_3, mk_2_4, mk_2_5, mk_2_6, mk_2_7, mk_2_8, mk_2_9, mk_2_10, mk_3_m2, mk_3_0, mk_3_1, mk_3_2, mk_3_3, mk_3_4, mk_3_5, mk_4_m2, mk_4_m1, mk_5_m2, mk_5_m1, mk_11_m2, mk_11_m1, mk_42_m2, mk_42_m1, mk_73_m2, mk_73_0, mk_73_1, mk_73_2, mk_74_m2, mk_74_m1, mk_572_m2, mk_572_m1, mk_715_m2, mk_715_m1, mk_717_m2, mk_717_m1, mk_718_m2, mk_718_m1, mk_716_m2, mk_716_0, mk_716_1, mk_716_2, mk_716_3, mk_716_4, mk_719_m2, mk_74_at, mk_572_at, mk_715_at, mk_717_at, mk_718_at, mk_4_at, mk_5_at, mk_11_at, mk_42_at, mk_O_k, mk_O_0, mk_O_1, mk_O_2, mk_O_3, mk_L_k, mk_L_0, mk_L_1, mk_L_2, mk_L_3, mk_L_4, mk_L_5, mk_L_6, mk_L_7, mk_L_8, mk_L_9, mk_L_10, mk_X_k, mk_X_0, mk_X_1, mk_X_2, mk_X_3, mk_X_4, mk_75_k, mk_573_k, r_1_6, r_73_1, r_73_2, r_716_1, r_716_2, r_716_3, r_715, r_717, r_718, s_O0, s_O1, s_O2, s_O3, s_L0, s_L1, s_L2, s_L3, s_L4, s_L5, s_L6, s_L7, s_L8, s_L9, s_L10, s_X0, s_X1, s_X2, s_X3, s_X4, s_2_4, s_2_5, s_2_6, s_2_7, s_2_8, s_2_9, s_2_10, s_3_1, s_3_2, s_3_3, s_3_4, s_3_5, s_4]
    exact r1
  have E1 : ∀ bc bs : Int, 10 * (nd (w (40 + 11 * l)) + 1 + nd (un w l) + 1 + nd (wt w l 1) + 2) ≤ bc ∧ 2000 * (nd (w (40 + 11 * l)) + 1 + nd (un w l) + 1 + nd (wt w l 1) + 2) ≤ bs → ∀ b, zST K w c b → zE a b → dO K w c m a (f_L_document_b46 N (N - 5 + 1 + 1 + 1 + 1) 1 l (dD w l).1 (1 + nd l + 1) 1 bc bs (mk w c m b)) := by
    intro bc bs hb b S E
    have l0 := q_lot_0 (N := N) (c := c) m (a := b) I z1
    have r := l_dcpart (N := N) (c := c) m (a0 := a) hN (f_L_document_b46 N (N - 5 + 1 + 1 + 1)) (n := (dD w l).1) (j := 1) (x := w (40 + 11 * l)) (k := 1 + nd l + 1) z1 (by omega) (by omega) (by omega) (by omega) hdn g3 (Or.inl ⟨by omega, s4⟩) (bc := bc) (bs := bs) (by omega) (by
      rw [if_pos (by omega)]
      exact E2 _ _ (by omega)) b S E
    obtain ⟨a2, r1, r2⟩ := r
    refine ⟨a2, ?_, r2⟩
    rw [f_L_document_b46]
    generalize (dD w l).1 = n at *
    generalize 1 + nd l + 1 = k at *
    simp only [to_bz, to_nz, to_cz, to_iz]
    simp (disch := omega) only [l0, bz_t, nz_t, cz_T, cz_t, iz_T, iz_F, iz_y, iz_n, not_true_eq_false, not_false_eq_true, true_and, and_true, w32_e, w64_e, mset_e, mset_n, up_e, up_n, if_y, if_n, Int.add_zero, mk_1_m2, mk_1_0, mk_1_1, mk_1_2, mk_1_3, mk_1_4, mk_1_5, mk_1_6, mk_2_m2, mk_2_0, mk_2_1, mk_2_2, mk_2_3, mk_2_4, mk_2_5, mk_2_6, mk_2_7, mk_2_8, mk_2_9, mk_2_10, mk_3_m2, mk_3_0, mk_3_1, mk_3_2, mk_3_3, mk_3_4, mk_3_5, mk_4_m2, mk_4_m1, mk_5_m2, mk_5_m1, mk_11_m2, mk_11_m1, mk_42_m2, mk_42_m1, mk_73_m2, mk_73_0, mk_73_1, mk_73_2, mk_74_m2, mk_74_m1, mk_572_m2, mk_572_m1, mk_715_m2, mk_715_m1, mk_717_m2, mk_717_m1, mk_718_m2, mk_718_m1, mk_716_m2, mk_716_0, mk_716_1, mk_716_2, mk_716_3, mk_716_4, mk_719_m2, mk_74_at, mk_572_at, mk_715_at, mk_717_at, mk_718_at, mk_4_at, mk_5_at, mk_11_at, mk_42_at, mk_O_k, mk_O_0, mk_O_1, mk_O_2, mk_O_3, mk_L_k, mk_L_0, mk_L_1, mk_L_2, mk_L_3, mk_L_4, mk_L_5, mk_L_6, mk_L_7, mk_L_8, mk_L_9, mk_L_10, mk_X_k, mk_X_0, mk_X_1, mk_X_2, mk_X_3, mk_X_4, mk_75_k, mk_573_k, r_1_6, r_73_1, r_73_2, r_716_1, r_716_2, r_716_3, r_715, r_717, r_718, s_O0, s_O1, s_O2, s_O3, s_L0, s_L1, s_L2, s_L3, s_L4, s_L5, s_L6, s_L7, s_L8, s_L9, s_L10, s_X0, s_X1, s_X2, s_X3, s_X4, s_2_4, s_2_5, s_2_6, s_2_7, s_2_8, s_2_9, s_2_10, s_3_1, s_3_2, s_3_3, s_3_4, s_3_5, s_4]
    exact r1
  have E0 : ∀ bc bs : Int, 10 * (nd l + 1 + nd (w (40 + 11 * l)) + 1 + nd (un w l) + 1 + nd (wt w l 1) + 2) ≤ bc ∧ 2000 * (nd l + 1 + nd (w (40 + 11 * l)) + 1 + nd (un w l) + 1 + nd (wt w l 1) + 2) ≤ bs → ∀ b, zST K w c b → zE a b → dO K w c m a (f_L_document_b46 N (N - 5 + 1 + 1 + 1 + 1 + 1) 1 l (dD w l).1 1 0 bc bs (mk w c m b)) := by
    intro bc bs hb b S E
    have r := l_dcpart (N := N) (c := c) m (a0 := a) hN (f_L_document_b46 N (N - 5 + 1 + 1 + 1 + 1)) (n := (dD w l).1) (j := 0) (x := l) (k := 1) z1 (by omega) (by omega) (by omega) (by omega) hdn g1 (Or.inl ⟨by omega, s2⟩) (bc := bc) (bs := bs) (by omega) (by
      rw [if_pos (by omega)]
      exact E1 _ _ (by omega)) b S E
    obtain ⟨a2, r1, r2⟩ := r
    refine ⟨a2, ?_, r2⟩
    rw [f_L_document_b46]
    generalize (dD w l).1 = n at *
    simp only [to_bz, to_nz, to_cz, to_iz]
    simp (disch := omega) only [bz_t, nz_t, cz_T, cz_t, iz_T, iz_F, iz_y, iz_n, not_true_eq_false, not_false_eq_true, true_and, and_true, w32_e, w64_e, mset_e, mset_n, up_e, up_n, if_y, if_n, Int.add_zero, mk_1_m2, mk_1_0, mk_1_1, mk_1_2, mk_1_3, mk_1_4, mk_1_5, mk_1_6, mk_2_m2, mk_2_0, mk_2_1, mk_2_2, mk_2_3, mk_2_4, mk_2_5, mk_2_6, mk_2_7, mk_2_8, mk_2_9, mk_2_10, mk_3_m2, mk_3_0, mk_3_1, mk_3_2, mk_3_3, mk_3_4, mk_3_5, mk_4_m2, mk_4_m1, mk_5_m2, mk_5_m1, mk_11_m2, mk_11_m1, mk_42_m2, mk_42_m1, mk_73_m2, mk_73_0, mk_73_1, mk_73_2, mk_74_m2, mk_74_m1, mk_572_m2, mk_572_m1, mk_715_m2, mk_715_m1, mk_717_m2, mk_717_m1, mk_718_m2, mk_718_m1, mk_716_m2, mk_716_0, mk_716_1, mk_716_2, mk_716_3, mk_716_4, mk_719_m2, mk_74_at, mk_572_at, mk_715_at, mk_717_at, mk_718_at, mk_4_at, mk_5_at, mk_11_at, mk_42_at, mk_O_k, mk_O_0, mk_O_1, mk_O_2, mk_O_3, mk_L_k, mk_L_0, mk_L_1, mk_L_2, mk_L_3, mk_L_4, mk_L_5, mk_L_6, mk_L_7, mk_L_8, mk_L_9, mk_L_10, mk_X_k, mk_X_0, mk_X_1, mk_X_2, mk_X_3, mk_X_4, mk_75_k, mk_573_k, r_1_6, r_73_1, r_73_2, r_716_1, r_716_2, r_716_3, r_715, r_717, r_718, s_O0, s_O1, s_O2, s_O3, s_L0, s_L1, s_L2, s_L3, s_L4, s_L5, s_L6, s_L7, s_L8, s_L9, s_L10, s_X0, s_X1, s_X2, s_X3, s_X4, s_2_4, s_2_5, s_2_6, s_2_7, s_2_8, s_2_9, s_2_10, s_3_1, s_3_2, s_3_3, s_3_4, s_3_5, s_4]
    exact r1
  obtain ⟨a1, h1, S1, Z1⟩ := q_docLength (N := N) m hN S z1
  obtain ⟨a2, h2, S2, Z2⟩ := q_docAt (N := N) m hN S1 z1 (i := 0) (by omega) (by omega)
  rw [s0] at h2
  obtain ⟨a3, h3, S3, Z3⟩ := q_docAt_n (N := N) m hN S2 z1 (i := (dD w l).1) (by omega)
  have h4 := q_docAt_b (N := N) (c := c) m (a := a3) I z1 (i := -1) (by omega)
  obtain ⟨a5, r1, r2⟩ := E0 260 52000 (by omega) a3 S3 (zE_t Z1 (zE_t Z2 Z3))
  rw [show N - 5 + 1 + 1 + 1 + 1 + 1 = N by omega] at r1
  refine ⟨a5, ?_, r2⟩
  unfold f_L_document
  generalize (dD w l).1 = n at *
  rw [show (300 : Int) - 10 - 10 - 10 - 10 = 260 from rfl, show (60000 : Int) - 2000 - 2000 - 2000 - 2000 = 52000 from rfl]
  simp only [to_bz, to_nz, to_cz, to_iz]
  simp (disch := omega) only [h1, h2, h3, h4, bz_t, nz_t, cz_T, cz_t, iz_T, iz_F, iz_y, iz_n, not_true_eq_false, not_false_eq_true, true_and, and_true, w32_e, w64_e, mset_e, mset_n, up_e, up_n, if_y, if_n, Int.add_zero, mk_1_m2, mk_1_0, mk_1_1, mk_1_2, mk_1_3, mk_1_4, mk_1_5, mk_1_6, mk_2_m2, mk_2_0, mk_2_1, mk_2_2, mk_2_3, mk_2_4, mk_2_5, mk_2_6, mk_2_7, mk_2_8, mk_2_9, mk_2_10, mk_3_m2, mk_3_0, mk_3_1, mk_3_2, mk_3_3, mk_3_4, mk_3_5, mk_4_m2, mk_4_m1, mk_5_m2, mk_5_m1, mk_11_m2, mk_11_m1, mk_42_m2, mk_42_m1, mk_73_m2, mk_73_0, mk_73_1, mk_73_2, mk_74_m2, mk_74_m1, mk_572_m2, mk_572_m1, mk_715_m2, mk_715_m1, mk_717_m2, mk_717_m1, mk_718_m2, mk_718_m1, mk_716_m2, mk_716_0, mk_716_1, mk_716_2, mk_716_3, mk_716_4, mk_719_m2, mk_74_at, mk_572_at, mk_715_at, mk_717_at, mk_718_at, mk_4_at, mk_5_at, mk_11_at, mk_42_at, mk_O_k, mk_O_0, mk_O_1, mk_O_2, mk_O_3, mk_L_k, mk_L_0, mk_L_1, mk_L_2, mk_L_3, mk_L_4, mk_L_5, mk_L_6, mk_L_7, mk_L_8, mk_L_9, mk_L_10, mk_X_k, mk_X_0, mk_X_1, mk_X_2, mk_X_3, mk_X_4, mk_75_k, mk_573_k, r_1_6, r_73_1, r_73_2, r_716_1, r_716_2, r_716_3, r_715, r_717, r_718, s_O0, s_O1, s_O2, s_O3, s_L0, s_L1, s_L2, s_L3, s_L4, s_L5, s_L6, s_L7, s_L8, s_L9, s_L10, s_X0, s_X1, s_X2, s_X3, s_X4, s_2_4, s_2_5, s_2_6, s_2_7, s_2_8, s_2_9, s_2_10, s_3_1, s_3_2, s_3_3, s_3_4, s_3_5, s_4]
  exact r1
end DOCL
