/-! documents, both sides -/
def aC (z : Int × (Int → Int)) (x : Int) : Int × (Int → Int) := (z.1 + 1, up z.2 z.1 x)
def aN (z : Int × (Int → Int)) (x : Int) : Int × (Int → Int) := (z.1 + nd x, Gd (z.1 + nd x) x z.2)
def dC (w : Int → Int) (l : Int) : Int × (Int → Int) := aN (aC (aN (aC (aN (aC (aN (aC (0, fun _ => 0) 76) l) 47) (w (40 + 11 * l))) 58) (un w l)) 43) (wt w l 1)
def uef (w : Int → Int) (l e : Int) : Int := if w (370 + 5 * e) = l ∧ w (370 + 5 * e + 4) = 0 ∧ w (370 + 5 * e + 3) < w 0 + 8 then 1 else 0
def ug (w : Int → Int) (l : Int) : Int := if (0 < un w l ∧ w (40 + 11 * l + 5) < w 0 + 8) ∨ 0 < sm (uef w l) (w 3).toNat then 1 else 0
def dD (w : Int → Int) (l : Int) : Int × (Int → Int) := if ug w l = 1 then aC (dC w l) 33 else dC w l
/-- all signs are small -/
def cB (z : Int × (Int → Int)) : Prop := ∀ i, 0 ≤ i ∧ i < z.1 → 0 ≤ z.2 i ∧ z.2 i < 128
section DOCS
variable {N : Nat} (v : Int → Int) (c : Int → Int → Int) {a0 a : Mm} {w : Int → Int} {K : Int}
theorem cB_C {z : Int × (Int → Int)} (h : cB z) {x : Int} (hx : 0 ≤ x ∧ x < 128) : cB (aC z x) := by
  intro i hi
  have hi2 : 0 ≤ i ∧ i < z.1 + 1 := hi
  show 0 ≤ up z.2 z.1 x i ∧ up z.2 z.1 x i < 128
  by_cases e : i = z.1
  · rw [e, up_e]; exact hx
  · rw [up_n e]; exact h i (by omega)
theorem cB_N {z : Int × (Int → Int)} (h : cB z) {x : Int} (hx : 0 ≤ x) : cB (aN z x) := by
  intro i hi
  have hi2 : 0 ≤ i ∧ i < z.1 + nd x := hi
  show 0 ≤ Gd (z.1 + nd x) x z.2 i ∧ Gd (z.1 + nd x) x z.2 i < 128
  unfold Gd
  by_cases e : z.1 + nd x - nd x ≤ i ∧ i < z.1 + nd x
  · rw [if_pos e]; omega
  · rw [if_neg e]; exact h i (by omega)
theorem d_b (I : IA K w) {l : Int} (hl : 0 ≤ l ∧ l < w 2) : (1 ≤ nd l ∧ nd l ≤ 2) ∧ (1 ≤ nd (w (40 + 11 * l)) ∧ nd (w (40 + 11 * l)) ≤ 1) ∧ (1 ≤ nd (un w l) ∧ nd (un w l) ≤ 7) ∧ (1 ≤ nd (wt w l 1) ∧ nd (wt w l 1) ≤ 9) ∧ (0 ≤ un w l ∧ un w l ≤ 1000000) ∧ 0 ≤ wt w l 1 ∧ wt w l 1 ≤ 300000000 := by
  have g := I.hd; unfold HEAD at g
  have x := I.lot hl; unfold LOT at x
  have sb : 0 ≤ wt w l 1 ∧ wt w l 1 ≤ 300000000 := I.wt1 l (k := (w 3).toNat) (by omega)
  have ub : 0 ≤ un w l ∧ un w l ≤ 1000000 := by unfold un; omega
  refine ⟨⟨(nd_9 (by omega)).1, nd_le (k := 2) (by omega) (by omega) (by show l < 10 * (10 * 1); omega)⟩, ⟨(nd_9 (by omega)).1, nd_le (k := 1) (by omega) (by omega) (by show w (40 + 11 * l) < 10 * 1; omega)⟩, ⟨(nd_9 (by omega)).1, nd_le (k := 7) (by omega) (by omega) (by have : p10 7 = 10000000 := rfl; omega)⟩, nd_9 (by omega), ub, sb⟩
theorem dC_b (I : IA K w) {l : Int} (hl : 0 ≤ l ∧ l < w 2) : cB (dD w l) ∧ 0 ≤ (dD w l).1 ∧ (dD w l).1 ≤ 30 := by
  have d := d_b I hl
  have x := I.lot hl; unfold LOT at x
  have c0 : cB (dC w l) := cB_N (cB_C (cB_N (cB_C (cB_N (cB_C (cB_N (cB_C (fun i hi => by have h2 : 0 ≤ i ∧ i < 0 := hi; omega) (by omega)) (by omega)) (by omega)) (by omega)) (by omega)) (by omega)) (by omega)) (by omega)
  have e : (dC w l).1 = 0 + 1 + nd l + 1 + nd (w (40 + 11 * l)) + 1 + nd (un w l) + 1 + nd (wt w l 1) := rfl
  unfold dD
  split
  · refine ⟨cB_C c0 (by omega), ?_⟩
    show 0 ≤ (dC w l).1 + 1 ∧ (dC w l).1 + 1 ≤ 30
    omega
  · exact ⟨c0, by omega⟩
theorem sm_mono {f : Int → Int} {n k : Nat} (h : ∀ i : Int, 0 ≤ i ∧ i < n → 0 ≤ f i) (hk : k ≤ n) : sm f k ≤ sm f n := by
  induction n with
  | zero => rw [show k = 0 from by omega]; exact Int.le_refl _
  | succ n ih =>
    by_cases e : k = n + 1
    · rw [e]; exact Int.le_refl _
    · have q := ih (fun i hi => h i (by omega)) (by omega)
      have q2 := h (n : Int) (by omega)
      show sm f k ≤ sm f n + f n
      omega
theorem uef_b (l e : Int) : 0 ≤ uef w l e ∧ uef w l e ≤ 1 := by unfold uef; split <;> omega
theorem l_he (m : Int → Int) (I : IA K w) {l : Int} {cnt : Nat} (hc : w 3 = cnt) (n : Nat) : ∀ k : Nat, k ≤ cnt → cnt < n + k → sm (uef w l) k = 0 →
    f_X6_hasExportEndingBefore_b2 N n 2 l (w 0 + 8) k (mk w c m a) = some (if 0 < sm (uef w l) cnt then 1 else 0, mk w c m a) := by
  have g := I.hd; unfold HEAD at g
  induction n with
  | zero => intro k h1 h2; omega
  | succ n ih =>
    intro k h1 h2 h3
    rw [f_X6_hasExportEndingBefore_b2]
    by_cases e : k = cnt
    · subst e
      rw [if_neg (show ¬ 0 < sm (uef w l) k by omega)]
      simp only [to_bz, to_nz, to_cz, to_iz]
      simp (disch := omega) only [bz_t, nz_t, cz_T, cz_t, iz_T, iz_F, iz_y, iz_n, not_true_eq_false, not_false_eq_true, true_and, and_true, w32_e, w64_e, mset_e, mset_n, up_e, up_n, if_y, if_n, Int.add_zero, mk_1_m2, mk_1_0, mk_1_1, mk_1_2, mk_1_3, mk_1_4, mk_1_5, mk_1_6, mk_2_m2, mk_2_0, mk_2_1, mk_2_2, mk_2_3, mk_2_4, mk_2_5, mk_2_6, mk_2_7, mk_2_8, mk_2_9, mk_2_10, mk_3_m2, mk_3_0, mk_3_1, mk_3_2, mk_3_3, mk_3_4, mk_3_5, mk_4_m2, mk_4_m1, mk_5_m2, mk_5_m1, mk_11_m2, mk_11_m1, mk_42_m2, mk_42_m1, mk_73_m2, mk_73_0, mk_73_1, mk_73_2, mk_74_m2, mk_74_m1, mk_572_m2, mk_572_m1, mk_715_m2, mk_715_m1, mk_717_m2, mk_717_m1, mk_718_m2, mk_718_m1, mk_716_m2, mk_716_0, mk_716_1, mk_716_2, mk_716_3, mk_716_4, mk_719_m2, mk_74_at, mk_572_at, mk_715_at, mk_717_at, mk_718_at, mk_4_at, mk_5_at, mk_11_at, mk_42_at, mk_O_k, mk_O_0, mk_O_1, mk_O_2, mk_O_3, mk_L_k, mk_L_0, mk_L_1, mk_L_2, mk_L_3, mk_L_4, mk_L_5, mk_L_6, mk_L_7, mk_L_8, mk_L_9, mk_L_10, mk_X_k, mk_X_0, mk_X_1, mk_X_2, mk_X_3, mk_X_4, mk_75_k, mk_573_k, r_1_6, r_73_1, r_73_2, r_716_1, r_716_2, r_716_3, r_715, r_717, r_718, s_O0, s_O1, s_O2, s_O3, s_L0, s_L1, s_L2, s_L3, s_L4, s_L5, s_L6, s_L7, s_L8, s_L9, s_L10, s_X0, s_X1, s_X2, s_X3, s_X4, s_2_4, s_2_5, s_2_6, s_2_7, s_2_8, s_2_9, s_2_10, s_3_1, s_3_2, s_3_3, s_3_4, s_3_5, s_4]
    · have f := eq_bd (a_endsBeforeX N (v := w) c m a (e := (k : Int)) (by omega) (w 0 + 8))
      have s : sm (uef w l) (k + 1) = sm (uef w l) k + uef w l k := rfl
      by_cases q1 : w (370 + 5 * (k : Int)) = l
      · by_cases q2 : w (370 + 5 * (k : Int) + 4) = 0 ∧ w (370 + 5 * (k : Int) + 3) < w 0 + 8
        · have u : uef w l k = 1 := if_pos ⟨q1, q2⟩
          have mo := sm_mono (f := uef w l) (n := cnt) (k := k + 1) (fun i _ => (uef_b l i).1) (by omega)
          rw [if_pos (show 0 < sm (uef w l) cnt by omega)]
          rw [if_pos q2] at f
          simp only [to_bz, to_nz, to_cz, to_iz]
          simp (disch := omega) only [f, bz_t, nz_t, cz_T, cz_t, iz_T, iz_F, iz_y, iz_n, not_true_eq_false, not_false_eq_true, true_and, and_true, w32_e, w64_e, mset_e, mset_n, up_e, up_n, if_y, if_n, Int.add_zero, mk_1_m2, mk_1_0, mk_1_1, mk_1_2, mk_1_3, mk_1_4, mk_1_5, mk_1_6, mk_2_m2, mk_2_0, mk_2_1, mk_2_2, mk_2_3, mk_2_4, mk_2_5, mk_2_6, mk_2_7, mk_2_8, mk_2_9, mk_2_10, mk_3_m2, mk_3_0, mk_3_1, mk_3_2, mk_3_3, mk_3_4, mk_3_5, mk_4_m2, mk_4_m1, mk_5_m2, mk_5_m1, mk_11_m2, mk_11_m1, mk_42_m2, mk_42_m1, mk_73_m2, mk_73_0, mk_73_1, mk_73_2, mk_74_m2, mk_74_m1, mk_572_m2, mk_572_m1, mk_715_m2, mk_715_m1, mk_717_m2, mk_717_m1, mk_718_m2, mk_718_m1, mk_716_m2, mk_716_0, mk_716_1, mk_716_2, mk_716_3, mk_716_4, mk_719_m2, mk_74_at, mk_572_at, mk_715_at, mk_717_at, mk_718_at, mk_4_at, mk_5_at, mk_11_at, mk_42_at, mk_O_k, mk_O_0, mk_O_1, mk_O_2, mk_O_3, mk_L_k, mk_L_0, mk_L_1, mk_L_2, mk_L_3, mk_L_4, mk_L_5, mk_L_6, mk_L_7, mk_L_8, mk_L_9, mk_L_10, mk_X_k, mk_X_0, mk_X_1, mk_X_2, mk_X_3, mk_X_4, mk_75_k, mk_573_k, r_1_6, r_73_1, r_73_2, r_716_1, r_716_2, r_716_3, r_715, r_717, r_718, s_O0, s_O1, s_O2, s_O3, s_L0, s_L1, s_L2, s_L3, s_L4, s_L5, s_L6, s_L7, s_L8, s_L9, s_L10, s_X0, s_X1, s_X2, s_X3, s_X4, s_2_4, s_2_5, s_2_6, s_2_7, s_2_8, s_2_9, s_2_10, s_3_1, s_3_2, s_3_3, s_3_4, s_3_5, s_4]
        · have u : uef w l k = 0 := if_neg (fun z => q2 z.2)
          have r := ih (k + 1) (by omega) (by omega) (by omega)
          rw [nc1] at r
          rw [if_neg q2] at f
          simp only [to_bz, to_nz, to_cz, to_iz]
          simp (disch := omega) only [f, bz_t, nz_t, cz_T, cz_t, iz_T, iz_F, iz_y, iz_n, not_true_eq_false, not_false_eq_true, true_and, and_true, w32_e, w64_e, mset_e, mset_n, up_e, up_n, if_y, if_n, Int.add_zero, mk_1_m2, mk_1_0, mk_1_1, mk_1_2, mk_1_3, mk_1_4, mk_1_5, mk_1_6, mk_2_m2, mk_2_0, mk_2_1, mk_2_2, mk_2_3, mk_2_4, mk_2_5, mk_2_6, mk_2_7, mk_2_8, mk_2_9, mk_2_10, mk_3_m2, mk_3_0, mk_3_1, mk_3_2, mk_3_3, mk_3_4, mk_3_5, mk_4_m2, mk_4_m1, mk_5_m2, mk_5_m1, mk_11_m2, mk_11_m1, mk_42_m2, mk_42_m1, mk_73_m2, mk_73_0, mk_73_1, mk_73_2, mk_74_m2, mk_74_m1, mk_572_m2, mk_572_m1, mk_715_m2, mk_715_m1, mk_717_m2, mk_717_m1, mk_718_m2, mk_718_m1, mk_716_m2, mk_716_0, mk_716_1, mk_716_2, mk_716_3, mk_716_4, mk_719_m2, mk_74_at, mk_572_at, mk_715_at, mk_717_at, mk_718_at, mk_4_at, mk_5_at, mk_11_at, mk_42_at, mk_O_k, mk_O_0, mk_O_1, mk_O_2, mk_O_3, mk_L_k, mk_L_0, mk_L_1, mk_L_2, mk_L_3, mk_L_4, mk_L_5, mk_L_6, mk_L_7, mk_L_8, mk_L_9, mk_L_10, mk_X_k, mk_X_0, mk_X_1, mk_X_2, mk_X_3, mk_X_4, mk_75_k, mk_573_k, r_1_6, r_73_1, r_73_2, r_716_1, r_716_2, r_716_3, r_715, r_717, r_718, s_O0, s_O1, s_O2, s_O3, s_L0, s_L1, s_L2, s_L3, s_L4, s_L5, s_L6, s_L7, s_L8, s_L9, s_L10, s_X0, s_X1, s_X2, s_X3, s_X4, s_2_4, s_2_5, s_2_6, s_2_7, s_2_8, s_2_9, s_2_10, s_3_1, s_3_2, s_3_3, s_3_4, s_3_5, s_4]
          exact r
      · have u : uef w l k = 0 := if_neg (fun z => q1 z.1)
        have r := ih (k + 1) (by omega) (by omega) (by omega)
        rw [nc1] at r
        simp only [to_bz, to_nz, to_cz, to_iz]
        simp (disch := omega) only [bz_t, nz_t, cz_T, cz_t, iz_T, iz_F, iz_y, iz_n, not_true_eq_false, not_false_eq_true, true_and, and_true, w32_e, w64_e, mset_e, mset_n, up_e, up_n, if_y, if_n, Int.add_zero, mk_1_m2, mk_1_0, mk_1_1, mk_1_2, mk_1_3, mk_1_4, mk_1_5, mk_1_6, mk_2_m2, mk_2_0, mk_2_1, mk_2_2, mk_2_3, mk_2_4, mk_2_5, mk_2_6, mk_2_7, mk_2_8, mk_2_9, mk_2_10, mk_3_m2, mk_3_0, mk_3_1, mk_3_2, mk_3_3, mk_3_4, mk_3_5, mk_4_m2, mk_4_m1, mk_5_m2, mk_5_m1, mk_11_m2, mk_11_m1, mk_42_m2, mk_42_m1, mk_73_m2, mk_73_0, mk_73_1, mk_73_2, mk_74_m2, mk_74_m1, mk_572_m2, mk_572_m1, mk_715_m2, mk_715_m1, mk_717_m2, mk_717_m1, mk_718_m2, mk_718_m1, mk_716_m2, mk_716_0, mk_716_1, mk_716_2, mk_716_3, mk_716_4, mk_719_m2, mk_74_at, mk_572_at, mk_715_at, mk_717_at, mk_718_at, mk_4_at, mk_5_at, mk_11_at, mk_42_at, mk_O_k, mk_O_0, mk_O_1, mk_O_2, mk_O_3, mk_L_k, mk_L_0, mk_L_1, mk_L_2, mk_L_3, mk_L_4, mk_L_5, mk_L_6, mk_L_7, mk_L_8, mk_L_9, mk_L_10, mk_X_k, mk_X_0, mk_X_1, mk_X_2, mk_X_3, mk_X_4, mk_75_k, mk_573_k, r_1_6, r_73_1, r_73_2, r_716_1, r_716_2, r_716_3, r_715, r_717, r_718, s_O0, s_O1, s_O2, s_O3, s_L0, s_L1, s_L2, s_L3, s_L4, s_L5, s_L6, s_L7, s_L8, s_L9, s_L10, s_X0, s_X1, s_X2, s_X3, s_X4, s_2_4, s_2_5, s_2_6, s_2_7, s_2_8, s_2_9, s_2_10, s_3_1, s_3_2, s_3_3, s_3_4, s_3_5, s_4]
        exact r
theorem x_doc (m : Int → Int) (hN : 5000 ≤ N) (I : IA K w) (hz : zB a) (h0 : 0 ≤ a 719 3) {l : Int} (hl : 0 ≤ l ∧ l < w 2) : ∃ a', f_X7_writeDocument N 1 l (12 + l) (mk w c m a) = some (0, mk w c m a') ∧ xC a (dD w l).2 (dD w l).1 a' ∧ (dD w l).1 ≤ a' (a' 719 0) (-1) := by
  have g := I.hd; unfold HEAD at g
  have x := I.lot hl; unfold LOT at x
  have d := d_b I hl
  have wt1 := fun a => eq_bd (a_waitingUnitsOf N c m a hN I l)
  have en := fun a => A_endsL N (v := w) c m a (l := l) (d := w 0 + 8) (by omega)
  have he := fun a => l_he (N := N) c (a := a) m I (l := l) (cnt := (w 3).toNat) (by omega) N 0 (by omega) (by omega) rfl
  rw [show ((0 : Nat) : Int) = 0 from rfl] at he
  have rd : w (40 + 11 * l + 2) - w (40 + 11 * l + 7) = un w l := rfl
  have e8' : w 0 + 7 + 1 = w 0 + 8 := by omega
  obtain ⟨b0, e0, h0, c0⟩ := x_len0 N w c m hz h0 (fun _ => 0)
  obtain ⟨b1, e1, h1, c1⟩ := x_char N w c m (x := 76) h0 (by omega) (by omega)
  obtain ⟨b2, e2, h2, c2⟩ := x_num N w c m hN h1 (by omega) (x := l) (by omega) (by omega)
  obtain ⟨b3, e3, h3, c3⟩ := x_char N w c m (x := 47) h2 (by omega) (by omega)
  obtain ⟨b4, e4, h4, c4⟩ := x_num N w c m hN h3 (by omega) (x := w (40 + 11 * l)) (by omega) (by omega)
  obtain ⟨b5, e5, h5, c5⟩ := x_char N w c m (x := 58) h4 (by omega) (by omega)
  obtain ⟨b6, e6, h6, c6⟩ := x_num N w c m hN h5 (by omega) (x := un w l) (by omega) (by omega)
  obtain ⟨b7, e7, h7, c7⟩ := x_char N w c m (x := 43) h6 (by omega) (by omega)
  obtain ⟨b8, e8, h8, c8⟩ := x_num N w c m hN h7 (by omega) (x := wt w l 1) (by omega) (by omega)
  have en8 := en b8
  have he8 := he b8
  unfold f_X7_writeDocument f_X6_hasExportEndingBefore
  by_cases u1 : 0 < un w l ∧ w (40 + 11 * l + 5) < w 0 + 8
  · obtain ⟨b9, e9, h9, c9⟩ := x_char N w c m (x := 33) h8 (by omega) (by omega)
    rw [if_pos u1] at en8
    refine ⟨b9, ?_, by rw [show dD w l = aC (dC w l) 33 from if_pos (show ug w l = 1 from if_pos (Or.inl u1))]; exact h9, by rw [show dD w l = aC (dC w l) 33 from if_pos (show ug w l = 1 from if_pos (Or.inl u1))]; exact c9⟩
    simp only [to_bz, to_nz, to_cz, to_iz]
    simp (disch := omega) only [e0, e1, e2, e3, e4, e5, e6, e7, e8, e9, wt1, rd, e8', en8, bz_t, nz_t, cz_T, cz_t, iz_T, iz_F, iz_y, iz_n, not_true_eq_false, not_false_eq_true, true_and, and_true, w32_e, w64_e, mset_e, mset_n, up_e, up_n, if_y, if_n, Int.add_zero, mk_1_m2, mk_1_0, mk_1_1, mk_1_2, mk_1_3, mk_1_4, mk_1_5, mk_1_6, mk_2_m2, mk_2_0, mk_2_1, mk_2_2, mk_2_3, mk_2_4, mk_2_5, mk_2_6, mk_2_7, mk_2_8, mk_2_9, mk_2_10, mk_3_m2, mk_3_0, mk_3_1, mk_3_2, mk_3_3, mk_3_4, mk_3_5, mk_4_m2, mk_4_m1, mk_5_m2, mk_5_m1, mk_11_m2, mk_11_m1, mk_42_m2, mk_42_m1, mk_73_m2, mk_73_0, mk_73_1, mk_73_2, mk_74_m2, mk_74_m1, mk_572_m2, mk_572_m1, mk_715_m2, mk_715_m1, mk_717_m2, mk_717_m1, mk_718_m2, mk_718_m1, mk_716_m2, mk_716_0, mk_716_1, mk_716_2, mk_716_3, mk_716_4, mk_719_m2, mk_74_at, mk_572_at, mk_715_at, mk_717_at, mk_718_at, mk_4_at, mk_5_at, mk_11_at, mk_42_at, mk_O_k, mk_O_0, mk_O_1, mk_O_2, mk_O_3, mk_L_k, mk_L_0, mk_L_1, mk_L_2, mk_L_3, mk_L_4, mk_L_5, mk_L_6, mk_L_7, mk_L_8, mk_L_9, mk_L_10, mk_X_k, mk_X_0, mk_X_1, mk_X_2, mk_X_3, mk_X_4, mk_75_k, mk_573_k, r_1_6, r_73_1, r_73_2, r_716_1, r_716_2, r_716_3, r_715, r_717, r_718, s_O0, s_O1, s_O2, s_O3, s_L0, s_L1, s_L2, s_L3, s_L4, s_L5, s_L6, s_L7, s_L8, s_L9, s_L10, s_X0, s_X1, s_X2, s_X3, s_X4, s_2_4, s_2_5, s_2_6, s_2_7, s_2_8, s_2_9, s_2_10, s_3_1, s_3_2, s_3_3, s_3_4, s_3_5, s_4]
  · rw [if_neg u1] at en8
    by_cases u2 : 0 < sm (uef w l) (w 3).toNat
    · obtain ⟨b9, e9, h9, c9⟩ := x_char N w c m (x := 33) h8 (by omega) (by omega)
      rw [if_pos u2] at he8
      refine ⟨b9, ?_, by rw [show dD w l = aC (dC w l) 33 from if_pos (show ug w l = 1 from if_pos (Or.inr u2))]; exact h9, by rw [show dD w l = aC (dC w l) 33 from if_pos (show ug w l = 1 from if_pos (Or.inr u2))]; exact c9⟩
      simp only [to_bz, to_nz, to_cz, to_iz]
      simp (disch := omega) only [e0, e1, e2, e3, e4, e5, e6, e7, e8, e9, wt1, rd, e8', en8, he8, bz_t, nz_t, cz_T, cz_t, iz_T, iz_F, iz_y, iz_n, not_true_eq_false, not_false_eq_true, true_and, and_true, w32_e, w64_e, mset_e, mset_n, up_e, up_n, if_y, if_n, Int.add_zero, mk_1_m2, mk_1_0, mk_1_1, mk_1_2, mk_1_3, mk_1_4, mk_1_5, mk_1_6, mk_2_m2, mk_2_0, mk_2_1, mk_2_2, mk_2_3, mk_2_4, mk_2_5, mk_2_6, mk_2_7, mk_2_8, mk_2_9, mk_2_10, mk_3_m2, mk_3_0, mk_3_1, mk_3_2, mk_3_3, mk_3_4, mk_3_5, mk_4_m2, mk_4_m1, mk_5_m2, mk_5_m1, mk_11_m2, mk_11_m1, mk_42_m2, mk_42_m1, mk_73_m2, mk_73_0, mk_73_1, mk_73_2, mk_74_m2, mk_74_m1, mk_572_m2, mk_572_m1, mk_715_m2, mk_715_m1, mk_717_m2, mk_717_m1, mk_718_m2, mk_718_m1, mk_716_m2, mk_716_0, mk_716_1, mk_716_2, mk_716_3, mk_716_4, mk_719_m2, mk_74_at, mk_572_at, mk_715_at, mk_717_at, mk_718_at, mk_4_at, mk_5_at, mk_11_at, mk_42_at, mk_O_k, mk_O_0, mk_O_1, mk_O_2, mk_O_3, mk_L_k, mk_L_0, mk_L_1, mk_L_2, mk_L_3, mk_L_4, mk_L_5, mk_L_6, mk_L_7, mk_L_8, mk_L_9, mk_L_10, mk_X_k, mk_X_0, mk_X_1, mk_X_2, mk_X_3, mk_X_4, mk_75_k, mk_573_k, r_1_6, r_73_1, r_73_2, r_716_1, r_716_2, r_716_3, r_715, r_717, r_718, s_O0, s_O1, s_O2, s_O3, s_L0, s_L1, s_L2, s_L3, s_L4, s_L5, s_L6, s_L7, s_L8, s_L9, s_L10, s_X0, s_X1, s_X2, s_X3, s_X4, s_2_4, s_2_5, s_2_6, s_2_7, s_2_8, s_2_9, s_2_10, s_3_1, s_3_2, s_3_3, s_3_4, s_3_5, s_4]
    · rw [if_neg u2] at he8
      have u0 : ug w l = 0 := if_neg (fun z => z.elim u1 u2)
      refine ⟨b8, ?_, by rw [show dD w l = dC w l from if_neg (by omega)]; exact h8, by rw [show dD w l = dC w l from if_neg (by omega)]; exact c8⟩
      simp only [to_bz, to_nz, to_cz, to_iz]
      simp (disch := omega) only [e0, e1, e2, e3, e4, e5, e6, e7, e8, wt1, rd, e8', en8, he8, bz_t, nz_t, cz_T, cz_t, iz_T, iz_F, iz_y, iz_n, not_true_eq_false, not_false_eq_true, true_and, and_true, w32_e, w64_e, mset_e, mset_n, up_e, up_n, if_y, if_n, Int.add_zero, mk_1_m2, mk_1_0, mk_1_1, mk_1_2, mk_1_3, mk_1_4, mk_1_5, mk_1_6, mk_2_m2, mk_2_0, mk_2_1, mk_2_2, mk_2_3, mk_2_4, mk_2_5, mk_2_6, mk_2_7, mk_2_8, mk_2_9, mk_2_10, mk_3_m2, mk_3_0, mk_3_1, mk_3_2, mk_3_3, mk_3_4, mk_3_5, mk_4_m2, mk_4_m1, mk_5_m2, mk_5_m1, mk_11_m2, mk_11_m1, mk_42_m2, mk_42_m1, mk_73_m2, mk_73_0, mk_73_1, mk_73_2, mk_74_m2, mk_74_m1, mk_572_m2, mk_572_m1, mk_715_m2, mk_715_m1, mk_717_m2, mk_717_m1, mk_718_m2, mk_718_m1, mk_716_m2, mk_716_0, mk_716_1, mk_716_2, mk_716_3, mk_716_4, mk_719_m2, mk_74_at, mk_572_at, mk_715_at, mk_717_at, mk_718_at, mk_4_at, mk_5_at, mk_11_at, mk_42_at, mk_O_k, mk_O_0, mk_O_1, mk_O_2, mk_O_3, mk_L_k, mk_L_0, mk_L_1, mk_L_2, mk_L_3, mk_L_4, mk_L_5, mk_L_6, mk_L_7, mk_L_8, mk_L_9, mk_L_10, mk_X_k, mk_X_0, mk_X_1, mk_X_2, mk_X_3, mk_X_4, mk_75_k, mk_573_k, r_1_6, r_73_1, r_73_2, r_716_1, r_716_2, r_716_3, r_715, r_717, r_718, s_O0, s_O1, s_O2, s_O3, s_L0, s_L1, s_L2, s_L3, s_L4, s_L5, s_L6, s_L7, s_L8, s_L9, s_L10, s_X0, s_X1, s_X2, s_X3, s_X4, s_2_4, s_2_5, s_2_6, s_2_7, s_2_8, s_2_9, s_2_10, s_3_1, s_3_2, s_3_3, s_3_4, s_3_5, s_4]
end DOCS
section DOCS2
variable {N : Nat} {c : Int → Int → Int} {a0 a : Mm} {w : Int → Int} {K : Int}
end DOCS2
