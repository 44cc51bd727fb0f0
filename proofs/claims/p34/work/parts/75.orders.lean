/-! the law's check of orders -/
section ORD0
variable {N : Nat} {c : Int → Int → Int} (m : Int → Int) {a a0 : Mm} {w : Int → Int} {K K' : Int}
/-- the state is kept where only text, numbers, reason and history's numbers may change -/
theorem zST_g {A : Mm} (S : zST K w c a) (n : ∀ r k, r ≠ 716 → r ≠ 717 → r ≠ 718 → ¬ (r = 1 ∧ k = 6) → r ≠ 73 → A r k = a r k) (h7 : ∀ k, A 73 k = a 73 k) (R : zR A) (T : zT A) : zST K w c A := by
  have hk := zST_K S
  refine ⟨S.1, zH_i S.2.1 (h7 1) (h7 2) (by omega), fun s hs => ?_, R, T, ?_⟩
  · rw [n 715 s (by omega) (by omega) (by omega) (by omega) (by omega)]
    exact S.2.2.1 s hs
  · have d := S.2.2.2.2.2
    unfold zD at d ⊢
    rw [n 719 0 (by omega) (by omega) (by omega) (by omega) (by omega), n 0 0 (by omega) (by omega) (by omega) (by omega) (by omega), n 719 1 (by omega) (by omega) (by omega) (by omega) (by omega), n 719 3 (by omega) (by omega) (by omega) (by omega) (by omega), n (a 719 0) _ (by omega) (by omega) (by omega) (by omega) (by omega), n (a 719 0) _ (by omega) (by omega) (by omega) (by omega) (by omega)]
    exact d
/-- an act that is done, where text and numbers may have changed -/
theorem zST_actQ {u : Int → Int} {A : Mm} (S : zST K w c a) (hK : K ≤ K' ∧ K' ≤ 60000) (J : JV K' u) (q : zQ a A) (h7 : ∀ k, A 73 k = a 73 k) (R : zR A) : zST K' u (uc c ((a 73 1 + a 73 2) % 7 + 1) w) (apA A) := by
  have e1 := apA_c (A := A) (a := a) h7
  have o : ∀ r k, r ≠ 73 → apA A r k = A r k := fun r k h => apA_o h
  refine ⟨J, zH_ap S.2.1 S.1 hK (e1 1) (e1 2), fun s hs => ?_, ?_, ?_, ?_⟩
  · obtain ⟨q1, q2⟩ := S.2.2.1 s hs
    rw [o 715 s (by omega), q 715 s (by omega) (by omega) (by omega) (by omega), uc_s (c := c) w (by have h1 := S.2.1.1; have h2 := S.2.1.2.1; omega) hs]
    exact ⟨q1, fun z => JV_mono (q2 z) hK⟩
  · unfold zR at *; rw [apA_16]; exact R
  · have t := S.2.2.2.2.1
    unfold zT at *; rw [o 716 1 (by omega), q 716 1 (by omega) (by omega) (by omega) (by omega)]; exact t
  · have d := S.2.2.2.2.2
    have o2 : ∀ r k, r ≠ 73 → r ≠ 718 → r ≠ 716 → r ≠ 1 → apA A r k = a r k := fun r k g1 g2 g3 g4 => (o r k g1).trans (q r k g1 g2 (by omega) (by omega))
    unfold zD at d ⊢
    rw [o2 719 0 (by omega) (by omega) (by omega) (by omega), o2 0 0 (by omega) (by omega) (by omega) (by omega), o2 719 1 (by omega) (by omega) (by omega) (by omega), o2 719 3 (by omega) (by omega) (by omega) (by omega), o2 (a 719 0) _ (by omega) (by omega) (by omega) (by omega), o2 (a 719 0) _ (by omega) (by omega) (by omega) (by omega)]
    exact d
/-- so much is typed -/
def TP (K : Int) (w : Int → Int) (c : Int → Int → Int) (a0 : Mm) (xs : List Int) (a : Mm) : Prop := zST K w c a ∧ a 716 1 = (xs.length : Int) ∧ (∀ i : Int, 0 ≤ i ∧ i < (xs.length : Int) → a 717 i = tl xs i) ∧ (∀ k, a 73 k = a0 73 k) ∧ a 715 1 = a0 715 1
theorem tp_clear (S : zST K w c a) : f_X7_clearText N 1 (mk w c m a) = some (a 716 1, mk w c m (mset a 716 1 0)) ∧ TP K w c a [] (mset a 716 1 0) := by
  refine ⟨x_clearText m S, zST_g S (fun r k h1 h2 h3 h4 h5 => mset_n (Or.inl h1)) (fun k => mset_n (by omega)) ?_ ?_, mset_e _ _ _ _, fun i hi => ?_, fun k => mset_n (by omega), mset_n (by omega)⟩
  · have r := S.2.2.2.1
    unfold zR at *; rw [mset_n (by omega)]; exact r
  · unfold zT; rw [mset_e]; omega
  · exfalso
    have h : ((([] : List Int).length : Nat) : Int) = 0 := rfl
    omega
theorem tl_app {xs : List Int} {x i : Int} (h : 0 ≤ i ∧ i < (xs.length : Int)) : tl (xs ++ [x]) i = tl xs i := by
  rw [tl_e, tl_e, List.getD_eq_getElem?_getD, List.getD_eq_getElem?_getD, List.getElem?_append_left (by omega)]
theorem tp_type {xs : List Int} {L x : Int} (P : TP K w c a0 xs a) (hL : (xs.length : Int) = L) (h : L < 80) (hx : 0 ≤ x ∧ x ≤ 65535) : ∃ a', f_X7_type N 1 x (mk w c m a) = some (L + 1, mk w c m a') ∧ TP K w c a0 (xs ++ [x]) a' := by
  obtain ⟨S, p1, p2, p3, p4⟩ := P
  subst hL
  have t := S.2.2.2.2.1
  unfold zT at t
  refine ⟨_, x_type m S p1 h hx, zST_g S (fun r k h1 h2 h3 h4 h5 => by rw [mset_n (Or.inl h1), mset_n (Or.inl h2)]) (fun k => by rw [mset_n (by omega), mset_n (by omega)]) ?_ ?_, ?_, fun i hi => ?_, fun k => by rw [mset_n (by omega), mset_n (by omega)]; exact p3 k, by rw [mset_n (by omega), mset_n (by omega)]; exact p4⟩
  · have r := S.2.2.2.1
    unfold zR at *; rw [mset_n (by omega), mset_n (by omega)]; exact r
  · unfold zT; rw [mset_e]; omega
  · rw [mset_e, List.length_append]; rfl
  · rw [List.length_append] at hi
    have h1 : ((([x] : List Int).length : Nat)) = 1 := rfl
    rw [mset_n (by omega)]
    by_cases q : i = (xs.length : Int)
    · rw [q, mset_e]
      exact (tl_at xs [] x rfl).symm
    · rw [mset_n (by omega), tl_app (by omega)]
      exact p2 i (by omega)
/-- the orders are faulty -/
theorem tp_fault {xs : List Int} {L : Int} (hN : 5000 ≤ N) (P : TP K w c a0 xs a) (hL : (xs.length : Int) = L) (h : fF (tl xs) L 81 0 = L) (h0 : 0 ≤ L) : ∃ a', f_X7_runOrders N 1 (mk w c m a) = some (-100 - L, mk w c m a') ∧ TP K w c a0 xs a' := by
  obtain ⟨S, p1, p2, p3, p4⟩ := P
  subst hL
  obtain ⟨A, e, q, h7, r6⟩ := x_run_f m (T := tl xs) (L := (xs.length : Int)) hN S p1 p2 (by omega)
  rw [h] at e
  have t := S.2.2.2.2.1
  have r := S.2.2.2.1
  unfold zT at t
  have e1 : A 716 1 = a 716 1 := q 716 1 (by omega) (by omega) (by omega) (by omega)
  refine ⟨A, e, zST_g S (fun r k h1 h2 h3 h4 h5 => q r k h5 h3 (by omega) h4) h7 (by unfold zR at *; rw [r6]; exact r) (by unfold zT; rw [e1]; exact t), e1.trans p1, fun i hi => ?_, fun k => (h7 k).trans (p3 k), (q 715 1 (by omega) (by omega) (by omega) (by omega)).trans p4⟩
  rw [q 717 i (by omega) (by omega) (by omega) (by omega)]
  exact p2 i hi
theorem dgs_l (v : Int) : (dgs v).length = if v < 10 then 1 else 2 := by unfold dgs; split <;> rfl
theorem d4_e {v p r : Int} (hv : 0 ≤ v ∧ v ≤ 99) (hp : v / 10 < p) (g : Nat) (μ : Mm) : f_L_digits_b4 N (g + 1) 1 v p r μ = f_L_digits_b23 N N 1 v r p μ := by
  have t1 : Int.tdiv v 10 = v / 10 := Int.tdiv_eq_ediv_of_nonneg hv.1
  rw [f_L_digits_b4]
  simp only [to_bz, to_nz, to_cz, to_iz]
  simp (disch := omega) only [t1, bz_t, nz_t, cz_T, cz_t, iz_T, iz_F, iz_y, iz_n, not_true_eq_false, not_false_eq_true, true_and, and_true, w32_e, w64_e, mset_e, mset_n, up_e, up_n, if_y, if_n, Int.add_zero, mk_1_m2, mk_1_0, mk_1_1, mk_1_2, mk_1_3, mk_1_4, mk_1_5, mk_1_6, mk_2_m2, mk_2_0, mk_2_1, mk_2_2, mk_2_3, mk_2_4, mk_2_5, mk_2_6, mk_2_7, mk_2_8, mk_2_9, mk_2_10, mk_3_m2, mk_3_0, mk_3_1, mk_3_2, mk_3_3, mk_3_4, mk_3_5, mk_4_m2, mk_4_m1, mk_5_m2, mk_5_m1, mk_11_m2, mk_11_m1, mk_42_m2, mk_42_m1, mk_73_m2, mk_73_0, mk_73_1, mk_73_2, mk_74_m2, mk_74_m1, mk_572_m2, mk_572_m1, mk_715_m2, mk_715_m1, mk_717_m2, mk_717_m1, mk_718_m2, mk_718_m1, mk_716_m2, mk_716_0, mk_716_1, mk_716_2, mk_716_3, mk_716_4, mk_719_m2, mk_74_at, mk_572_at, mk_715_at, mk_717_at, mk_718_at, mk_4_at, mk_5_at, mk_11_at, mk_42_at, mk_O_k, mk_O_0, mk_O_1, mk_O_2, mk_O_3, mk_L_k, mk_L_0, mk_L_1, mk_L_2, mk_L_3, mk_L_4, mk_L_5, mk_L_6, mk_L_7, mk_L_8, mk_L_9, mk_L_10, mk_X_k, mk_X_0, mk_X_1, mk_X_2, mk_X_3, mk_X_4, mk_75_k, mk_573_k, r_1_6, r_73_1, r_73_2, r_716_1, r_716_2, r_716_3, r_715, r_717, r_718, s_O0, s_O1, s_O2, s_O3, s_L0, s_L1, s_L2, s_L3, s_L4, s_L5, s_L6, s_L7, s_L8, s_L9, s_L10, s_X0, s_X1, s_X2, s_X3, s_X4, s_2_4, s_2_5, s_2_6, s_2_7, s_2_8, s_2_9, s_2_10, s_3_1, s_3_2, s_3_3, s_3_4, s_3_5, s_4]
theorem d4_s {v r : Int} (hv : 0 ≤ v ∧ v ≤ 99) (hp : ¬ v / 10 < 1) (g : Nat) (μ : Mm) : f_L_digits_b4 N (g + 1) 1 v 1 r μ = f_L_digits_b4 N g 1 v 10 r μ := by
  have t1 : Int.tdiv v 10 = v / 10 := Int.tdiv_eq_ediv_of_nonneg hv.1
  rw [f_L_digits_b4]
  simp only [to_bz, to_nz, to_cz, to_iz]
  simp (disch := omega) only [t1, show (1 : Int) * 10 = 10 from rfl, bz_t, nz_t, cz_T, cz_t, iz_T, iz_F, iz_y, iz_n, not_true_eq_false, not_false_eq_true, true_and, and_true, w32_e, w64_e, mset_e, mset_n, up_e, up_n, if_y, if_n, Int.add_zero, mk_1_m2, mk_1_0, mk_1_1, mk_1_2, mk_1_3, mk_1_4, mk_1_5, mk_1_6, mk_2_m2, mk_2_0, mk_2_1, mk_2_2, mk_2_3, mk_2_4, mk_2_5, mk_2_6, mk_2_7, mk_2_8, mk_2_9, mk_2_10, mk_3_m2, mk_3_0, mk_3_1, mk_3_2, mk_3_3, mk_3_4, mk_3_5, mk_4_m2, mk_4_m1, mk_5_m2, mk_5_m1, mk_11_m2, mk_11_m1, mk_42_m2, mk_42_m1, mk_73_m2, mk_73_0, mk_73_1, mk_73_2, mk_74_m2, mk_74_m1, mk_572_m2, mk_572_m1, mk_715_m2, mk_715_m1, mk_717_m2, mk_717_m1, mk_718_m2, mk_718_m1, mk_716_m2, mk_716_0, mk_716_1, mk_716_2, mk_716_3, mk_716_4, mk_719_m2, mk_74_at, mk_572_at, mk_715_at, mk_717_at, mk_718_at, mk_4_at, mk_5_at, mk_11_at, mk_42_at, mk_O_k, mk_O_0, mk_O_1, mk_O_2, mk_O_3, mk_L_k, mk_L_0, mk_L_1, mk_L_2, mk_L_3, mk_L_4, mk_L_5, mk_L_6, mk_L_7, mk_L_8, mk_L_9, mk_L_10, mk_X_k, mk_X_0, mk_X_1, mk_X_2, mk_X_3, mk_X_4, mk_75_k, mk_573_k, r_1_6, r_73_1, r_73_2, r_716_1, r_716_2, r_716_3, r_715, r_717, r_718, s_O0, s_O1, s_O2, s_O3, s_L0, s_L1, s_L2, s_L3, s_L4, s_L5, s_L6, s_L7, s_L8, s_L9, s_L10, s_X0, s_X1, s_X2, s_X3, s_X4, s_2_4, s_2_5, s_2_6, s_2_7, s_2_8, s_2_9, s_2_10, s_3_1, s_3_2, s_3_3, s_3_4, s_3_5, s_4]
theorem d23_0 {v r : Int} (g : Nat) (μ : Mm) : f_L_digits_b23 N (g + 1) 1 v r 0 μ = some (r, μ) := by
  rw [f_L_digits_b23]
  simp only [to_bz, to_nz, to_cz, to_iz]
  simp (disch := omega) only [bz_t, nz_t, cz_T, cz_t, iz_T, iz_F, iz_y, iz_n, not_true_eq_false, not_false_eq_true, true_and, and_true, w32_e, w64_e, mset_e, mset_n, up_e, up_n, if_y, if_n, Int.add_zero, mk_1_m2, mk_1_0, mk_1_1, mk_1_2, mk_1_3, mk_1_4, mk_1_5, mk_1_6, mk_2_m2, mk_2_0, mk_2_1, mk_2_2, mk_2_3, mk_2_4, mk_2_5, mk_2_6, mk_2_7, mk_2_8, mk_2_9, mk_2_10, mk_3_m2, mk_3_0, mk_3_1, mk_3_2, mk_3_3, mk_3_4, mk_3_5, mk_4_m2, mk_4_m1, mk_5_m2, mk_5_m1, mk_11_m2, mk_11_m1, mk_42_m2, mk_42_m1, mk_73_m2, mk_73_0, mk_73_1, mk_73_2, mk_74_m2, mk_74_m1, mk_572_m2, mk_572_m1, mk_715_m2, mk_715_m1, mk_717_m2, mk_717_m1, mk_718_m2, mk_718_m1, mk_716_m2, mk_716_0, mk_716_1, mk_716_2, mk_716_3, mk_716_4, mk_719_m2, mk_74_at, mk_572_at, mk_715_at, mk_717_at, mk_718_at, mk_4_at, mk_5_at, mk_11_at, mk_42_at, mk_O_k, mk_O_0, mk_O_1, mk_O_2, mk_O_3, mk_L_k, mk_L_0, mk_L_1, mk_L_2, mk_L_3, mk_L_4, mk_L_5, mk_L_6, mk_L_7, mk_L_8, mk_L_9, mk_L_10, mk_X_k, mk_X_0, mk_X_1, mk_X_2, mk_X_3, mk_X_4, mk_75_k, mk_573_k, r_1_6, r_73_1, r_73_2, r_716_1, r_716_2, r_716_3, r_715, r_717, r_718, s_O0, s_O1, s_O2, s_O3, s_L0, s_L1, s_L2, s_L3, s_L4, s_L5, s_L6, s_L7, s_L8, s_L9, s_L10, s_X0, s_X1, s_X2, s_X3, s_X4, s_2_4, s_2_5, s_2_6, s_2_7, s_2_8, s_2_9, s_2_10, s_3_1, s_3_2, s_3_3, s_3_4, s_3_5, s_4]
theorem d23_s {v p q t s r : Int} (hp : 1 ≤ p ∧ p ≤ 100) (h1 : Int.tdiv v p = q) (hq : 0 ≤ q ∧ q ≤ 99) (ht : q % 10 = t) (h2 : Int.tdiv p 10 = s) (hs : 0 ≤ s ∧ s ≤ 10) {L : Int} {a' : Mm} (e : f_X7_type N 1 (48 + t) (mk w c m a) = some (L, mk w c m a')) (g : Nat) : f_L_digits_b23 N (g + 1) 1 v r p (mk w c m a) = f_L_digits_b23 N g 1 v L s (mk w c m a') := by
  have o1 := o_rem_g (x := q) (n := 10) (by omega) (by omega)
  rw [ht] at o1
  have o2 := (by_e (b := 48 + t) (by omega)).2
  rw [f_L_digits_b23]
  simp only [to_bz, to_nz, to_cz, to_iz]
  simp (disch := omega) only [h1, h2, o1, o2, e, bz_t, nz_t, cz_T, cz_t, iz_T, iz_F, iz_y, iz_n, not_true_eq_false, not_false_eq_true, true_and, and_true, w32_e, w64_e, mset_e, mset_n, up_e, up_n, if_y, if_n, Int.add_zero, mk_1_m2, mk_1_0, mk_1_1, mk_1_2, mk_1_3, mk_1_4, mk_1_5, mk_1_6, mk_2_m2, mk_2_0, mk_2_1, mk_2_2, mk_2_3, mk_2_4, mk_2_5, mk_2_6, mk_2_7, mk_2_8, mk_2_9, mk_2_10, mk_3_m2, mk_3_0, mk_3_1, mk_3_2, mk_3_3, mk_3_4, mk_3_5, mk_4_m2, mk_4_m1, mk_5_m2, mk_5_m1, mk_11_m2, mk_11_m1, mk_42_m2, mk_42_m1, mk_73_m2, mk_73_0, mk_73_1, mk_73_2, mk_74_m2, mk_74_m1, mk_572_m2, mk_572_m1, mk_715_m2, mk_715_m1, mk_717_m2, mk_717_m1, mk_718_m2, mk_718_m1, mk_716_m2, mk_716_0, mk_716_1, mk_716_2, mk_716_3, mk_716_4, mk_719_m2, mk_74_at, mk_572_at, mk_715_at, mk_717_at, mk_718_at, mk_4_at, mk_5_at, mk_11_at, mk_42_at, mk_O_k, mk_O_0, mk_O_1, mk_O_2, mk_O_3, mk_L_k, mk_L_0, mk_L_1, mk_L_2, mk_L_3, mk_L_4, mk_L_5, mk_L_6, mk_L_7, mk_L_8, mk_L_9, mk_L_10, mk_X_k, mk_X_0, mk_X_1, mk_X_2, mk_X_3, mk_X_4, mk_75_k, mk_573_k, r_1_6, r_73_1, r_73_2, r_716_1, r_716_2, r_716_3, r_715, r_717, r_718, s_O0, s_O1, s_O2, s_O3, s_L0, s_L1, s_L2, s_L3, s_L4, s_L5, s_L6, s_L7, s_L8, s_L9, s_L10, s_X0, s_X1, s_X2, s_X3, s_X4, s_2_4, s_2_5, s_2_6, s_2_7, s_2_8, s_2_9, s_2_10, s_3_1, s_3_2, s_3_3, s_3_4, s_3_5, s_4]
/-- the digits of a number -/
theorem tp_digits {xs : List Int} {L v : Int} (hN : 5000 ≤ N) (P : TP K w c a0 xs a) (hL : (xs.length : Int) = L) (h : L < 70) (hv : 0 ≤ v ∧ v ≤ 99) : ∃ r a', f_L_digits N 1 v (mk w c m a) = some (r, mk w c m a') ∧ TP K w c a0 (xs ++ dgs v) a' := by
  obtain ⟨n, hn⟩ : ∃ n, N = n + 1 + 1 + 1 := ⟨N - 3, by omega⟩
  have t2 : Int.tdiv v 1 = v := (Int.tdiv_eq_ediv_of_nonneg hv.1).trans (Int.ediv_one v)
  have t5 : Int.tdiv v 10 = v / 10 := Int.tdiv_eq_ediv_of_nonneg hv.1
  unfold f_L_digits
  by_cases q : v < 10
  · obtain ⟨a1, e1, P1⟩ := tp_type (N := N) m P hL (by omega) (x := 48 + v) (by omega)
    refine ⟨L + 1, a1, ?_, by unfold dgs; rw [if_pos q]; exact P1⟩
    have s1 := d4_e (N := N) (v := v) (p := 1) (r := 0) hv (by omega) (n + 1 + 1) (mk w c m a)
    have s2 := d23_s (N := N) (v := v) (p := 1) (q := v) (t := v) (s := 0) (r := 0) m (by omega) t2 (by omega) (by omega) rfl (by omega) e1 (n + 1 + 1)
    have s3 := d23_0 (N := N) (v := v) (r := L + 1) (n + 1) (mk w c m a1)
    rw [← hn] at s1 s2
    exact s1.trans (s2.trans s3)
  · obtain ⟨a1, e1, P1⟩ := tp_type (N := N) m P hL (by omega) (x := 48 + v / 10) (by omega)
    obtain ⟨a2, e2, P2⟩ := tp_type (N := N) m P1 (L := L + 1) (by rw [List.length_append, ← hL]; rfl) (by omega) (x := 48 + v % 10) (by omega)
    rw [List.append_assoc] at P2
    refine ⟨L + 1 + 1, a2, ?_, by unfold dgs; rw [if_neg q]; exact P2⟩
    have s0 := d4_s (N := N) (v := v) (r := 0) hv (by omega) (n + 1 + 1) (mk w c m a)
    have s1 := d4_e (N := N) (v := v) (p := 10) (r := 0) hv (by omega) (n + 1) (mk w c m a)
    have s2 := d23_s (N := N) (v := v) (p := 10) (q := v / 10) (t := v / 10) (s := 1) (r := 0) m (by omega) t5 (by omega) (by omega) rfl (by omega) e1 (n + 1 + 1)
    have s3 := d23_s (N := N) (v := v) (p := 1) (q := v) (t := v % 10) (s := 0) (r := L + 1) m (by omega) t2 (by omega) rfl rfl (by omega) e2 (n + 1)
    have s4 := d23_0 (N := N) (v := v) (r := L + 1 + 1) n (mk w c m a2)
    rw [← hn] at s0 s2
    exact s0.trans (s1.trans (s2.trans (s3.trans s4)))
end ORD0
