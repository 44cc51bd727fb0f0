/-! pass on both sides -/
def pS (w : Int → Int) (d : Int) : Int := SS w (fun _ => w 0 + d) (fun _ => w 0 + d)
def pR (w : Int → Int) (d : Int) : Int → Int := CF w (w 0 + d) (fun _ => w 0 + d) (fun _ => w 0 + d)
section PASS2
variable (N : Nat) {w : Int → Int} {v : Int → Int} (c : Int → Int → Int) (m : Int → Int) (a : Mm) {K : Int}
theorem a_pass_b (d : Int) (hd : ¬ (1 ≤ d ∧ d ≤ 100)) : f_X7_passDays N 1 d (mk v c m a) = some (-100000002, mk v c m a) := by
  unfold f_X7_passDays
  simp only [to_bz, to_nz, to_cz, to_iz]
  simp (disch := omega) only [fun x lo hi μ => eq_bd (a_outside N x lo hi μ), bz_t, nz_t, cz_T, cz_t, iz_T, iz_F, iz_y, iz_n, not_true_eq_false, not_false_eq_true, true_and, and_true, w32_e, w64_e, mset_e, mset_n, up_e, up_n, if_y, if_n, Int.add_zero, mk_1_m2, mk_1_0, mk_1_1, mk_1_2, mk_1_3, mk_1_4, mk_1_5, mk_1_6, mk_2_m2, mk_2_0, mk_2_1, mk_2_2, mk_2_3, mk_2_4, mk_2_5, mk_2_6, mk_2_7, mk_2_8, mk_2_9, mk_2_10, mk_3_m2, mk_3_0, mk_3_1, mk_3_2, mk_3_3, mk_3_4, mk_3_5, mk_4_m2, mk_4_m1, mk_5_m2, mk_5_m1, mk_11_m2, mk_11_m1, mk_42_m2, mk_42_m1, mk_73_m2, mk_73_0, mk_73_1, mk_73_2, mk_74_m2, mk_74_m1, mk_572_m2, mk_572_m1, mk_715_m2, mk_715_m1, mk_717_m2, mk_717_m1, mk_718_m2, mk_718_m1, mk_716_m2, mk_716_0, mk_716_1, mk_716_2, mk_716_3, mk_716_4, mk_719_m2, mk_74_at, mk_572_at, mk_715_at, mk_717_at, mk_718_at, mk_4_at, mk_5_at, mk_11_at, mk_42_at, mk_O_k, mk_O_0, mk_O_1, mk_O_2, mk_O_3, mk_L_k, mk_L_0, mk_L_1, mk_L_2, mk_L_3, mk_L_4, mk_L_5, mk_L_6, mk_L_7, mk_L_8, mk_L_9, mk_L_10, mk_X_k, mk_X_0, mk_X_1, mk_X_2, mk_X_3, mk_X_4, mk_75_k, mk_573_k, r_1_6, r_73_1, r_73_2, r_716_1, r_716_2, r_716_3, r_715, r_717, r_718, s_O0, s_O1, s_O2, s_O3, s_L0, s_L1, s_L2, s_L3, s_L4, s_L5, s_L6, s_L7, s_L8, s_L9, s_L10, s_X0, s_X1, s_X2, s_X3, s_X4, s_2_4, s_2_5, s_2_6, s_2_7, s_2_8, s_2_9, s_2_10, s_3_1, s_3_2, s_3_3, s_3_4, s_3_5, s_4]
theorem a_pass_g (hN : 5000 ≤ N) (I : IA K v) (d : Int) (hd : 1 ≤ d ∧ d ≤ 100) : f_X7_passDays N 1 d (mk v c m a) = some (pS v d, mk (pR v d) c m a) := by
  have g := I.hd; unfold HEAD at g
  obtain ⟨z1, z2⟩ := CF_0 I (v 0 + d)
  have sb := SS_b I
  have k1 : ∀ e : Int, 0 ≤ e → th (fun _ => 0) (v 0 + d) 0 e = 0 := fun e he => if_neg (by omega)
  obtain ⟨a1, a2⟩ := CF_c (h := th (fun _ => 0) (v 0 + d) 0) (h' := fun _ => 0) (p := fun _ => 0) (p' := fun _ => 0) (w := v) (v 0 + d) (fun e he => k1 e he.1) (fun _ _ => rfl)
  have l1 := l_lose N c m a I (D := v 0 + d) (S0 := 0) (by omega) (h := fun _ => 0) (p := fun _ => 0) (fun _ => by omega) (cnt := (v 3).toNat) (by omega) N 0 (by omega) (by omega)
  rw [a1, a2, z1, z2, show (0 : Int) - 0 = 0 from rfl, show ((0 : Nat) : Int) = 0 from rfl] at l1
  obtain ⟨b1, b2⟩ := CF_c (h := th (fun _ => 0) (v 0 + d) (v 3).toNat) (h' := fun _ => v 0 + d) (p := fun _ => 0) (p' := th (fun _ => 0) (v 0 + d) 0) (w := v) (v 0 + d) (fun e he => if_pos (by omega)) (fun e he => (k1 e he.1).symm)
  have l2 := l_seize N c m a I (D := v 0 + d) (S0 := SS v (fun _ => v 0 + d) (th (fun _ => 0) (v 0 + d) 0)) (sb _ _) (h := fun _ => v 0 + d) (p := fun _ => 0) (fun _ => by omega) (cnt := (v 2).toNat) (by omega) N 0 (by omega) (by omega)
  obtain ⟨d1, d2⟩ := CF_c (h := fun _ => v 0 + d) (h' := fun _ => v 0 + d) (p := th (fun _ => 0) (v 0 + d) (v 2).toNat) (p' := fun _ => v 0 + d) (w := v) (v 0 + d) (fun e he => rfl) (fun e he => if_pos (by omega))
  rw [show ((0 : Nat) : Int) = 0 from rfl, show SS v (fun _ => v 0 + d) (th (fun _ => 0) (v 0 + d) 0) - SS v (fun _ => v 0 + d) (th (fun _ => 0) (v 0 + d) 0) = 0 from by omega, d1, d2] at l2
  rw [b1, b2, Int.sub_zero] at l1
  have s1 := sb (fun _ => v 0 + d) (fun _ => v 0 + d)
  have s2 := sb (fun _ => v 0 + d) (th (fun _ => 0) (v 0 + d) 0)
  unfold pS pR
  generalize CF v (v 0 + d) (fun _ => v 0 + d) (fun _ => v 0 + d) = u2 at *
  generalize CF v (v 0 + d) (fun _ => v 0 + d) (th (fun _ => 0) (v 0 + d) 0) = u1 at *
  generalize SS v (fun _ => v 0 + d) (fun _ => v 0 + d) = t2 at *
  generalize SS v (fun _ => v 0 + d) (th (fun _ => 0) (v 0 + d) 0) = t1 at *
  have q : t1 + (t2 - t1) = t2 := by omega
  unfold f_X7_passDays f_X6_loseExports f_X6_seizeLots
  simp only [to_bz, to_nz, to_cz, to_iz]
  simp (disch := omega) only [fun x lo hi μ => eq_bd (a_outside N x lo hi μ), l1, l2, q, bz_t, nz_t, cz_T, cz_t, iz_T, iz_F, iz_y, iz_n, not_true_eq_false, not_false_eq_true, true_and, and_true, w32_e, w64_e, mset_e, mset_n, up_e, up_n, if_y, if_n, Int.add_zero, mk_1_m2, mk_1_0, mk_1_1, mk_1_2, mk_1_3, mk_1_4, mk_1_5, mk_1_6, mk_2_m2, mk_2_0, mk_2_1, mk_2_2, mk_2_3, mk_2_4, mk_2_5, mk_2_6, mk_2_7, mk_2_8, mk_2_9, mk_2_10, mk_3_m2, mk_3_0, mk_3_1, mk_3_2, mk_3_3, mk_3_4, mk_3_5, mk_4_m2, mk_4_m1, mk_5_m2, mk_5_m1, mk_11_m2, mk_11_m1, mk_42_m2, mk_42_m1, mk_73_m2, mk_73_0, mk_73_1, mk_73_2, mk_74_m2, mk_74_m1, mk_572_m2, mk_572_m1, mk_715_m2, mk_715_m1, mk_717_m2, mk_717_m1, mk_718_m2, mk_718_m1, mk_716_m2, mk_716_0, mk_716_1, mk_716_2, mk_716_3, mk_716_4, mk_719_m2, mk_74_at, mk_572_at, mk_715_at, mk_717_at, mk_718_at, mk_4_at, mk_5_at, mk_11_at, mk_42_at, mk_O_k, mk_O_0, mk_O_1, mk_O_2, mk_O_3, mk_L_k, mk_L_0, mk_L_1, mk_L_2, mk_L_3, mk_L_4, mk_L_5, mk_L_6, mk_L_7, mk_L_8, mk_L_9, mk_L_10, mk_X_k, mk_X_0, mk_X_1, mk_X_2, mk_X_3, mk_X_4, mk_75_k, mk_573_k, r_1_6, r_73_1, r_73_2, r_716_1, r_716_2, r_716_3, r_715, r_717, r_718, s_O0, s_O1, s_O2, s_O3, s_L0, s_L1, s_L2, s_L3, s_L4, s_L5, s_L6, s_L7, s_L8, s_L9, s_L10, s_X0, s_X1, s_X2, s_X3, s_X4, s_2_4, s_2_5, s_2_6, s_2_7, s_2_8, s_2_9, s_2_10, s_3_1, s_3_2, s_3_3, s_3_4, s_3_5, s_4]
theorem IV.t10 (I : IV K w) : 0 ≤ w 10 ∧ w 10 ≤ 300000000 := by
  have g := I.1.hd; unfold HEAD at g
  have q := sm_up (f := fun l => w (40 + 11 * l + 8)) (M := 10000000) (n := (w 2).toNat) (fun l hl => by
    have x := I.1.lot (l := l) (by omega); unfold LOT at x
    omega)
  have b := I.2.2.2.1
  have z : 0 ≤ w 10 := by
    rw [I.2.2.1]
    exact sm_nn (fun o ho => by have x := I.1.own (o := o) (by omega); unfold OWN at x; omega)
  omega
theorem IV_pass (I : IV K w) (hK : K + 1 ≤ 60000) {d : Int} (hd : 1 ≤ d ∧ d ≤ 100) : IV (K + 1) (pR w d) := IV_CF I hK (by omega) _ _
theorem pS_b (I : IA K w) (d : Int) : 0 ≤ pS w d ∧ pS w d ≤ 600000000 := SS_b I _ _
end PASS2
