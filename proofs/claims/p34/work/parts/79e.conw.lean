/-! the constructors, both whole -/
def tO : Int → Int → Int := fun _ _ => 0
def tA3 : Int → Int → Int := tS (tN (tN (tS (tJ (tN tO 1 9 0) 2) 1 0 2) 73 3 0) 74 26 7) 73 0 74
def tA5 : Int → Int → Int := tS (tN (tS (tH tA3 75 7) 1 1 73) 572 26 2) 1 2 572
def tA8 : Int → Int → Int := tS (tS (tN (tS (tN (tN (tS (tN (tH tA5 573 2) 715 25 2) 1 3 715) 716 5 0) 717 22 80) 716 0 717) 718 23 4) 716 4 718) 1 4 716
def tA9 : Int → Int → Int := tS (tS (tS (tS (tN (tN tA8 719 1 0) 720 21 16) 719 0 720) 719 1 0) 1 5 719) 1 6 0
section CONW
variable {N : Nat} {s : Int} {T : Int → Int → Int}
theorem st_m0 : st 1 0 0 m0 tO = m0 := by
  funext r k
  by_cases r0 : r = 0
  · subst r0
    rw [st_z, m0_nn (Int.le_refl _)]
    by_cases k0 : k = 0
    · rw [if_pos k0]
    · rw [if_neg k0]
      by_cases k1 : k = 1
      · rw [if_pos k1]
      · rw [if_neg k1]
  · rw [st_o r0 (by omega)]
theorem tH_z {h r : Int} (q : r < h) (k : Int) : T r k = tH T h 0 r k := by unfold tH; rw [if_neg (by omega), if_neg (by omega)]
set_option maxHeartbeats 4000000 in
theorem i_X3 : f_X3_init N 716 (st 1 716 s m0 (tN T 716 5 0)) = some (0, st 1 718 (s + 80 + 4) m0 (tS (tN (tS (tN (tN T 716 5 0) 717 22 80) 716 0 717) 718 23 4) 716 4 718)) := by
  unfold f_X3_init
  simp only [to_bz, to_nz, to_cz, to_iz]
  simp (disch := omega) only [Int.reduceAdd, st_r, st_00, st_new, st_set, tS_e, tS_n, tN_k, tN_l, tN_0, tN_n, tB_k, bz_t, nz_t, cz_T, cz_t, iz_T, iz_F, iz_y, iz_n, not_true_eq_false, not_false_eq_true, true_and, and_true, w32_e, Int.add_zero]
set_option maxHeartbeats 4000000 in
theorem i_J4 : f_J4_init_da8c8 N 719 (st 1 719 s m0 (tN T 719 1 0)) = some (0, st 1 720 (s + 16) m0 (tS (tS (tN (tN T 719 1 0) 720 21 16) 719 0 720) 719 1 0)) := by
  unfold f_J4_init_da8c8 f_J5_init_d00df
  simp only [to_bz, to_nz, to_cz, to_iz]
  simp (disch := omega) only [Int.reduceAdd, st_r, st_00, st_new, st_set, tS_e, tS_n, tN_k, tN_l, tN_0, tN_n, tB_k, bz_t, nz_t, cz_T, cz_t, iz_T, iz_F, iz_y, iz_n, not_true_eq_false, not_false_eq_true, true_and, and_true, w32_e, Int.add_zero]
set_option maxHeartbeats 8000000 in
theorem i_X1 (m : Nat) : f_X1_init (m + 1000) 73 (st 1 73 598 m0 (tN (tS (tJ (tN tO 1 9 0) 2) 1 0 2) 73 3 0)) = some (0, st 1 571 4721 m0 (tH tA3 75 7)) := by
  have r := i_hist (T := tA3) m ⟨by unfold tA3; simp (disch := omega) only [tJ_o, tJ_k, tH_o, tH_a, st_r, st_00, st_new, st_set, tS_e, tS_n, tN_k, tN_l, tN_0, tN_n, tB_k, bz_t, nz_t, cz_T, cz_t, iz_T, iz_F, iz_y, iz_n, not_true_eq_false, not_false_eq_true, true_and, and_true, w32_e, Int.add_zero], by unfold tA3; simp (disch := omega) only [tJ_o, tJ_k, tH_o, tH_a, st_r, st_00, st_new, st_set, tS_e, tS_n, tN_k, tN_l, tN_0, tN_n, tB_k, bz_t, nz_t, cz_T, cz_t, iz_T, iz_F, iz_y, iz_n, not_true_eq_false, not_false_eq_true, true_and, and_true, w32_e, Int.add_zero], by unfold tA3; simp (disch := omega) only [tJ_o, tJ_k, tH_o, tH_a, st_r, st_00, st_new, st_set, tS_e, tS_n, tN_k, tN_l, tN_0, tN_n, tB_k, bz_t, nz_t, cz_T, cz_t, iz_T, iz_F, iz_y, iz_n, not_true_eq_false, not_false_eq_true, true_and, and_true, w32_e, Int.add_zero], by unfold tA3; simp (disch := omega) only [tJ_o, tJ_k, tH_o, tH_a, st_r, st_00, st_new, st_set, tS_e, tS_n, tN_k, tN_l, tN_0, tN_n, tB_k, bz_t, nz_t, cz_T, cz_t, iz_T, iz_F, iz_y, iz_n, not_true_eq_false, not_false_eq_true, true_and, and_true, w32_e, Int.add_zero]⟩ (m + 992) 7 0 (498 - 1) (4123 - 7) 605 (by omega) (by omega) (by omega) (by omega)
  rw [show m + 992 + 7 + 1 = m + 1000 from rfl, show (74 : Int) + 71 * 0 = 74 from rfl, show (605 : Int) + 588 * ((7 : Nat) : Int) = 4721 from rfl] at r
  have g := st_c (B := 1) (top := 74) (s := 605) (μ := m0) (T := tA3) (T' := tH tA3 75 0) (fun r k h1 h2 => tH_z (by omega) k)
  unfold f_X1_init
  simp only [to_bz, to_nz, to_cz, to_iz]
  simp (disch := omega) only [Int.reduceAdd, st_r, st_00, st_new, st_set, tS_e, tS_n, tN_k, tN_l, tN_0, tN_n, tB_k, bz_t, nz_t, cz_T, cz_t, iz_T, iz_F, iz_y, iz_n, not_true_eq_false, not_false_eq_true, true_and, and_true, w32_e, Int.add_zero]
  exact (congrArg (f_X1_init_b15 (m + 1000) (m + 1000) 73 0 (498 - 1) (4123 - 7)) g).trans r
set_option maxHeartbeats 16000000 in
theorem i_X7 (m : Nat) : f_X7_init (m + 1000) 1 (st 1 1 7 m0 (tN tO 1 9 0)) = some (0, st 1 720 6010 m0 tA9) := by
  have x := x6_go (s := 18) (T := tN tO 1 9 0) (B := 2) m (by omega)
  have x1 := i_X1 m
  have k1 : tA3 1 (-2) = 9 := by unfold tA3; simp (disch := omega) only [tJ_o, tJ_k, tH_o, tH_a, st_r, st_00, st_new, st_set, tS_e, tS_n, tN_k, tN_l, tN_0, tN_n, tB_k, bz_t, nz_t, cz_T, cz_t, iz_T, iz_F, iz_y, iz_n, not_true_eq_false, not_false_eq_true, true_and, and_true, w32_e, Int.add_zero]
  have r := i_slot (T := tA5) m ⟨by unfold tA5; simp (disch := omega) only [k1, tJ_o, tJ_k, tH_o, tH_a, st_r, st_00, st_new, st_set, tS_e, tS_n, tN_k, tN_l, tN_0, tN_n, tB_k, bz_t, nz_t, cz_T, cz_t, iz_T, iz_F, iz_y, iz_n, not_true_eq_false, not_false_eq_true, true_and, and_true, w32_e, Int.add_zero], by unfold tA5; simp (disch := omega) only [tJ_o, tJ_k, tH_o, tH_a, st_r, st_00, st_new, st_set, tS_e, tS_n, tN_k, tN_l, tN_0, tN_n, tB_k, bz_t, nz_t, cz_T, cz_t, iz_T, iz_F, iz_y, iz_n, not_true_eq_false, not_false_eq_true, true_and, and_true, w32_e, Int.add_zero], by unfold tA5; simp (disch := omega) only [tJ_o, tJ_k, tH_o, tH_a, st_r, st_00, st_new, st_set, tS_e, tS_n, tN_k, tN_l, tN_0, tN_n, tB_k, bz_t, nz_t, cz_T, cz_t, iz_T, iz_F, iz_y, iz_n, not_true_eq_false, not_false_eq_true, true_and, and_true, w32_e, Int.add_zero], by unfold tA5; simp (disch := omega) only [tJ_o, tJ_k, tH_o, tH_a, st_r, st_00, st_new, st_set, tS_e, tS_n, tN_k, tN_l, tN_0, tN_n, tB_k, bz_t, nz_t, cz_T, cz_t, iz_T, iz_F, iz_y, iz_n, not_true_eq_false, not_false_eq_true, true_and, and_true, w32_e, Int.add_zero]⟩ (m + 998) 2 0 (719 - 1 - 70 - 1 - 498 - 1) (6003 - 11 - 577 - 3 - 4123 - 2) 4723 (by omega) (by omega) (by omega) (by omega)
  rw [show m + 998 + 2 = m + 1000 from rfl, show (572 : Int) + 71 * 0 = 572 from rfl, show (4723 : Int) + 588 * ((2 : Nat) : Int) = 5899 from rfl] at r
  have g := st_c (B := 1) (top := 572) (s := 4723) (μ := m0) (T := tA5) (T' := tH tA5 573 0) (fun r k h1 h2 => tH_z (by omega) k)
  have k2 : tA5 1 (-2) = 9 := by unfold tA5; simp (disch := omega) only [k1, tJ_o, tJ_k, tH_o, tH_a, st_r, st_00, st_new, st_set, tS_e, tS_n, tN_k, tN_l, tN_0, tN_n, tB_k, bz_t, nz_t, cz_T, cz_t, iz_T, iz_F, iz_y, iz_n, not_true_eq_false, not_false_eq_true, true_and, and_true, w32_e, Int.add_zero]
  have q : f_X7_init_b36 (m + 1000) (m + 998) 1 2 (719 - 1 - 70 - 1 - 498 - 1 - 71 * ((2 : Nat) : Int)) (6003 - 11 - 577 - 3 - 4123 - 2 - 588 * ((2 : Nat) : Int)) (st 1 714 5899 m0 (tH tA5 573 2)) = some (0, st 1 720 6010 m0 tA9) := by
    clear x x1 r g
    rw [f_X7_init_b36]
    simp only [to_bz, to_nz, to_cz, to_iz]
    simp (disch := omega) only [k2, i_X3, i_J4, Int.reduceAdd, tJ_o, tJ_k, tH_o, tH_a, st_r, st_00, st_new, st_set, tS_e, tS_n, tN_k, tN_l, tN_0, tN_n, tB_k, bz_t, nz_t, cz_T, cz_t, iz_T, iz_F, iz_y, iz_n, not_true_eq_false, not_false_eq_true, true_and, and_true, w32_e, Int.add_zero]
    rfl
  unfold f_X7_init
  simp only [to_bz, to_nz, to_cz, to_iz]
  simp (disch := omega) only [k1, x, x1, Int.reduceAdd, tJ_o, tJ_k, tH_o, tH_a, st_r, st_00, st_new, st_set, tS_e, tS_n, tN_k, tN_l, tN_0, tN_n, tB_k, bz_t, nz_t, cz_T, cz_t, iz_T, iz_F, iz_y, iz_n, not_true_eq_false, not_false_eq_true, true_and, and_true, w32_e, Int.add_zero]
  exact ((congrArg (f_X7_init_b36 (m + 1000) (m + 1000) 1 0 (719 - 1 - 70 - 1 - 498 - 1) (6003 - 11 - 577 - 3 - 4123 - 2)) g).trans r).trans q
end CONW
