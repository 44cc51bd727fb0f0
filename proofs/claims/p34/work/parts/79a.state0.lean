/-! constructors: a state -/
def w0 (i : Int) : Int := if i = 5 then 100 else if i = 6 then 30 else if i = 7 then 20 else if i = 8 then 20 else if i = 9 then 10 else if 14 ≤ i ∧ i < 20 then 100 else 0
def st (B top s : Int) (μ : Mm) (T : Int → Int → Int) : Mm := fun r k => if r = 0 then (if k = 0 then top else if k = 1 then s else μ 0 k) else if B ≤ r ∧ r ≤ top then T r k else μ r k
def sT (B q top r k : Int) : Int :=
  if r = B then (if k = -2 then 8 else if k = 0 ∧ 1 ≤ q then B + 1 else if k = 1 ∧ 2 ≤ q then B + 3 else if k = 2 ∧ 3 ≤ q then B + 9 else if k = 3 ∧ 4 ≤ q then B + 40 else 0)
  else if r = B + 1 then (if k = -2 then 7 else if k = 0 then B + 2 else if k = 1 then 100 else if k = 2 then 30 else if k = 3 then 20 else if k = 4 then 20 else if k = 5 then 10 else 0)
  else if r = B + 2 then (if k = -2 then 23 else if k = -1 then 6 else if 0 ≤ k ∧ k < 6 then 100 else 0)
  else if r = B + 3 then (if k = -2 then 27 else if k = -1 then 5 else if 0 ≤ k ∧ k < 5 ∧ B + 4 + k ≤ top then B + 4 + k else 0)
  else if r ≤ B + 8 then (if k = -2 then 6 else 0)
  else if r = B + 9 then (if k = -2 then 28 else if k = -1 then 30 else if 0 ≤ k ∧ k < 30 ∧ B + 10 + k ≤ top then B + 10 + k else 0)
  else if r ≤ B + 39 then (if k = -2 then 4 else 0)
  else if r = B + 40 then (if k = -2 then 29 else if k = -1 then 30 else if 0 ≤ k ∧ k < 30 ∧ B + 41 + k ≤ top then B + 41 + k else 0)
  else (if k = -2 then 2 else 0)
def tS (T : Int → Int → Int) (p i x : Int) : Int → Int → Int := fun r k => if r = p ∧ k = i then x else T r k
def tN (T : Int → Int → Int) (o kc n : Int) : Int → Int → Int := fun r k => if r = o then (if k = -2 then kc else if k = -1 then n else 0) else T r k
def tB : Int → Int → Int := fun _ k => if k = -2 then 8 else 0
section ST0
variable {N : Nat} {B top s : Int} {μ : Mm} {T T' : Int → Int → Int}
theorem tS_e (p i x : Int) : tS T p i x p i = x := if_pos ⟨rfl, rfl⟩
theorem tS_n {p i x r k : Int} (h : r ≠ p ∨ k ≠ i) : tS T p i x r k = T r k := if_neg (fun z => h.elim (fun g => g z.1) (fun g => g z.2))
theorem tN_k (o kc n : Int) : tN T o kc n o (-2) = kc := if_pos rfl
theorem tN_l (o kc n : Int) : tN T o kc n o (-1) = n := if_pos rfl
theorem tN_0 {o kc n k : Int} (h : 0 ≤ k) : tN T o kc n o k = 0 := by unfold tN; rw [if_pos rfl, if_neg (by omega), if_neg (by omega)]
theorem tN_n {o kc n r : Int} (h : r ≠ o) (k : Int) : tN T o kc n r k = T r k := if_neg h
theorem tB_k (r : Int) : tB r (-2) = 8 := Eq.trans rfl rfl
theorem st_r {p : Int} (h : 1 ≤ B ∧ B ≤ p ∧ p ≤ top) (k : Int) : st B top s μ T p k = T p k := by
  unfold st; rw [if_neg (by omega), if_pos (by omega)]
theorem st_00 : st B top s μ T 0 0 = top := Eq.trans rfl rfl
theorem st_new (h : 1 ≤ B ∧ B ≤ top + 1) (kc n sl : Int) : mnew (st B top s μ T) kc n sl = st B (top + 1) (s + sl) μ (tN T (top + 1) kc n) := by
  funext r k
  unfold mnew
  rw [st_00]
  by_cases e : r = 0
  · subst e
    rw [if_pos rfl]
    by_cases k0 : k = 0
    · subst k0; rfl
    · by_cases k1 : k = 1
      · subst k1; rfl
      · rw [if_neg k0, if_neg k1]
        unfold st
        rw [if_pos rfl, if_pos rfl, if_neg k0, if_neg k1, if_neg k0, if_neg k1]
  · rw [if_neg e]
    by_cases q : r = top + 1
    · rw [if_pos q, st_r (by omega)]
      exact (if_pos q).symm
    · rw [if_neg q]
      unfold st
      rw [if_neg e, if_neg e]
      by_cases z : B ≤ r ∧ r ≤ top
      · rw [if_pos z, if_pos (by omega)]
        exact (if_neg q).symm
      · rw [if_neg z, if_neg (by omega)]
theorem st_set {p : Int} (h : 1 ≤ B ∧ B ≤ p ∧ p ≤ top) (i x : Int) : mset (st B top s μ T) p i x = st B top s μ (tS T p i x) := by
  funext r k
  unfold mset
  by_cases e : r = p ∧ k = i
  · rw [if_pos e, st_r (by omega)]
    exact (if_pos e).symm
  · rw [if_neg e]
    unfold st
    by_cases z : r = 0
    · rw [if_pos z, if_pos z]
    · rw [if_neg z, if_neg z]
      by_cases y : B ≤ r ∧ r ≤ top
      · rw [if_pos y, if_pos y]
        exact (if_neg e).symm
      · rw [if_neg y, if_neg y]
theorem st_c (h : ∀ r k, B ≤ r → r ≤ top → T r k = T' r k) : st B top s μ T = st B top s μ T' := by
  funext r k
  unfold st
  by_cases z : r = 0
  · rw [if_pos z, if_pos z]
  · rw [if_neg z, if_neg z]
    by_cases y : B ≤ r ∧ r ≤ top
    · rw [if_pos y, if_pos y, h r k y.1 y.2]
    · rw [if_neg y, if_neg y]
set_option maxHeartbeats 8000000 in
theorem i_X5 (m : Nat) (hB : 1 ≤ B) : f_X5_init (m + 10) (B + 1) (st B (B + 1) s μ (tN tB (B + 1) 7 0)) = some (0, st B (B + 2) (s + 6) μ (sT B 0 (B + 2))) := by
  have e1 : B + 1 + 1 = B + 2 := by omega
  unfold f_X5_init
  simp only [to_bz, to_nz, to_cz, to_iz]
  simp (disch := omega) only [e1, st_r, st_00, st_new, st_set, tS_e, tS_n, tN_k, tN_l, tN_0, tN_n, tB_k, bz_t, nz_t, cz_T, cz_t, iz_T, iz_F, iz_y, iz_n, not_true_eq_false, not_false_eq_true, true_and, and_true, w32_e, Int.add_zero]
  rw [f_X5_init_b14]
  simp only [to_bz, to_nz, to_cz, to_iz]
  simp (disch := omega) only [Int.reduceAdd, st_r, st_00, st_new, st_set, tS_e, tS_n, tN_k, tN_l, tN_0, tN_n, tB_k, bz_t, nz_t, cz_T, cz_t, iz_T, iz_F, iz_y, iz_n, not_true_eq_false, not_false_eq_true, true_and, and_true, w32_e, Int.add_zero]
  rw [f_X5_init_b14]
  simp only [to_bz, to_nz, to_cz, to_iz]
  simp (disch := omega) only [Int.reduceAdd, st_r, st_00, st_new, st_set, tS_e, tS_n, tN_k, tN_l, tN_0, tN_n, tB_k, bz_t, nz_t, cz_T, cz_t, iz_T, iz_F, iz_y, iz_n, not_true_eq_false, not_false_eq_true, true_and, and_true, w32_e, Int.add_zero]
  rw [f_X5_init_b14]
  simp only [to_bz, to_nz, to_cz, to_iz]
  simp (disch := omega) only [Int.reduceAdd, st_r, st_00, st_new, st_set, tS_e, tS_n, tN_k, tN_l, tN_0, tN_n, tB_k, bz_t, nz_t, cz_T, cz_t, iz_T, iz_F, iz_y, iz_n, not_true_eq_false, not_false_eq_true, true_and, and_true, w32_e, Int.add_zero]
  rw [f_X5_init_b14]
  simp only [to_bz, to_nz, to_cz, to_iz]
  simp (disch := omega) only [Int.reduceAdd, st_r, st_00, st_new, st_set, tS_e, tS_n, tN_k, tN_l, tN_0, tN_n, tB_k, bz_t, nz_t, cz_T, cz_t, iz_T, iz_F, iz_y, iz_n, not_true_eq_false, not_false_eq_true, true_and, and_true, w32_e, Int.add_zero]
  rw [f_X5_init_b14]
  simp only [to_bz, to_nz, to_cz, to_iz]
  simp (disch := omega) only [Int.reduceAdd, st_r, st_00, st_new, st_set, tS_e, tS_n, tN_k, tN_l, tN_0, tN_n, tB_k, bz_t, nz_t, cz_T, cz_t, iz_T, iz_F, iz_y, iz_n, not_true_eq_false, not_false_eq_true, true_and, and_true, w32_e, Int.add_zero]
  rw [f_X5_init_b14]
  simp only [to_bz, to_nz, to_cz, to_iz]
  simp (disch := omega) only [Int.reduceAdd, st_r, st_00, st_new, st_set, tS_e, tS_n, tN_k, tN_l, tN_0, tN_n, tB_k, bz_t, nz_t, cz_T, cz_t, iz_T, iz_F, iz_y, iz_n, not_true_eq_false, not_false_eq_true, true_and, and_true, w32_e, Int.add_zero]
  rw [f_X5_init_b14]
  simp only [to_bz, to_nz, to_cz, to_iz]
  simp (disch := omega) only [Int.reduceAdd, st_r, st_00, st_new, st_set, tS_e, tS_n, tN_k, tN_l, tN_0, tN_n, tB_k, bz_t, nz_t, cz_T, cz_t, iz_T, iz_F, iz_y, iz_n, not_true_eq_false, not_false_eq_true, true_and, and_true, w32_e, Int.add_zero]
  refine congrArg (fun z => some ((0 : Int), z)) (st_c (fun r k h1 h2 => ?_))
  by_cases r0 : r = B
  · subst r0
    simp (disch := omega) only [tS_n, tN_n]
    unfold sT tB
    rw [if_pos rfl]
    by_cases k2 : k = -2
    · rw [if_pos k2, if_pos k2]
    · rw [if_neg k2, if_neg k2, if_neg (by omega), if_neg (by omega), if_neg (by omega), if_neg (by omega)]
  by_cases r1 : r = B + 1
  · subst r1
    have L : sT B 0 (B + 2) (B + 1) k = if k = -2 then 7 else if k = 0 then B + 2 else if k = 1 then 100 else if k = 2 then 30 else if k = 3 then 20 else if k = 4 then 20 else if k = 5 then 10 else 0 := by
      unfold sT; rw [if_neg (by omega), if_pos rfl]
    rw [L]
    clear L
    by_cases k5 : k = 5
    · subst k5
      simp (disch := omega) only [tS_e, tS_n, tN_k, tN_l, tN_0, tN_n]
      rfl
    by_cases k4 : k = 4
    · subst k4
      simp (disch := omega) only [tS_e, tS_n, tN_k, tN_l, tN_0, tN_n]
      rfl
    by_cases k3 : k = 3
    · subst k3
      simp (disch := omega) only [tS_e, tS_n, tN_k, tN_l, tN_0, tN_n]
      rfl
    by_cases k2 : k = 2
    · subst k2
      simp (disch := omega) only [tS_e, tS_n, tN_k, tN_l, tN_0, tN_n]
      rfl
    by_cases k1 : k = 1
    · subst k1
      simp (disch := omega) only [tS_e, tS_n, tN_k, tN_l, tN_0, tN_n]
      rfl
    by_cases k0 : k = 0
    · subst k0
      simp (disch := omega) only [tS_e, tS_n, tN_k, tN_l, tN_0, tN_n]
      rfl
    by_cases km2 : k = (-2)
    · subst km2
      simp (disch := omega) only [tS_e, tS_n, tN_k, tN_l, tN_0, tN_n]
      rfl
    by_cases km1 : k = (-1)
    · subst km1
      simp (disch := omega) only [tS_e, tS_n, tN_k, tN_l, tN_0, tN_n]
      rfl
    simp (disch := omega) only [tS_n, tN_n]
    unfold tN
    rw [if_pos rfl, if_neg km2, if_neg km1, if_neg km2, if_neg k0, if_neg k1, if_neg k2, if_neg k3, if_neg k4, if_neg k5]
  · have r2 : r = B + 2 := by omega
    subst r2
    have L : sT B 0 (B + 2) (B + 2) k = if k = -2 then 23 else if k = -1 then 6 else if 0 ≤ k ∧ k < 6 then 100 else 0 := by
      unfold sT; rw [if_neg (by omega), if_neg (by omega), if_pos rfl]
    rw [L]
    clear L
    by_cases k5 : k = 5
    · subst k5
      simp (disch := omega) only [tS_e, tS_n, tN_k, tN_l, tN_0, tN_n]
      rfl
    by_cases k4 : k = 4
    · subst k4
      simp (disch := omega) only [tS_e, tS_n, tN_k, tN_l, tN_0, tN_n]
      rfl
    by_cases k3 : k = 3
    · subst k3
      simp (disch := omega) only [tS_e, tS_n, tN_k, tN_l, tN_0, tN_n]
      rfl
    by_cases k2 : k = 2
    · subst k2
      simp (disch := omega) only [tS_e, tS_n, tN_k, tN_l, tN_0, tN_n]
      rfl
    by_cases k1 : k = 1
    · subst k1
      simp (disch := omega) only [tS_e, tS_n, tN_k, tN_l, tN_0, tN_n]
      rfl
    by_cases k0 : k = 0
    · subst k0
      simp (disch := omega) only [tS_e, tS_n, tN_k, tN_l, tN_0, tN_n]
      rfl
    by_cases km2 : k = (-2)
    · subst km2
      simp (disch := omega) only [tS_e, tS_n, tN_k, tN_l, tN_0, tN_n]
      rfl
    by_cases km1 : k = (-1)
    · subst km1
      simp (disch := omega) only [tS_e, tS_n, tN_k, tN_l, tN_0, tN_n]
      rfl
    simp (disch := omega) only [tS_n, tN_n]
    unfold tN
    rw [if_pos rfl, if_neg km2, if_neg km1, if_neg km2, if_neg km1, if_neg (by omega)]
end ST0
