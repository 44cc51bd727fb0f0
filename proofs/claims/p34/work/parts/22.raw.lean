/-! what is not a row: read and written in place -/
def sa (R : Int) (f : Int → Int) (a : Mm) : Mm := fun r k => if r = R then f k else a r k
def uc (c : Int → Int → Int) (s : Int) (u : Int → Int) : Int → Int → Int := fun t => if t = s then u else c t
theorem mset_e (a : Mm) (r k x : Int) : mset a r k x r k = x := if_pos ⟨rfl, rfl⟩
theorem mset_n {a : Mm} {r k x r' k' : Int} (h : r' ≠ r ∨ k' ≠ k) : mset a r k x r' k' = a r' k' := if_neg (fun z => h.elim (fun q => q z.1) (fun q => q z.2))
theorem sa_e (R : Int) (f : Int → Int) (a : Mm) : sa R f a R = f := by funext k; exact if_pos rfl
theorem sa_n {R : Int} {f : Int → Int} {a : Mm} {r : Int} (h : r ≠ R) : sa R f a r = a r := by funext k; exact if_neg h
theorem sa_set (R : Int) (f : Int → Int) (a : Mm) (j x : Int) : mset (sa R f a) R j x = sa R (up f j x) a := by
  funext r k
  unfold mset sa up
  by_cases h : r = R
  · by_cases g : k = j
    · rw [if_pos ⟨h, g⟩, if_pos h, if_pos g]
    · rw [if_neg (fun z => g z.2), if_pos h, if_pos h, if_neg g]
  · rw [if_neg (fun z => h z.1), if_neg h, if_neg h]
theorem sa_id (R : Int) (a : Mm) : sa R (a R) a = a := by
  funext r k
  unfold sa
  by_cases h : r = R
  · rw [if_pos h, h]
  · rw [if_neg h]
theorem cpy_up (lo m : Int) (f u : Int → Int) (h : lo ≤ m) : up (cpy lo m f u) m (f m) = cpy lo (m + 1) f u := by
  funext i
  unfold up cpy
  repeat' split
  all_goals first | rfl | (exfalso; omega) | (subst_vars; rfl)
section RAW
variable (v : Int → Int) (c : Int → Int → Int) (w : Int → Int) (a : Mm)
theorem ar_c {t n : Int} {f g : Int → Int} {k : Int} (h : f k = g k) : ar t n f k = ar t n g k := by unfold ar; rw [h]
theorem mk_a {a' : Mm} {r k : Int} (h : a' r k = a r k) : mk v c w a' r k = mk v c w a r k := by
  unfold mk
  by_cases h0 : r = 0
  · subst h0; simp only [h, ↓reduceIte, Int.reduceLT, Int.reduceEq, Int.reduceLE]
  by_cases h1 : r = 1
  · subst h1; simp only [h, ar_c h, ↓reduceIte, Int.reduceLT, Int.reduceEq, Int.reduceLE]
  by_cases h73 : r = 73
  · subst h73; simp only [h, ar_c h, ↓reduceIte, Int.reduceLT, Int.reduceEq, Int.reduceLE]
  by_cases h715 : r = 715
  · subst h715; simp only [h, ar_c h, ↓reduceIte, Int.reduceLT, Int.reduceEq, Int.reduceLE]
  by_cases h716 : r = 716
  · subst h716; simp only [h, ar_c h, ↓reduceIte, Int.reduceLT, Int.reduceEq, Int.reduceLE]
  by_cases h717 : r = 717
  · subst h717; simp only [h, ar_c h, ↓reduceIte, Int.reduceLT, Int.reduceEq, Int.reduceLE]
  by_cases h718 : r = 718
  · subst h718; simp only [h, ar_c h, ↓reduceIte, Int.reduceLT, Int.reduceEq, Int.reduceLE]
  by_cases h719 : r = 719
  · subst h719; simp only [h, ar_c h, ↓reduceIte, Int.reduceLT, Int.reduceEq, Int.reduceLE]
  by_cases h720 : r = 720
  · subst h720; simp only [h, ar_c h, ↓reduceIte, Int.reduceLT, Int.reduceEq, Int.reduceLE]
  simp only [if_neg h0, if_neg h1, if_neg h73, if_neg h715, if_neg h716, if_neg h717, if_neg h718, if_neg h719, if_neg h720, h]
theorem set_raw {R K : Int} (x : Int) (h : ∀ b : Mm, mk v c w b R K = b R K) : mset (mk v c w a) R K x = mk v c w (mset a R K x) := by
  funext r k
  by_cases z : r = R ∧ k = K
  · rw [z.1, z.2, mset_e, h, mset_e]
  · rw [mk_a v c w a (a' := mset a R K x) (r := r) (k := k) (if_neg z)]
    exact if_neg z
theorem r_1_6 (x : Int) : mset (mk v c w a) 1 6 x = mk v c w (mset a 1 6 x) := set_raw v c w a x (fun b => mk_1_6 v c w b)
theorem r_73_1 (x : Int) : mset (mk v c w a) 73 1 x = mk v c w (mset a 73 1 x) := set_raw v c w a x (fun b => mk_73_1 v c w b)
theorem r_73_2 (x : Int) : mset (mk v c w a) 73 2 x = mk v c w (mset a 73 2 x) := set_raw v c w a x (fun b => mk_73_2 v c w b)
theorem r_716_1 (x : Int) : mset (mk v c w a) 716 1 x = mk v c w (mset a 716 1 x) := set_raw v c w a x (fun b => mk_716_1 v c w b)
theorem r_716_2 (x : Int) : mset (mk v c w a) 716 2 x = mk v c w (mset a 716 2 x) := set_raw v c w a x (fun b => mk_716_2 v c w b)
theorem r_716_3 (x : Int) : mset (mk v c w a) 716 3 x = mk v c w (mset a 716 3 x) := set_raw v c w a x (fun b => mk_716_3 v c w b)
theorem r_715 {k : Int} (h : 0 ≤ k ∧ k < 2) (x : Int) : mset (mk v c w a) 715 k x = mk v c w (mset a 715 k x) := set_raw v c w a x (fun b => mk_715_at v c w b h)
theorem r_717 {k : Int} (h : 0 ≤ k ∧ k < 80) (x : Int) : mset (mk v c w a) 717 k x = mk v c w (mset a 717 k x) := set_raw v c w a x (fun b => mk_717_at v c w b h)
theorem r_718 {k : Int} (h : 0 ≤ k ∧ k < 4) (x : Int) : mset (mk v c w a) 718 k x = mk v c w (mset a 718 k x) := set_raw v c w a x (fun b => mk_718_at v c w b h)
theorem o_rem_e {x : Int} (h : 0 ≤ x ∧ x ≤ 2147483647) : o_rem x 7 = x % 7 := by
  unfold o_rem
  rw [dv_i ⟨by omega, by omega⟩ ⟨by omega, by omega⟩, ml_i, sb_i, toI (w32_R _), Int.tdiv_eq_ediv_of_nonneg h.1, w32_e (x := x / 7) (by omega), w32_e (x := x / 7 * 7) (by omega), w32_e (by omega)]
  omega
theorem mk_v {v' : Int → Int} (h : ∀ i, 0 ≤ i ∧ i < 520 → i ≠ 10 → i ≠ 13 → v' i = v i) : mk v' c w a = mk v c w a := by
  have e := mkS_congr v c w a (s := 0) (by omega) (u := v') (u' := v) h
  rwa [mkS_0, mkS_0] at e
theorem mkS_p {s : Int} (hs : 1 ≤ s) (u : Int → Int) : mkS v c w a s u = mk v (uc c s u) w a := by
  unfold mkS uc; rw [if_neg (by omega)]
theorem uc_id (s : Int) : uc c s (c s) = c := by
  funext t; unfold uc; split
  · subst_vars; rfl
  · rfl
variable (N : Nat)
theorem b_cpTo (hN : 5000 ≤ N) {i : Int} (h : 0 ≤ i ∧ i < 7) (k : Int → Mm → Rs) : bd (f_X6_copyFrom N (75 + 71 * i) 2 (mk v c w a)) k = k 0 (mk v (uc c (i + 1) v) w a) := by
  have e := cp_all N v c w a (s := i + 1) (t := 0) hN (by omega) (by omega) (by omega) (c (i + 1))
  rw [mkS_p v c w a (by omega), mkS_p v c w a (by omega), uc_id, bS_z, show bS (i + 1) = 75 + 71 * i from by unfold bS; rw [if_neg (by omega), if_pos (by omega)]; omega] at e
  rw [e]; rfl
theorem b_cpSlot (hN : 5000 ≤ N) {i : Int} (h : 0 ≤ i ∧ i < 2) (k : Int → Mm → Rs) : bd (f_X6_copyFrom N (573 + 71 * i) 2 (mk v c w a)) k = k 0 (mk v (uc c (8 + i) v) w a) := by
  have e := cp_all N v c w a (s := 8 + i) (t := 0) hN (by omega) (by omega) (by omega) (c (8 + i))
  rw [mkS_p v c w a (by omega), mkS_p v c w a (by omega), uc_id, bS_z, show bS (8 + i) = 573 + 71 * i from by unfold bS; rw [if_neg (by omega), if_neg (by omega)]; omega] at e
  rw [e]; rfl
theorem b_cpBack (hN : 5000 ≤ N) {i : Int} (h : 0 ≤ i ∧ i < 7) (k : Int → Mm → Rs) : bd (f_X6_copyFrom N 2 (75 + 71 * i) (mk v c w a)) k = k 0 (mk (c (i + 1)) c w a) := by
  have e := cp_all N v c w a (s := 0) (t := i + 1) hN (by omega) (by omega) (by omega) v
  rw [mkS_0, mkS_0, bS_z, show bS (i + 1) = 75 + 71 * i from by unfold bS; rw [if_neg (by omega), if_pos (by omega)]; omega, show rO v c (i + 1) = c (i + 1) from if_neg (by omega)] at e
  rw [e]; rfl
theorem b_cpSlotBack (hN : 5000 ≤ N) {i : Int} (h : 0 ≤ i ∧ i < 2) (k : Int → Mm → Rs) : bd (f_X6_copyFrom N 2 (573 + 71 * i) (mk v c w a)) k = k 0 (mk (c (8 + i)) c w a) := by
  have e := cp_all N v c w a (s := 0) (t := 8 + i) hN (by omega) (by omega) (by omega) v
  rw [mkS_0, mkS_0, bS_z, show bS (8 + i) = 573 + 71 * i from by unfold bS; rw [if_neg (by omega), if_neg (by omega)]; omega, show rO v c (8 + i) = c (8 + i) from if_neg (by omega)] at e
  rw [e]; rfl
theorem mk_75_k {i : Int} (h : 0 ≤ i ∧ i < 7) : mk v c w a (75 + 71 * i) (-2) = 8 := by
  have e := mk_row v c w a (s := i + 1) (d := 0) (by omega) (by omega) (-2)
  rw [show bS (i + 1) + 0 = 75 + 71 * i from by unfold bS; rw [if_neg (by omega), if_pos (by omega)]; omega] at e
  exact e.trans rfl
theorem mk_573_k {i : Int} (h : 0 ≤ i ∧ i < 2) : mk v c w a (573 + 71 * i) (-2) = 8 := by
  have e := mk_row v c w a (s := 8 + i) (d := 0) (by omega) (by omega) (-2)
  rw [show bS (8 + i) + 0 = 573 + 71 * i from by unfold bS; rw [if_neg (by omega), if_neg (by omega)]; omega] at e
  exact e.trans rfl
end RAW
