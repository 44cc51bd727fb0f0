/-! one step of a program -/
theorem ck_t {P : Prop} [Decidable P] {k : Rs} (h : P) : ck P k = k := if_pos h
theorem nm_t {α : Type} (v : α) (k : α → Rs) : nm v k = k v := Eq.trans rfl rfl
theorem bd_t (r : Int) (μ : Mm) (k : Int → Mm → Rs) : bd (some (r, μ)) k = k r μ := Eq.trans rfl rfl
theorem if_y {α : Type} {P : Prop} [Decidable P] {a b : α} (h : P) : (if P then a else b) = a := if_pos h
theorem if_n {α : Type} {P : Prop} [Decidable P] {a b : α} (h : ¬ P) : (if P then a else b) = b := if_neg h
theorem w32_e {x : Int} (h : -2147483648 ≤ x ∧ x ≤ 2147483647) : w32 x = x := w32_id h
theorem w64_e {x : Int} (h : -9223372036854775808 ≤ x ∧ x ≤ 9223372036854775807) : w64 x = x := w64_id h
theorem up_e (v : Int → Int) (i x : Int) : up v i x i = x := if_pos rfl
theorem up_n {v : Int → Int} {i x j : Int} (h : j ≠ i) : up v i x j = v j := if_neg h
section SPEC
variable (N : Nat) (v : Int → Int) (c : Int → Int → Int) (w : Int → Int) (a : Mm)
theorem b_in (x lo hi : Int) (μ : Mm) (k : Int → Mm → Rs) : bd (f_X8_in N x lo hi μ) k = k (if lo ≤ x ∧ x ≤ hi then 1 else 0) μ := by
  unfold f_X8_in
  by_cases h1 : x < lo
  · rw [if_pos h1, if_neg (by omega)]; rfl
  · by_cases h2 : hi < x
    · rw [if_neg h1, if_pos h2, if_neg (by omega)]; rfl
    · rw [if_neg h1, if_neg h2, if_pos (by omega)]; rfl
theorem b_lotAt {l : Int} (h : 0 ≤ l ∧ l < 30) (μ : Mm) (k : Int → Mm → Rs) : bd (f_X8_lotAt N l μ) k = k (40 + 11 * l) μ := by
  unfold f_X8_lotAt
  simp (disch := omega) only [↓nm_t, ↓bd_t, w32_e]
theorem b_units {l : Int} (h : 0 ≤ l ∧ l < 30) (hr : 0 ≤ w (40 + 11 * l + 7) ∧ w (40 + 11 * l + 7) ≤ w (40 + 11 * l + 2) ∧ w (40 + 11 * l + 2) ≤ 1000000) (k : Int → Mm → Rs) :
    bd (f_X8_units N 721 l (mk v c w a)) k = k (w (40 + 11 * l + 2) - w (40 + 11 * l + 7)) (mk v c w a) := by
  unfold f_X8_units
  simp (disch := first | omega | (simp (disch := omega) only [mk_1_m2, mk_1_0, mk_1_1, mk_1_2, mk_1_3, mk_1_4, mk_1_5, mk_1_6, mk_2_m2, mk_2_0, mk_2_1, mk_2_2, mk_2_3, mk_2_4, mk_2_5, mk_2_6, mk_2_7, mk_2_8, mk_2_9, mk_2_10, mk_3_m2, mk_3_0, mk_3_1, mk_3_2, mk_3_3, mk_3_4, mk_3_5, mk_4_m2, mk_4_m1, mk_5_m2, mk_5_m1, mk_11_m2, mk_11_m1, mk_42_m2, mk_42_m1, mk_73_m2, mk_73_0, mk_73_1, mk_73_2, mk_74_m2, mk_74_m1, mk_572_m2, mk_572_m1, mk_715_m2, mk_715_m1, mk_717_m2, mk_717_m1, mk_718_m2, mk_718_m1, mk_722_m2, mk_722_m1, mk_723_m2, mk_723_m1, mk_724_m2, mk_724_m1, mk_725_m2, mk_725_m1, mk_726_m2, mk_726_m1, mk_727_m2, mk_727_m1, mk_728_m2, mk_728_m1, mk_716_m2, mk_716_0, mk_716_1, mk_716_2, mk_716_3, mk_716_4, mk_721_m2, mk_721_0, mk_721_1, mk_721_2, mk_721_3, mk_721_4, mk_721_5, mk_721_6, mk_721_7, mk_721_8, mk_721_9, mk_721_10, mk_721_11, mk_721_12, mk_721_13, mk_721_14, mk_719_m2, mk_74_at, mk_572_at, mk_715_at, mk_717_at, mk_718_at, mk_722_at, mk_723_at, mk_724_at, mk_725_at, mk_726_at, mk_727_at, mk_728_at, mk_4_at, mk_5_at, mk_11_at, mk_42_at, mk_O_k, mk_O_0, mk_O_1, mk_O_2, mk_O_3, mk_L_k, mk_L_0, mk_L_1, mk_L_2, mk_L_3, mk_L_4, mk_L_5, mk_L_6, mk_L_7, mk_L_8, mk_L_9, mk_L_10, mk_X_k, mk_X_0, mk_X_1, mk_X_2, mk_X_3, mk_X_4, w32_e, w64_e, true_and, and_true] <;> omega) | fail) only [↓b_lotAt, ↓ck_t, ↓nm_t, ↓bd_t, ↓if_y, ↓if_n, w32_e, w64_e, mk_1_m2, mk_1_0, mk_1_1, mk_1_2, mk_1_3, mk_1_4, mk_1_5, mk_1_6, mk_2_m2, mk_2_0, mk_2_1, mk_2_2, mk_2_3, mk_2_4, mk_2_5, mk_2_6, mk_2_7, mk_2_8, mk_2_9, mk_2_10, mk_3_m2, mk_3_0, mk_3_1, mk_3_2, mk_3_3, mk_3_4, mk_3_5, mk_4_m2, mk_4_m1, mk_5_m2, mk_5_m1, mk_11_m2, mk_11_m1, mk_42_m2, mk_42_m1, mk_73_m2, mk_73_0, mk_73_1, mk_73_2, mk_74_m2, mk_74_m1, mk_572_m2, mk_572_m1, mk_715_m2, mk_715_m1, mk_717_m2, mk_717_m1, mk_718_m2, mk_718_m1, mk_722_m2, mk_722_m1, mk_723_m2, mk_723_m1, mk_724_m2, mk_724_m1, mk_725_m2, mk_725_m1, mk_726_m2, mk_726_m1, mk_727_m2, mk_727_m1, mk_728_m2, mk_728_m1, mk_716_m2, mk_716_0, mk_716_1, mk_716_2, mk_716_3, mk_716_4, mk_721_m2, mk_721_0, mk_721_1, mk_721_2, mk_721_3, mk_721_4, mk_721_5, mk_721_6, mk_721_7, mk_721_8, mk_721_9, mk_721_10, mk_721_11, mk_721_12, mk_721_13, mk_721_14, mk_719_m2, mk_74_at, mk_572_at, mk_715_at, mk_717_at, mk_718_at, mk_722_at, mk_723_at, mk_724_at, mk_725_at, mk_726_at, mk_727_at, mk_728_at, mk_4_at, mk_5_at, mk_11_at, mk_42_at, mk_O_k, mk_O_0, mk_O_1, mk_O_2, mk_O_3, mk_L_k, mk_L_0, mk_L_1, mk_L_2, mk_L_3, mk_L_4, mk_L_5, mk_L_6, mk_L_7, mk_L_8, mk_L_9, mk_L_10, mk_X_k, mk_X_0, mk_X_1, mk_X_2, mk_X_3, mk_X_4]
def un (w : Int → Int) (l : Int) : Int := w (40 + 11 * l + 2) - w (40 + 11 * l + 7)
def dt (w : Int → Int) (l t q : Int) : Int := w (40 + 11 * l + 6) * (t + q) / w (40 + 11 * l + 2) - w (40 + 11 * l + 6) * t / w (40 + 11 * l + 2)
theorem mul_le {x y A B : Int} (h : 0 ≤ x ∧ x ≤ A) (g : 0 ≤ y ∧ y ≤ B) : 0 ≤ x * y ∧ x * y ≤ A * B :=
  ⟨Int.mul_nonneg h.1 g.1, Int.le_trans (Int.mul_le_mul_of_nonneg_right h.2 g.1) (Int.mul_le_mul_of_nonneg_left g.2 (Int.le_trans h.1 h.2))⟩
theorem div_b {x y A : Int} (h : 0 ≤ x ∧ x ≤ A) (g : 0 < y) : 0 ≤ x / y ∧ x / y ≤ A :=
  ⟨Int.ediv_nonneg h.1 (by omega), Int.le_trans (Int.ediv_le_self y h.1) h.2⟩
theorem b_duty {l t q : Int} (h : 0 ≤ l ∧ l < 30) (hd : 0 ≤ w (40 + 11 * l + 6) ∧ w (40 + 11 * l + 6) ≤ 10000000) (hq : 1 ≤ w (40 + 11 * l + 2) ∧ w (40 + 11 * l + 2) ≤ 1000000)
    (ht : 0 ≤ t ∧ t ≤ 2000000) (hq' : 0 ≤ q ∧ q ≤ 2000000) (k : Int → Mm → Rs) :
    bd (f_X8_duty N 721 l t q (mk v c w a)) k = k (dt w l t q) (mk v c w a) := by
  have p1 := mul_le hd (show 0 ≤ t + q ∧ t + q ≤ 4000000 by omega)
  have p2 := mul_le hd ht
  have e1 : Int.tdiv (w (40 + 11 * l + 6) * (t + q)) (w (40 + 11 * l + 2)) = w (40 + 11 * l + 6) * (t + q) / w (40 + 11 * l + 2) := Int.tdiv_eq_ediv_of_nonneg p1.1
  have e2 : Int.tdiv (w (40 + 11 * l + 6) * t) (w (40 + 11 * l + 2)) = w (40 + 11 * l + 6) * t / w (40 + 11 * l + 2) := Int.tdiv_eq_ediv_of_nonneg p2.1
  have q1 := div_b p1 (show 0 < w (40 + 11 * l + 2) by omega)
  have q2 := div_b p2 (show 0 < w (40 + 11 * l + 2) by omega)
  unfold f_X8_duty dt
  simp (disch := first | omega | (simp (disch := omega) only [mk_1_m2, mk_1_0, mk_1_1, mk_1_2, mk_1_3, mk_1_4, mk_1_5, mk_1_6, mk_2_m2, mk_2_0, mk_2_1, mk_2_2, mk_2_3, mk_2_4, mk_2_5, mk_2_6, mk_2_7, mk_2_8, mk_2_9, mk_2_10, mk_3_m2, mk_3_0, mk_3_1, mk_3_2, mk_3_3, mk_3_4, mk_3_5, mk_4_m2, mk_4_m1, mk_5_m2, mk_5_m1, mk_11_m2, mk_11_m1, mk_42_m2, mk_42_m1, mk_73_m2, mk_73_0, mk_73_1, mk_73_2, mk_74_m2, mk_74_m1, mk_572_m2, mk_572_m1, mk_715_m2, mk_715_m1, mk_717_m2, mk_717_m1, mk_718_m2, mk_718_m1, mk_722_m2, mk_722_m1, mk_723_m2, mk_723_m1, mk_724_m2, mk_724_m1, mk_725_m2, mk_725_m1, mk_726_m2, mk_726_m1, mk_727_m2, mk_727_m1, mk_728_m2, mk_728_m1, mk_716_m2, mk_716_0, mk_716_1, mk_716_2, mk_716_3, mk_716_4, mk_721_m2, mk_721_0, mk_721_1, mk_721_2, mk_721_3, mk_721_4, mk_721_5, mk_721_6, mk_721_7, mk_721_8, mk_721_9, mk_721_10, mk_721_11, mk_721_12, mk_721_13, mk_721_14, mk_719_m2, mk_74_at, mk_572_at, mk_715_at, mk_717_at, mk_718_at, mk_722_at, mk_723_at, mk_724_at, mk_725_at, mk_726_at, mk_727_at, mk_728_at, mk_4_at, mk_5_at, mk_11_at, mk_42_at, mk_O_k, mk_O_0, mk_O_1, mk_O_2, mk_O_3, mk_L_k, mk_L_0, mk_L_1, mk_L_2, mk_L_3, mk_L_4, mk_L_5, mk_L_6, mk_L_7, mk_L_8, mk_L_9, mk_L_10, mk_X_k, mk_X_0, mk_X_1, mk_X_2, mk_X_3, mk_X_4, w32_e, w64_e, true_and, and_true] <;> omega) | fail) only [↓b_lotAt, e1, e2, ↓ck_t, ↓nm_t, ↓bd_t, ↓if_y, ↓if_n, w32_e, w64_e, mk_1_m2, mk_1_0, mk_1_1, mk_1_2, mk_1_3, mk_1_4, mk_1_5, mk_1_6, mk_2_m2, mk_2_0, mk_2_1, mk_2_2, mk_2_3, mk_2_4, mk_2_5, mk_2_6, mk_2_7, mk_2_8, mk_2_9, mk_2_10, mk_3_m2, mk_3_0, mk_3_1, mk_3_2, mk_3_3, mk_3_4, mk_3_5, mk_4_m2, mk_4_m1, mk_5_m2, mk_5_m1, mk_11_m2, mk_11_m1, mk_42_m2, mk_42_m1, mk_73_m2, mk_73_0, mk_73_1, mk_73_2, mk_74_m2, mk_74_m1, mk_572_m2, mk_572_m1, mk_715_m2, mk_715_m1, mk_717_m2, mk_717_m1, mk_718_m2, mk_718_m1, mk_722_m2, mk_722_m1, mk_723_m2, mk_723_m1, mk_724_m2, mk_724_m1, mk_725_m2, mk_725_m1, mk_726_m2, mk_726_m1, mk_727_m2, mk_727_m1, mk_728_m2, mk_728_m1, mk_716_m2, mk_716_0, mk_716_1, mk_716_2, mk_716_3, mk_716_4, mk_721_m2, mk_721_0, mk_721_1, mk_721_2, mk_721_3, mk_721_4, mk_721_5, mk_721_6, mk_721_7, mk_721_8, mk_721_9, mk_721_10, mk_721_11, mk_721_12, mk_721_13, mk_721_14, mk_719_m2, mk_74_at, mk_572_at, mk_715_at, mk_717_at, mk_718_at, mk_722_at, mk_723_at, mk_724_at, mk_725_at, mk_726_at, mk_727_at, mk_728_at, mk_4_at, mk_5_at, mk_11_at, mk_42_at, mk_O_k, mk_O_0, mk_O_1, mk_O_2, mk_O_3, mk_L_k, mk_L_0, mk_L_1, mk_L_2, mk_L_3, mk_L_4, mk_L_5, mk_L_6, mk_L_7, mk_L_8, mk_L_9, mk_L_10, mk_X_k, mk_X_0, mk_X_1, mk_X_2, mk_X_3, mk_X_4]
end SPEC
