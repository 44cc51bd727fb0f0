/-! one step of a program -/
theorem ck_t {P : Prop} [Decidable P] {k : Rs} (h : P) : ck P k = k := if_pos h
theorem nm_t {α : Type} (v : α) (k : α → Rs) : nm v k = k v := Eq.trans rfl rfl
theorem bd_t (r : Int) (μ : Mm) (k : Int → Mm → Rs) : bd (some (r, μ)) k = k r μ := Eq.trans rfl rfl
theorem if_y {α : Type} {P : Prop} [Decidable P] {a b : α} (h : P) : (if P then a else b) = a := if_pos h
theorem if_n {α : Type} {P : Prop} [Decidable P] {a b : α} (h : ¬ P) : (if P then a else b) = b := if_neg h
theorem w32_e {x : Int} (h : -2147483648 ≤ x ∧ x ≤ 2147483647) : w32 x = x := w32_id h
theorem w64_e {x : Int} (h : -9223372036854775808 ≤ x ∧ x ≤ 9223372036854775807) : w64 x = x := w64_id h
theorem up_e (v : Int → Int) (i x : Int) : up v i x i = x := if_pos rfl
theorem up_n {v : Int → Int} {i x j : Int} (h : j ≠ i) : up v i x j = v j := if_neg h
section SPEC
variable (N : Nat) (v : Int → Int) (c : Int → Int → Int) (w : Int → Int) (a : Mm)
def un (w : Int → Int) (l : Int) : Int := w (40 + 11 * l + 2) - w (40 + 11 * l + 7)
def dt (w : Int → Int) (l t q : Int) : Int := w (40 + 11 * l + 6) * (t + q) / w (40 + 11 * l + 2) - w (40 + 11 * l + 6) * t / w (40 + 11 * l + 2)
theorem mul_le {x y A B : Int} (h : 0 ≤ x ∧ x ≤ A) (g : 0 ≤ y ∧ y ≤ B) : 0 ≤ x * y ∧ x * y ≤ A * B :=
  ⟨Int.mul_nonneg h.1 g.1, Int.le_trans (Int.mul_le_mul_of_nonneg_right h.2 g.1) (Int.mul_le_mul_of_nonneg_left g.2 (Int.le_trans h.1 h.2))⟩
theorem div_b {x y A : Int} (h : 0 ≤ x ∧ x ≤ A) (g : 0 < y) : 0 ≤ x / y ∧ x / y ≤ A :=
  ⟨Int.ediv_nonneg h.1 (by omega), Int.le_trans (Int.ediv_le_self y h.1) h.2⟩
end SPEC
