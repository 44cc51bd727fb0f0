/-! documents: what is written, and m's writing -/
def ndf : Nat → Int → Nat
  | 0, _ => 1
  | k + 1, x => if x < 10 then 1 else ndf k (x / 10) + 1
def nd (x : Int) : Int := (ndf 9 x : Int)
/-- the digits of x end before the place e -/
def Gd (e x : Int) (f : Int → Int) : Int → Int := fun i => if e - nd x ≤ i ∧ i < e then 48 + x / p10 (e - 1 - i).toNat % 10 else f i
theorem p10_s (k : Nat) : p10 (k + 1) = 10 * p10 k := Eq.trans rfl rfl
theorem ndf_1 (k : Nat) (x : Int) : 1 ≤ ndf k x := by
  cases k with
  | zero => exact Nat.le_refl 1
  | succ k => unfold ndf; split <;> omega
theorem ndf_p : ∀ (k : Nat) (x : Int), 0 ≤ x → x < p10 (k + 1) → x < p10 (ndf k x) ∧ (ndf k x = 1 ∨ p10 (ndf k x - 1) ≤ x) ∧ ndf k x ≤ k + 1 := by
  intro k
  induction k with
  | zero => intro x h0 h1; exact ⟨h1, Or.inl rfl, Nat.le_refl 1⟩
  | succ k ih =>
    intro x h0 h1
    unfold ndf
    by_cases q : x < 10
    · rw [if_pos q]; exact ⟨q, Or.inl rfl, by omega⟩
    · rw [if_neg q]
      rw [p10_s] at h1
      obtain ⟨a1, a2, a3⟩ := ih (x / 10) (by omega) (by omega)
      have n1 := ndf_1 k (x / 10)
      refine ⟨by rw [p10_s]; omega, Or.inr ?_, by omega⟩
      rw [show ndf k (x / 10) + 1 - 1 = (ndf k (x / 10) - 1) + 1 from by omega, p10_s]
      rcases a2 with a2 | a2
      · rw [a2]; show 10 * 1 ≤ x; omega
      · omega
theorem nd_p {x : Int} (h : 0 ≤ x ∧ x < 1000000000) : x < p10 (nd x).toNat ∧ (nd x = 1 ∨ p10 ((nd x).toNat - 1) ≤ x) ∧ 1 ≤ nd x ∧ nd x ≤ 10 := by
  have q := ndf_p 9 x h.1 (by have e : p10 10 = 10000000000 := rfl; rw [show 9 + 1 = 10 from rfl, e]; omega)
  have n1 := ndf_1 9 x
  unfold nd
  rw [show ((ndf 9 x : Int)).toNat = ndf 9 x from rfl]
  refine ⟨q.1, ?_, by omega, by omega⟩
  rcases q.2.1 with z | z
  · left; omega
  · right; exact z
theorem p10_m {a b : Nat} (h : a ≤ b) : p10 a ≤ p10 b := by
  induction b with
  | zero => rw [show a = 0 from by omega]; exact Int.le_refl _
  | succ b ih =>
    by_cases e : a = b + 1
    · rw [e]; exact Int.le_refl _
    · have := ih (by omega)
      have := p10_1 b
      rw [p10_s]; omega
theorem nd_le {x : Int} {k : Nat} (h : 0 ≤ x ∧ x < 1000000000) (hk : 1 ≤ k) (hx : x < p10 k) : nd x ≤ k := by
  obtain ⟨a1, a2, a3, a4⟩ := nd_p h
  by_cases z : nd x ≤ k
  · exact z
  · have := p10_m (a := k) (b := (nd x).toNat - 1) (by omega)
    omega
theorem nd_9 {x : Int} (h : 0 ≤ x ∧ x < 1000000000) : 1 ≤ nd x ∧ nd x ≤ 9 := ⟨(nd_p h).2.2.1, nd_le h (k := 9) (by omega) h.2⟩
theorem o_lrem_e {x : Int} (h : 0 ≤ x ∧ x ≤ 2147483647) : o_lrem x 10 = x % 10 := by
  unfold o_lrem
  rw [dv_l ⟨by omega, by omega⟩ ⟨by omega, by omega⟩, ml_l, sb_l, toL (w64_R _), Int.tdiv_eq_ediv_of_nonneg h.1, w64_e (x := x / 10) (by omega), w64_e (x := x / 10 * 10) (by omega), w64_e (by omega)]
  omega
section MDOC
variable {N : Nat} (v : Int → Int) (c : Int → Int → Int) (w : Int → Int) {a0 a : Mm} {f : Int → Int} {n : Int}
def q10 : Nat → Int
  | 0 => 0
  | k + 1 => p10 k
theorem q10_d (k : Nat) : p10 k / 10 = q10 k := by
  cases k with
  | zero => rfl
  | succ k => rw [p10_s]; show 10 * p10 k / 10 = p10 k; omega
/-- the digits of x, j of them still to be written -/
def Gk (e x : Int) (j : Int) (f : Int → Int) : Int → Int := fun i => if e - nd x ≤ i ∧ i < e - j then 48 + x / p10 (e - 1 - i).toNat % 10 else f i
theorem Gk_c {e x j : Int} {f : Int → Int} : up (Gk e x (j + 1) f) (e - (j + 1)) (48 + x / p10 j.toNat % 10) = Gk e x j f ∨ ¬ (0 ≤ j ∧ j < nd x) := by
  by_cases h : 0 ≤ j ∧ j < nd x
  · left
    funext i
    unfold up Gk
    by_cases z : i = e - (j + 1)
    · rw [if_pos z, if_pos (by omega), show e - 1 - i = j from by omega]
    · rw [if_neg z]
      by_cases y : e - nd x ≤ i ∧ i < e - (j + 1)
      · rw [if_pos y, if_pos (by omega)]
      · rw [if_neg y, if_neg (by omega)]
  · right; exact h
end MDOC
