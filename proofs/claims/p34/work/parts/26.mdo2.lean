section MDO2
variable (N : Nat) (v : Int → Int) (c : Int → Int → Int) {w : Int → Int} (a : Mm) {K : Int}
theorem yEn_0 {w : Int → Int} {o kd q x : Int} (h : yEn w o kd q x = 0) : (0 ≤ o ∧ o < w 1) ∧ (0 ≤ kd ∧ kd ≤ 5) ∧ (1 ≤ q ∧ q ≤ 1000000) ∧ (0 ≤ x ∧ x ≤ 10000000) ∧ w (20 + 4 * o + 2) ≤ 0 ∧ w 2 ≠ 30 ∧ (us w o + x * w (14 + kd) / 1000) * w 7 / 100 ≤ w (20 + 4 * o + 1) := by
  unfold yEn at h
  repeat' split at h
  all_goals first | (exfalso; omega) | (refine ⟨‹_›, ‹_›, ‹_›, ‹_›, by omega, ‹_›, ‹_›⟩)
/-- what a duty called leaves -/
def cl (w : Int → Int) (l d : Int) : Int → Int :=
  let o := 20 + 4 * w (40 + 11 * l)
  let m := min (w (o + 1)) d
  up (up (up (up (up w (o + 1) (w (o + 1) - m)) (o + 2) (w (o + 2) + (d - m))) (o + 3) (w (o + 3) + d)) (40 + 11 * l + 8) (w (40 + 11 * l + 8) + d)) 10 (w 10 + d)
end MDO2
