/-! what m's readers answer -/
section MODEL
variable (N : Nat) (v : Int → Int) (c : Int → Int → Int) {w : Int → Int} (a : Mm) {K : Int}
/-- what is covered -/
def cvd (w : Int → Int) (u g : Int) : Prop := u * w 7 / 100 ≤ g
/-- how many units of a sample are free -/
def fr (w : Int → Int) (l q : Int) : Int := if w (40 + 11 * l + 2) * w 8 / 1000 - w (40 + 11 * l + 10) < 0 then 0 else if w (40 + 11 * l + 2) * w 8 / 1000 - w (40 + 11 * l + 10) < q then w (40 + 11 * l + 2) * w 8 / 1000 - w (40 + 11 * l + 10) else q
theorem fr_b (w : Int → Int) (l q : Int) (h : 0 ≤ q) : 0 ≤ fr w l q ∧ fr w l q ≤ q := by unfold fr; split <;> (try split) <;> omega
end MODEL
