/-! when m refuses -/
def cd (y : Int) : Int := if y = 0 then 0 else if y = -1 then -100000001 else if y = -2 then -100000002 else -100000003
def yUn (w : Int → Int) (l q : Int) : Int := if 0 ≤ l ∧ l < w 2 then (if 1 ≤ q ∧ q ≤ 1000000 then (if un w l < q then 4 else 0) else -2) else -1
def yRe (w : Int → Int) (l q : Int) : Int := if yUn w l q = 0 then (if w (20 + 4 * w (40 + 11 * l)) < dt w l (w (40 + 11 * l + 7)) q then 3 else 0) else yUn w l q
def ySa (w : Int → Int) (l q : Int) : Int := if yUn w l q = 0 then (if w (20 + 4 * w (40 + 11 * l)) < dt w l (w (40 + 11 * l + 7) + fr w l q) (q - fr w l q) then 3 else 0) else yUn w l q
def yXp (w : Int → Int) (l q : Int) : Int := if yUn w l q = 0 then (if w 3 = 30 then 5 else 0) else yUn w l q
def yPr (w : Int → Int) (e : Int) : Int := if 0 ≤ e ∧ e < w 3 then (if w (370 + 5 * e + 4) = 0 then 0 else 6) else -1
def yDe (w : Int → Int) (l q : Int) : Int := if yUn w l q = 0 then (if w (20 + 4 * w (40 + 11 * l)) < q * w 9 then 3 else 0) else yUn w l q
def yGi (w : Int → Int) (l o : Int) : Int := if 0 ≤ l ∧ l < w 2 then (if 0 ≤ o ∧ o < w 1 then (if w (40 + 11 * l) = o then -2 else if 0 < w (20 + 4 * o + 2) then 1 else if (us w o + su w l) * w 7 / 100 ≤ w (20 + 4 * o + 1) then 0 else 2) else -1) else -1
def yEn (w : Int → Int) (o kd q x : Int) : Int := if 0 ≤ o ∧ o < w 1 then (if 0 ≤ kd ∧ kd ≤ 5 then (if 1 ≤ q ∧ q ≤ 1000000 then (if 0 ≤ x ∧ x ≤ 10000000 then (if 0 < w (20 + 4 * o + 2) then 1 else if w 2 = 30 then 5 else if (us w o + x * w (14 + kd) / 1000) * w 7 / 100 ≤ w (20 + 4 * o + 1) then 0 else 2) else -2) else -2) else -1) else -1
theorem IA.usT {K : Int} {w : Int → Int} (I : IA K w) (o : Int) : 0 ≤ us w o ∧ us w o ≤ 300000000 := by
  have h := I.hd; unfold HEAD at h
  exact I.usB o (k := (w 2).toNat) (by omega)
section MCHK
variable (N : Nat) (v : Int → Int) (c : Int → Int → Int) {w : Int → Int} (a : Mm) {K : Int}
theorem yUn_0 {w : Int → Int} {l q : Int} (h : yUn w l q = 0) : (0 ≤ l ∧ l < w 2) ∧ (1 ≤ q ∧ q ≤ 1000000) ∧ q ≤ un w l := by
  unfold yUn at h
  by_cases q1 : 0 ≤ l ∧ l < w 2
  · by_cases q2 : 1 ≤ q ∧ q ≤ 1000000
    · by_cases q3 : un w l < q
      · rw [if_pos q1, if_pos q2, if_pos q3] at h; omega
      · exact ⟨q1, q2, by omega⟩
    · rw [if_pos q1, if_neg q2] at h; omega
  · rw [if_neg q1] at h; omega
theorem yUn_n {w : Int → Int} {l q : Int} (h : yUn w l q ≠ 0) : cd (yUn w l q) < 0 := by
  unfold cd
  rw [if_neg h]
  split <;> (try split) <;> omega
end MCHK
