/-! what m does -/
def dRe (w : Int → Int) (l q : Int) : Int → Int :=
  up (up (up w (40 + 11 * l + 7) (w (40 + 11 * l + 7) + q)) (20 + 4 * w (40 + 11 * l)) (w (20 + 4 * w (40 + 11 * l)) - dt w l (w (40 + 11 * l + 7)) q)) (40 + 11 * l + 8) (w (40 + 11 * l + 8) + dt w l (w (40 + 11 * l + 7)) q)
/-- the duty paid for a sample -/
def sd (w : Int → Int) (l q : Int) : Int := dt w l (w (40 + 11 * l + 7) + fr w l q) (q - fr w l q)
def dSa (w : Int → Int) (l q : Int) : Int → Int :=
  up (up (up (up (up w (40 + 11 * l + 9) (w (40 + 11 * l + 9) + dt w l (w (40 + 11 * l + 7)) (fr w l q))) (40 + 11 * l + 7) (w (40 + 11 * l + 7) + q)) (40 + 11 * l + 10) (w (40 + 11 * l + 10) + q)) (20 + 4 * w (40 + 11 * l)) (w (20 + 4 * w (40 + 11 * l)) - sd w l q)) (40 + 11 * l + 8) (w (40 + 11 * l + 8) + sd w l q)
def dXp (w : Int → Int) (l q : Int) : Int → Int :=
  up (up (up (up (up (up (up w (370 + 5 * w 3) l) (370 + 5 * w 3 + 1) q) (370 + 5 * w 3 + 2) (dt w l (w (40 + 11 * l + 7)) q)) (370 + 5 * w 3 + 3) (w 0 + w 6)) (370 + 5 * w 3 + 4) 0) (40 + 11 * l + 7) (w (40 + 11 * l + 7) + q)) 3 (w 3 + 1)
def dPr (w : Int → Int) (e : Int) : Int → Int :=
  up (up w (370 + 5 * e + 4) 1) (40 + 11 * w (370 + 5 * e) + 9) (w (40 + 11 * w (370 + 5 * e) + 9) + w (370 + 5 * e + 2))
def dDe (w : Int → Int) (l q : Int) : Int → Int :=
  up (up (up (up w (40 + 11 * l + 7) (w (40 + 11 * l + 7) + q)) (40 + 11 * l + 9) (w (40 + 11 * l + 9) + dt w l (w (40 + 11 * l + 7)) q)) (20 + 4 * w (40 + 11 * l)) (w (20 + 4 * w (40 + 11 * l)) - q * w 9)) 11 (w 11 + q * w 9)
def dGi (w : Int → Int) (l o : Int) : Int → Int := up w (40 + 11 * l) o
def dEn (w : Int → Int) (o kd q x : Int) : Int → Int :=
  up (up (up (up (up (up (up (up (up (up (up (up w (40 + 11 * w 2) o) (40 + 11 * w 2 + 1) kd) (40 + 11 * w 2 + 2) q) (40 + 11 * w 2 + 3) x) (40 + 11 * w 2 + 4) (w 0)) (40 + 11 * w 2 + 5) (w 0 + w 5)) (40 + 11 * w 2 + 6) (x * w (14 + kd) / 1000)) (40 + 11 * w 2 + 7) 0) (40 + 11 * w 2 + 8) 0) (40 + 11 * w 2 + 9) 0) (40 + 11 * w 2 + 10) 0) 2 (w 2 + 1)
section MDO
variable (N : Nat) (v : Int → Int) (c : Int → Int → Int) {w : Int → Int} (a : Mm) {K : Int}
theorem IA.sub {K : Int} {w : Int → Int} (I : IA K w) {l q : Int} (y : yUn w l q = 0) : 0 ≤ dt w l (w (40 + 11 * l + 7)) q ∧ dt w l (w (40 + 11 * l + 7)) q ≤ 10000000 := by
  obtain ⟨h1, h2, h3⟩ := yUn_0 y
  have x := I.lot h1; unfold LOT at x
  unfold un at h3
  have z := dt_b (w := w) (l := l) (t := w (40 + 11 * l + 7)) (q := q) (by omega) (by omega) (by omega) (by omega) (by omega)
  omega
theorem dt_up {w u : Int → Int} {l t q : Int} (h6 : u (40 + 11 * l + 6) = w (40 + 11 * l + 6)) (h2 : u (40 + 11 * l + 2) = w (40 + 11 * l + 2)) : dt u l t q = dt w l t q := by
  unfold dt; rw [h6, h2]
end MDO
