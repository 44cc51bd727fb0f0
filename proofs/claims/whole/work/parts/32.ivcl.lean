section IVCL
variable {K : Int} {w : Int → Int}
theorem sm_ge {f : Int → Int} {n : Nat} (h : ∀ i : Int, 0 ≤ i ∧ i < n → 0 ≤ f i) {j : Int} (hj : 0 ≤ j ∧ j < n) : f j ≤ sm f n := by
  induction n with
  | zero => omega
  | succ n ih =>
    show f j ≤ sm f n + f n
    have p : 0 ≤ sm f n := by
      clear ih hj
      induction n with
      | zero => exact Int.le_refl 0
      | succ m im =>
        have q1 := im (fun i hi => h i (by omega))
        have q2 := h (m : Int) (by omega)
        show 0 ≤ sm f m + f m
        omega
    by_cases e : j = n
    · rw [e]; omega
    · have q1 := ih (fun i hi => h i (by omega)) (by omega)
      have q2 := h (n : Int) (by omega)
      omega
theorem sm_up {f : Int → Int} {M : Int} {n : Nat} (h : ∀ i : Int, 0 ≤ i ∧ i < n → f i ≤ M) : sm f n ≤ M * n := by
  induction n with
  | zero => show (0 : Int) ≤ M * 0; omega
  | succ k ih =>
    have a := ih (fun i hi => h i (by omega))
    have b := h (k : Int) (by omega)
    show sm f k + f k ≤ M * ((k : Int) + 1)
    rw [Int.mul_add, Int.mul_one]
    omega
theorem wt_c {u w : Int → Int} (h3 : u 3 = w 3) (h : ∀ i, 370 ≤ i → u i = w i) (l : Int) {j : Int} (hj : 0 ≤ j) : wt u l j = wt w l j := by
  unfold wt
  rw [h3]
  refine sm_c (fun e he => ?_)
  unfold wtf
  rw [h _ (by omega), h _ (by omega), h _ (by omega)]
theorem rs_c {u w : Int → Int} {l : Int} (h2 : u (40 + 11 * l + 2) = w (40 + 11 * l + 2)) (h6 : u (40 + 11 * l + 6) = w (40 + 11 * l + 6)) (h7 : u (40 + 11 * l + 7) = w (40 + 11 * l + 7)) : rs u l = rs w l := by
  unfold rs; rw [h2, h6, h7]
set_option maxHeartbeats 4000000 in
theorem IV_cl (I : IA K w) {l d : Int} (hl : 0 ≤ l ∧ l < w 2) (hd : 0 ≤ d ∧ d ≤ 10000000) (B : IBd w l d) : IV K (cl w l d) := by
  have g := I.hd
  have g' := g
  unfold HEAD at g'
  have hl2 : 0 ≤ l ∧ l < 30 := by omega
  have x := I.lot hl
  unfold LOT at x
  have ho : 0 ≤ w (40 + 11 * l) ∧ w (40 + 11 * l) < 5 := by omega
  have hh : ∀ i, i < 20 ∧ i ≠ 10 → cl w l d i = w i := fun i hi => cl_head hl2 ho hi
  have hL : ∀ i, 40 ≤ i ∧ i ≠ 40 + 11 * l + 8 → cl w l d i = w i := fun i hi => cl_lot hl2 ho hi
  have hP := cl_paid (w := w) (d := d) hl2 ho
  have hO := cl_ow (w := w) (d := d) hl2 ho
  have h10 := cl_10 (w := w) (d := d) hl2 ho
  have hOn : ∀ o, 0 ≤ o ∧ o < 5 → o ≠ w (40 + 11 * l) → ∀ j, 0 ≤ j ∧ j < 4 → cl w l d (20 + 4 * o + j) = w (20 + 4 * o + j) := fun o h hn j hj => cl_own hl2 ho h hn j hj
  generalize cl w l d = u at *
  have u2 : u 2 = w 2 := hh 2 (by omega)
  have u3 : u 3 = w 3 := hh 3 (by omega)
  obtain ⟨B1, B2, B3, B4⟩ := B
  have S1 : sm (fun o => u (20 + 4 * o + 3)) 5 = sm (fun o => w (20 + 4 * o + 3)) 5 + d := by
    have e := sm_1 (f := fun o => u (20 + 4 * o + 3)) (g := fun o => w (20 + 4 * o + 3)) (n := 5) (j := w (40 + 11 * l)) (by omega) (fun i hi hn => hOn i (by omega) hn 3 (by omega))
    rw [e]
    show _ + (u (20 + 4 * w (40 + 11 * l) + 3) - w (20 + 4 * w (40 + 11 * l) + 3)) = _
    rw [hO.2.2.2]; omega
  have S2 : sm (fun x => u (40 + 11 * x + 8)) (w 2).toNat = sm (fun x => w (40 + 11 * x + 8)) (w 2).toNat + d := by
    have e := sm_1 (f := fun x => u (40 + 11 * x + 8)) (g := fun x => w (40 + 11 * x + 8)) (n := (w 2).toNat) (j := l) (by omega) (fun i hi hn => hL _ (by omega))
    rw [e]
    show _ + (u (40 + 11 * l + 8) - w (40 + 11 * l + 8)) = _
    rw [hP]; omega
  have W : ∀ y, wt u y 2 = wt w y 2 := fun y => wt_c u3 (fun i hi => hL i (by omega)) y (by omega)
  have R : ∀ y, rs u y = rs w y := fun y => by
    by_cases hy : 0 ≤ y
    · exact rs_c (hL _ (by omega)) (hL _ (by omega)) (hL _ (by omega))
    · sorry
  sorry
end IVCL
