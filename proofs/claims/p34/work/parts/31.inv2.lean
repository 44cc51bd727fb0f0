/-! a duty called keeps what a row keeps -/
section INV2
variable {K : Int} {w : Int → Int}
/-- as IB, where a duty d of the lot l is still to be called -/
def IBd (w : Int → Int) (l d : Int) : Prop := (∀ x, 0 ≤ x ∧ x < w 2 → w (40 + 11 * x + 8) + w (40 + 11 * x + 9) + rs w x + wt w x 2 + (if x = l then d else 0) = w (40 + 11 * x + 6)) ∧
  w 10 = sm (fun o => w (20 + 4 * o + 3)) 5 ∧ w 10 ≤ sm (fun l => w (40 + 11 * l + 8)) (w 2).toNat ∧ w 4 ≤ sm (fun l => if w (40 + 11 * l + 7) = w (40 + 11 * l + 2) then 1 else 0) (w 2).toNat
theorem rs_b (I : IA K w) {l : Int} (h : 0 ≤ l ∧ l < w 2) : 0 ≤ rs w l := by
  have x := I.lot h; unfold LOT at x
  have z := dt_b (w := w) (l := l) (t := w (40 + 11 * l + 7)) (q := un w l) (by omega) (by omega) (by omega) (by unfold un; omega) (by unfold un; omega)
  rw [dt_all w l (by omega)] at z
  exact z.1
theorem IA.wtB (I : IA K w) (l : Int) : 0 ≤ wt w l 2 ∧ wt w l 2 ≤ 300000000 := by
  have h := I.hd; unfold HEAD at h
  exact I.wt2 l (k := (w 3).toNat) (by omega)
theorem cl_lot {l d i : Int} (hl : 0 ≤ l ∧ l < 30) (ho : 0 ≤ w (40 + 11 * l) ∧ w (40 + 11 * l) < 5) (hi : 40 ≤ i ∧ i ≠ 40 + 11 * l + 8) : cl w l d i = w i := by
  unfold cl
  simp (disch := omega) only [up_n]
theorem cl_paid {l d : Int} (hl : 0 ≤ l ∧ l < 30) (ho : 0 ≤ w (40 + 11 * l) ∧ w (40 + 11 * l) < 5) : cl w l d (40 + 11 * l + 8) = w (40 + 11 * l + 8) + d := by
  unfold cl
  simp (disch := omega) only [up_n, up_e]
theorem cl_head {l d i : Int} (hl : 0 ≤ l ∧ l < 30) (ho : 0 ≤ w (40 + 11 * l) ∧ w (40 + 11 * l) < 5) (hi : i < 20 ∧ i ≠ 10) : cl w l d i = w i := by
  unfold cl
  simp (disch := omega) only [up_n]
theorem cl_10 {l d : Int} (hl : 0 ≤ l ∧ l < 30) (ho : 0 ≤ w (40 + 11 * l) ∧ w (40 + 11 * l) < 5) : cl w l d 10 = w 10 + d := by
  unfold cl
  simp (disch := omega) only [up_n, up_e]
theorem cl_own {l d o : Int} (hl : 0 ≤ l ∧ l < 30) (ho : 0 ≤ w (40 + 11 * l) ∧ w (40 + 11 * l) < 5) (h : 0 ≤ o ∧ o < 5) (hn : o ≠ w (40 + 11 * l)) (j : Int) (hj : 0 ≤ j ∧ j < 4) : cl w l d (20 + 4 * o + j) = w (20 + 4 * o + j) := by
  unfold cl
  simp (disch := omega) only [up_n]
theorem cl_ow {l d : Int} (hl : 0 ≤ l ∧ l < 30) (ho : 0 ≤ w (40 + 11 * l) ∧ w (40 + 11 * l) < 5) :
    cl w l d (20 + 4 * w (40 + 11 * l)) = w (20 + 4 * w (40 + 11 * l)) ∧ cl w l d (20 + 4 * w (40 + 11 * l) + 1) = w (20 + 4 * w (40 + 11 * l) + 1) - min (w (20 + 4 * w (40 + 11 * l) + 1)) d ∧
    cl w l d (20 + 4 * w (40 + 11 * l) + 2) = w (20 + 4 * w (40 + 11 * l) + 2) + (d - min (w (20 + 4 * w (40 + 11 * l) + 1)) d) ∧ cl w l d (20 + 4 * w (40 + 11 * l) + 3) = w (20 + 4 * w (40 + 11 * l) + 3) + d := by
  unfold cl
  refine ⟨?_, ?_, ?_, ?_⟩ <;> simp (disch := omega) only [up_n, up_e]
end INV2
