/-! the loops of pass -/
section PASS
variable (N : Nat) {w : Int → Int} (v : Int → Int) (c : Int → Int → Int) (a : Mm) {K : Int}
/-- thresholds after k looks -/
def th (h : Int → Int) (D : Int) (k : Nat) : Int → Int := fun e => if e < k then D else h e
theorem th_s (h : Int → Int) (D : Int) (k : Nat) : th h D (k + 1) = up (th h D k) k D := by
  funext e
  show (if e < ((k + 1 : Nat) : Int) then D else h e) = if e = (k : Int) then D else if e < (k : Int) then D else h e
  rw [nc1]
  by_cases z : e = k
  · rw [if_pos z, if_pos (by omega)]
  · rw [if_neg z]
    by_cases y : e < k
    · rw [if_pos y, if_pos (by omega)]
    · rw [if_neg y, if_neg (by omega)]
theorem th_0 (h : Int → Int) (D : Int) : th h D 0 = h ∨ ∀ e, 0 ≤ e → th h D 0 e = h e := Or.inr (fun e he => if_neg (by omega))
theorem th_at (h : Int → Int) (D : Int) (k : Nat) : th h D k k = h k := if_neg (by omega)
/-- what one sees of a row that has been looked at -/
theorem CF_see (I : IA K w) (D : Int) (h p : Int → Int) : (∀ i, i < 20 ∧ i ≠ 0 ∧ i ≠ 4 ∧ i ≠ 10 → CF w D h p i = w i) ∧ CF w D h p 0 = D ∧ CF w D h p 4 = w 4 + NN w p ∧ CF w D h p 10 = w 10 + SS w h p ∧
    (∀ l, 0 ≤ l ∧ l < 30 → CF w D h p (40 + 11 * l + 7) = LL w p l) ∧ (∀ l, 0 ≤ l ∧ l < 30 → CF w D h p (40 + 11 * l + 8) = w (40 + 11 * l + 8) + PP w h p l) ∧
    (∀ l, 0 ≤ l ∧ l < 30 → CF w D h p (40 + 11 * l) = w (40 + 11 * l)) ∧ (∀ l j, 0 ≤ l ∧ l < 30 → 0 ≤ j ∧ j < 11 ∧ j ≠ 7 ∧ j ≠ 8 → CF w D h p (40 + 11 * l + j) = w (40 + 11 * l + j)) ∧
    (∀ e, 0 ≤ e ∧ e < 30 → CF w D h p (370 + 5 * e + 4) = XX w h e) ∧ (∀ e j, 0 ≤ e ∧ e < 30 → 0 ≤ j ∧ j < 4 → CF w D h p (370 + 5 * e + j) = w (370 + 5 * e + j)) ∧ (∀ e, 0 ≤ e ∧ e < 30 → CF w D h p (370 + 5 * e) = w (370 + 5 * e)) ∧
    (∀ o, 0 ≤ o ∧ o < 5 → 0 ≤ CF w D h p (20 + 4 * o + 1) ∧ CF w D h p (20 + 4 * o + 1) ≤ 100000000 ∧ 0 ≤ CF w D h p (20 + 4 * o + 2) ∧ CF w D h p (20 + 4 * o + 2) ≤ 1000000000 ∧ 0 ≤ CF w D h p (20 + 4 * o + 3) ∧ CF w D h p (20 + 4 * o + 3) ≤ 1000000000) := by
  refine ⟨fun i hi => RW_h _ _ _ _ _ _ _ _ hi, RW_h0 _ _ _ _ _ _ _ _, RW_h4 _ _ _ _ _ _ _ _, RW_h10 _ _ _ _ _ _ _ _, fun l hl => RW_7 _ _ _ _ _ _ _ _ hl, fun l hl => RW_8 _ _ _ _ _ _ _ _ hl, fun l hl => RW_l0 _ _ _ _ _ _ _ _ hl,
    fun l j hl hj => RW_l _ _ _ _ _ _ _ _ hl hj, fun e he => RW_4 _ _ _ _ _ _ _ _ he, fun e j he hj => RW_x _ _ _ _ _ _ _ _ he hj, fun e he => RW_x0 _ _ _ _ _ _ _ _ he, fun o ho => ?_⟩
  have q := RW_o w D (TT w h p) (PP w h p) (XX w h) (LL w p) (SS w h p) (NN w p) ho
  have t := TT_b I h p o
  have x := I.own ho; unfold OWN at x
  unfold CF
  omega
end PASS
