/-! sums -/
section SUMS
theorem sm_nn {f : Int → Int} {n : Nat} (h : ∀ i : Int, 0 ≤ i ∧ i < n → 0 ≤ f i) : 0 ≤ sm f n := by
  induction n with
  | zero => exact Int.le_refl 0
  | succ m im =>
    have q1 := im (fun i hi => h i (by omega))
    have q2 := h (m : Int) (by omega)
    show 0 ≤ sm f m + f m
    omega
theorem sm_add (f g : Int → Int) (n : Nat) : sm (fun i => f i + g i) n = sm f n + sm g n := by
  induction n with
  | zero => rfl
  | succ n ih =>
    show sm (fun i => f i + g i) n + (f n + g n) = sm f n + f n + (sm g n + g n)
    omega
theorem sm_sw (f : Int → Int → Int) (n m : Nat) : sm (fun i => sm (f i) m) n = sm (fun j => sm (fun i => f i j) n) m := by
  induction n with
  | zero => exact (sm_0 (fun _ _ => rfl)).symm
  | succ n ih =>
    show sm (fun i => sm (f i) m) n + sm (f n) m = sm (fun j => sm (fun i => f i j) n + f n j) m
    rw [sm_add, ih]
theorem sm_le {f g : Int → Int} {n : Nat} (h : ∀ i : Int, 0 ≤ i ∧ i < n → f i ≤ g i) : sm f n ≤ sm g n := by
  induction n with
  | zero => exact Int.le_refl 0
  | succ m im =>
    have q1 := im (fun i hi => h i (by omega))
    have q2 := h (m : Int) (by omega)
    show sm f m + f m ≤ sm g m + g m
    omega
theorem sm_pick {n : Nat} {j : Int} (d : Int) (hj : 0 ≤ j ∧ j < n) : sm (fun i => if j = i then d else 0) n = d := by
  have e := sm_1 (f := fun i => if j = i then d else 0) (g := fun _ => 0) (n := n) (j := j) hj (fun i _ hn => if_neg (fun z => hn z.symm))
  rw [e, sm_0 (fun _ _ => rfl)]
  show 0 + ((if j = j then d else 0) - 0) = d
  rw [if_pos rfl]; omega
theorem sm_up {f : Int → Int} {M : Int} {n : Nat} (h : ∀ i : Int, 0 ≤ i ∧ i < n → f i ≤ M) : sm f n ≤ M * n := by
  induction n with
  | zero => show (0 : Int) ≤ M * 0; omega
  | succ k ih =>
    have a := ih (fun i hi => h i (by omega))
    have b := h (k : Int) (by omega)
    show sm f k + f k ≤ M * ((k : Int) + 1)
    rw [Int.mul_add, Int.mul_one]
    omega
theorem sm_ge {f : Int → Int} {n : Nat} (h : ∀ i : Int, 0 ≤ i ∧ i < n → 0 ≤ f i) {j : Int} (hj : 0 ≤ j ∧ j < n) : f j ≤ sm f n := by
  induction n with
  | zero => omega
  | succ n ih =>
    show f j ≤ sm f n + f n
    have p : 0 ≤ sm f n := sm_nn (fun i hi => h i (by omega))
    by_cases e : j = n
    · rw [e]; omega
    · have q1 := ih (fun i hi => h i (by omega)) (by omega)
      have q2 := h (n : Int) (by omega)
      omega
/-- what is grouped by a place adds up to the whole -/
theorem sm_grp {n m : Nat} (p t : Int → Int) (h : ∀ e : Int, 0 ≤ e ∧ e < n → t e ≠ 0 → 0 ≤ p e ∧ p e < m) :
    sm (fun o => sm (fun e => if p e = o then t e else 0) n) m = sm t n := by
  rw [sm_sw]
  refine sm_c (fun e he => ?_)
  by_cases z : t e = 0
  · rw [z]; exact sm_0 (fun o _ => by split <;> rfl)
  · exact sm_pick (t e) (h e he z)
theorem wt_c {u w : Int → Int} (h3 : u 3 = w 3) (h : ∀ i, 370 ≤ i → u i = w i) (l : Int) {j : Int} (hj : 0 ≤ j) : wt u l j = wt w l j := by
  unfold wt
  rw [h3]
  refine sm_c (fun e he => ?_)
  unfold wtf
  rw [h _ (by omega), h _ (by omega), h _ (by omega)]
theorem rs_c {u w : Int → Int} {l : Int} (h2 : u (40 + 11 * l + 2) = w (40 + 11 * l + 2)) (h6 : u (40 + 11 * l + 6) = w (40 + 11 * l + 6)) (h7 : u (40 + 11 * l + 7) = w (40 + 11 * l + 7)) : rs u l = rs w l := by
  unfold rs; rw [h2, h6, h7]
/-- acts that change nothing of lots, exports and what is called -/
theorem IB_c {u w : Int → Int} (B : IB w) (h2 : u 2 = w 2) (h3 : u 3 = w 3) (h4 : u 4 = w 4) (h10 : u 10 = w 10) (hc : ∀ o, 0 ≤ o ∧ o < 5 → u (20 + 4 * o + 3) = w (20 + 4 * o + 3))
    (h : ∀ i, 40 ≤ i → (370 ≤ i ∨ (i - 40) % 11 ≠ 0) → u i = w i) : IB u := by
  obtain ⟨B1, B2, B3, B4⟩ := B
  refine ⟨fun l hl => ?_, ?_, ?_, ?_⟩
  · have b := B1 l (by omega)
    rw [rs_c (h _ (by omega) (by omega)) (h _ (by omega) (by omega)) (h _ (by omega) (by omega)), wt_c h3 (fun i hi => h i (by omega) (by omega)) l (by omega), h _ (by omega) (by omega), h _ (by omega) (by omega), h _ (by omega) (by omega)]
    exact b
  · rw [h10, B2]
    exact (sm_c (fun o ho => hc o (by omega))).symm
  · rw [h10, h2, show sm (fun l => u (40 + 11 * l + 8)) (w 2).toNat = sm (fun l => w (40 + 11 * l + 8)) (w 2).toNat from sm_c (fun l hl => h _ (by omega) (by omega))]
    exact B3
  · rw [h4, h2, show sm (fun l => if u (40 + 11 * l + 7) = u (40 + 11 * l + 2) then 1 else 0) (w 2).toNat = sm (fun l => if w (40 + 11 * l + 7) = w (40 + 11 * l + 2) then 1 else 0) (w 2).toNat from sm_c (fun l hl => by rw [h _ (by omega) (by omega), h _ (by omega) (by omega)])]
    exact B4
/-- acts on one lot -/
theorem IB_l {u w : Int → Int} (B : IB w) {l : Int} (hl : 0 ≤ l ∧ l < w 2) (h2 : u 2 = w 2) (h4 : u 4 = w 4) (h10 : u 10 = w 10) (hc : ∀ o, 0 ≤ o ∧ o < 5 → u (20 + 4 * o + 3) = w (20 + 4 * o + 3))
    (h : ∀ i, 40 ≤ i ∧ i < 370 → (i < 40 + 11 * l + 7 ∨ 40 + 11 * l + 10 < i) → u i = w i) (h230 : w 2 ≤ 30)
    (W : ∀ y, 0 ≤ y ∧ y < w 2 → y ≠ l → wt u y 2 = wt w y 2) (E : u (40 + 11 * l + 8) + u (40 + 11 * l + 9) + rs u l + wt u l 2 = w (40 + 11 * l + 6))
    (h8 : w (40 + 11 * l + 8) ≤ u (40 + 11 * l + 8)) (h7 : w (40 + 11 * l + 7) = w (40 + 11 * l + 2) → u (40 + 11 * l + 7) = w (40 + 11 * l + 2)) : IB u := by
  obtain ⟨B1, B2, B3, B4⟩ := B
  refine ⟨fun x hx => ?_, ?_, ?_, ?_⟩
  · by_cases e : x = l
    · subst e
      rw [E]; exact (h _ (by omega) (by omega)).symm
    · have b := B1 x (by omega)
      rw [rs_c (h _ (by omega) (by omega)) (h _ (by omega) (by omega)) (h _ (by omega) (by omega)), W x (by omega) e, h _ (by omega) (by omega), h _ (by omega) (by omega), h _ (by omega) (by omega)]
      exact b
  · rw [h10, B2]
    exact (sm_c (fun o ho => hc o (by omega))).symm
  · rw [h10, h2]
    refine Int.le_trans B3 (sm_le (fun x hx => ?_))
    by_cases e : x = l
    · subst e; exact h8
    · rw [h _ (by omega) (by omega)]; exact Int.le_refl _
  · rw [h4, h2]
    refine Int.le_trans B4 (sm_le (fun x hx => ?_))
    by_cases e : x = l
    · subst e
      rw [h (40 + 11 * x + 2) (by omega) (by omega)]
      by_cases z : w (40 + 11 * x + 7) = w (40 + 11 * x + 2)
      · rw [if_pos z, if_pos (h7 z)]; exact Int.le_refl _
      · rw [if_neg z]; split <;> omega
    · rw [h _ (by omega) (by omega), h _ (by omega) (by omega)]; exact Int.le_refl _
theorem IA_l {K K' : Int} {w u : Int → Int} (I : IA K w) (hK : K ≤ K' ∧ K' ≤ 60000) {l : Int} (hl : 0 ≤ l ∧ l < w 2)
    (hH : ∀ i, 0 ≤ i ∧ i < 20 → i ≠ 11 → i ≠ 3 → u i = w i) (h11 : 0 ≤ u 11 ∧ u 11 ≤ 1000000000 * K') (h3 : 0 ≤ u 3 ∧ u 3 ≤ 30)
    (hO : ∀ o, 0 ≤ o ∧ o < 5 → u (20 + 4 * o + 1) = w (20 + 4 * o + 1) ∧ u (20 + 4 * o + 2) = w (20 + 4 * o + 2) ∧ u (20 + 4 * o + 3) = w (20 + 4 * o + 3))
    (hc : ∀ o, 0 ≤ o ∧ o < 5 → 0 ≤ u (20 + 4 * o) ∧ u (20 + 4 * o) ≤ w (20 + 4 * o))
    (hL : ∀ i, 40 ≤ i ∧ i < 370 → (i < 40 + 11 * l + 7 ∨ 40 + 11 * l + 10 < i) → u i = w i) (hl' : LOT u l) (hX : ∀ e, 0 ≤ e ∧ e < u 3 → EXP u e) : IA K' u := by
  have g := I.hd; unfold HEAD at g
  refine ⟨?_, fun k hk => ?_, fun o ho => ?_, fun x hx => ?_, hX, fun o ho => ?_, fun x hx => ?_⟩
  · unfold HEAD
    rw [hH 0 (by omega) (by omega) (by omega), hH 1 (by omega) (by omega) (by omega), hH 2 (by omega) (by omega) (by omega), hH 4 (by omega) (by omega) (by omega), hH 5 (by omega) (by omega) (by omega), hH 6 (by omega) (by omega) (by omega), hH 7 (by omega) (by omega) (by omega), hH 8 (by omega) (by omega) (by omega), hH 9 (by omega) (by omega) (by omega), hH 12 (by omega) (by omega) (by omega)]
    omega
  · rw [hH _ (by omega) (by omega) (by omega)]; exact I.rt hk
  · have q := I.own ho; unfold OWN at q
    have q1 := hO o ho
    have q2 := hc o ho
    unfold OWN; omega
  · by_cases e : x = l
    · subst e; exact hl'
    · have hx2 : 0 ≤ x ∧ x < w 2 := by have := hH 2 (by omega) (by omega) (by omega); omega
      have q := I.lot hx2; unfold LOT at q
      unfold LOT
      rw [hH 0 (by omega) (by omega) (by omega), hH 1 (by omega) (by omega) (by omega), hL _ (by omega) (by omega), hL _ (by omega) (by omega), hL _ (by omega) (by omega), hL _ (by omega) (by omega), hL _ (by omega) (by omega), hL _ (by omega) (by omega), hL _ (by omega) (by omega), hL _ (by omega) (by omega), hL _ (by omega) (by omega), hL _ (by omega) (by omega), hL _ (by omega) (by omega)]
      exact q
  · have e1 := hH 1 (by omega) (by omega) (by omega)
    have q := I.2.2.2.2.2.1 o (by omega)
    have q1 := hO o (by omega)
    have q2 := hc o (by omega)
    omega
  · have e1 := hH 2 (by omega) (by omega) (by omega)
    have q := I.2.2.2.2.2.2 x (by omega)
    rw [hL _ (by omega) (by omega), hL _ (by omega) (by omega), hL _ (by omega) (by omega), hL _ (by omega) (by omega), hL _ (by omega) (by omega)]
    exact q
end SUMS
