/-! owners and settings -/
section SETTERS
variable {N : Nat} {c : Int → Int → Int} {a : Mm} {w : Int → Int} {K : Int}
theorem IV_head (I : IV K w) {u : Int → Int} (hK : K + 1 ≤ 60000) (e : ∀ i, (i < 5 ∨ 20 ≤ i ∨ i = 10 ∨ i = 11) → u i = w i) (h5 : 1 ≤ u 5 ∧ u 5 ≤ 1000) (h6 : 1 ≤ u 6 ∧ u 6 ≤ 200) (h7 : 0 ≤ u 7 ∧ u 7 ≤ 100) (h8 : 0 ≤ u 8 ∧ u 8 ≤ 1000) (h9 : 0 ≤ u 9 ∧ u 9 ≤ 1000)
    (h12 : 0 ≤ u 12 ∧ u 12 ≤ 10000000 * (K + 1)) (hr : ∀ k, 0 ≤ k ∧ k < 6 → 0 ≤ u (14 + k) ∧ u (14 + k) ≤ 1000) : IV (K + 1) u := by
  have g := I.1.hd; unfold HEAD at g
  refine ⟨⟨?_, hr, fun o ho => ?_, fun l hl => ?_, fun k hk => ?_, fun o ho => ?_, fun l hl => ?_⟩, IB_c I.2 (e _ (by omega)) (e _ (by omega)) (e _ (by omega)) (e _ (by omega)) (fun o ho => e _ (by omega)) (fun i hi _ => e i (by omega))⟩
  · unfold HEAD
    rw [e 0 (by omega), e 1 (by omega), e 2 (by omega), e 3 (by omega), e 4 (by omega), e 11 (by omega)]; omega
  · have q := I.1.own ho; unfold OWN at q
    unfold OWN; simp (disch := omega) only [e]; omega
  · rw [e 2 (by omega)] at hl
    have q := I.1.lot hl; unfold LOT at q
    unfold LOT; simp (disch := omega) only [e]; exact q
  · rw [e 3 (by omega)] at hk
    have q := I.1.xp hk; unfold EXP at q
    unfold EXP; simp (disch := omega) only [e]; exact q
  · rw [e 1 (by omega)] at ho
    have q := I.1.2.2.2.2.2.1 o ho
    simp (disch := omega) only [e]; exact q
  · rw [e 2 (by omega)] at hl
    have q := I.1.2.2.2.2.2.2 l hl
    simp (disch := omega) only [e]; exact q
theorem IV_own (I : IV K w) {u : Int → Int} (hK : K + 1 ≤ 60000) {o : Int} (ho : 0 ≤ o ∧ o < w 1) (e : ∀ i, i ≠ 12 → i ≠ 20 + 4 * o → i ≠ 20 + 4 * o + 1 → i ≠ 20 + 4 * o + 2 → u i = w i)
    (h0 : 0 ≤ u (20 + 4 * o) ∧ u (20 + 4 * o) ≤ 10000000 * (K + 1)) (h1 : 0 ≤ u (20 + 4 * o + 1) ∧ u (20 + 4 * o + 1) ≤ 100000000) (h2 : 0 ≤ u (20 + 4 * o + 2) ∧ u (20 + 4 * o + 2) ≤ w (20 + 4 * o + 2)) (h12 : 0 ≤ u 12 ∧ u 12 ≤ 10000000 * (K + 1)) : IV (K + 1) u := by
  have g := I.1.hd; unfold HEAD at g
  refine ⟨⟨?_, fun k hk => ?_, fun o' ho' => ?_, fun l hl => ?_, fun k hk => ?_, fun o' ho' => ?_, fun l hl => ?_⟩, IB_c I.2 (e _ (by omega) (by omega) (by omega) (by omega)) (e _ (by omega) (by omega) (by omega) (by omega)) (e _ (by omega) (by omega) (by omega) (by omega)) (e _ (by omega) (by omega) (by omega) (by omega)) (fun o' ho' => e _ (by omega) (by omega) (by omega) (by omega)) (fun i hi _ => e i (by omega) (by omega) (by omega) (by omega))⟩
  · unfold HEAD
    simp (disch := omega) only [e]; omega
  · rw [e _ (by omega) (by omega) (by omega) (by omega)]; exact I.1.rt hk
  · have q := I.1.own ho'; unfold OWN at q
    unfold OWN
    by_cases z : o' = o
    · subst z; simp (disch := omega) only [e]; omega
    · simp (disch := omega) only [e]; omega
  · rw [e 2 (by omega) (by omega) (by omega) (by omega)] at hl
    have q := I.1.lot hl; unfold LOT at q
    unfold LOT; simp (disch := omega) only [e]; exact q
  · rw [e 3 (by omega) (by omega) (by omega) (by omega)] at hk
    have q := I.1.xp hk; unfold EXP at q
    unfold EXP; simp (disch := omega) only [e]; exact q
  · rw [e 1 (by omega) (by omega) (by omega) (by omega)] at ho'
    have q := I.1.2.2.2.2.2.1 o' ho'
    simp (disch := omega) only [e]; exact q
  · rw [e 2 (by omega) (by omega) (by omega) (by omega)] at hl
    have q := I.1.2.2.2.2.2.2 l hl
    simp (disch := omega) only [e]; exact q
theorem IV_add (I : IV K w) (hK : K + 1 ≤ 60000) (h5 : w 1 < 5) : IV (K + 1) (up w 1 (w 1 + 1)) := by
  have g := I.1.hd; unfold HEAD at g
  have e : ∀ i, i ≠ 1 → up w 1 (w 1 + 1) i = w i := fun i hi => up_n hi
  have e1 : up w 1 (w 1 + 1) 1 = w 1 + 1 := up_e _ _ _
  generalize up w 1 (w 1 + 1) = u at *
  refine ⟨⟨?_, fun k hk => ?_, fun o' ho' => ?_, fun l hl => ?_, fun k hk => ?_, fun o' ho' => ?_, fun l hl => ?_⟩, IB_c I.2 (e _ (by omega)) (e _ (by omega)) (e _ (by omega)) (e _ (by omega)) (fun o' ho' => e _ (by omega)) (fun i hi _ => e i (by omega))⟩
  · unfold HEAD
    simp (disch := omega) only [e, e1]; omega
  · rw [e _ (by omega)]; exact I.1.rt hk
  · have q := I.1.own ho'; unfold OWN at q
    unfold OWN
    simp (disch := omega) only [e]; omega
  · rw [e 2 (by omega)] at hl
    have q := I.1.lot hl; unfold LOT at q
    unfold LOT; simp (disch := omega) only [e, e1]; omega
  · rw [e 3 (by omega)] at hk
    have q := I.1.xp hk; unfold EXP at q
    unfold EXP; simp (disch := omega) only [e]; exact q
  · rw [e1] at ho'
    have q := I.1.2.2.2.2.2.1 o' (by omega)
    simp (disch := omega) only [e]; exact q
  · rw [e 2 (by omega)] at hl
    have q := I.1.2.2.2.2.2.2 l hl
    simp (disch := omega) only [e]; exact q
end SETTERS
