/-! what is left has not ended: the acts keep it -/
section JVS
variable {K : Int} {w : Int → Int}
theorem JV_Re (J : JV K w) (hK : K + 1 ≤ 60000) {l q : Int} (y : yRe w l q = 0) : JV (K + 1) (dRe w l q) := by
  have g := J.1.1.hd; unfold HEAD at g
  have y0 : yUn w l q = 0 := by unfold yRe at y; split at y <;> assumption
  obtain ⟨h1, h2, h3⟩ := yUn_0 y0
  have x := J.1.1.lot h1; unfold LOT at x
  have e : ∀ i, i ≠ 40 + 11 * l + 7 → i ≠ 40 + 11 * l + 8 → i ≠ 20 + 4 * w (40 + 11 * l) → dRe w l q i = w i := by
    intro i i0 i1 i2; unfold dRe; simp (disch := omega) only [up_n]
  have e7 : dRe w l q (40 + 11 * l + 7) = w (40 + 11 * l + 7) + q := by unfold dRe; simp (disch := omega) only [up_n, up_e]
  refine ⟨IV_Re J.1 hK y, IC_c J.2 (e 0 (by omega) (by omega) (by omega)) (e 2 (by omega) (by omega) (by omega)) (e 3 (by omega) (by omega) (by omega)) (fun l' hl' => ⟨e _ (by omega) (by omega) (by omega), fun z => ?_, e _ (by omega) (by omega) (by omega)⟩) (fun x hx => ⟨e _ (by omega) (by omega) (by omega), fun z => by rw [e _ (by omega) (by omega) (by omega)] at z; exact z⟩)⟩
  unfold un at z ⊢
  rw [e (40 + 11 * l' + 2) (by omega) (by omega) (by omega)] at z
  by_cases q1 : l' = l
  · rw [q1, e7] at z; rw [q1]; omega
  · rw [e (40 + 11 * l' + 7) (by omega) (by omega) (by omega)] at z; exact z
theorem JV_Sa (J : JV K w) (hK : K + 1 ≤ 60000) {l q : Int} (y : ySa w l q = 0) : JV (K + 1) (dSa w l q) := by
  have g := J.1.1.hd; unfold HEAD at g
  have y0 : yUn w l q = 0 := by unfold ySa at y; split at y <;> assumption
  obtain ⟨h1, h2, h3⟩ := yUn_0 y0
  have x := J.1.1.lot h1; unfold LOT at x
  have e : ∀ i, i ≠ 40 + 11 * l + 7 → i ≠ 40 + 11 * l + 8 → i ≠ 40 + 11 * l + 9 → i ≠ 40 + 11 * l + 10 → i ≠ 20 + 4 * w (40 + 11 * l) → dSa w l q i = w i := by
    intro i i0 i1 i2 i3 i4; unfold dSa; simp (disch := omega) only [up_n]
  have e7 : dSa w l q (40 + 11 * l + 7) = w (40 + 11 * l + 7) + q := by unfold dSa; simp (disch := omega) only [up_n, up_e]
  refine ⟨IV_Sa J.1 hK y, IC_c J.2 (e 0 (by omega) (by omega) (by omega) (by omega) (by omega)) (e 2 (by omega) (by omega) (by omega) (by omega) (by omega)) (e 3 (by omega) (by omega) (by omega) (by omega) (by omega)) (fun l' hl' => ⟨e _ (by omega) (by omega) (by omega) (by omega) (by omega), fun z => ?_, e _ (by omega) (by omega) (by omega) (by omega) (by omega)⟩) (fun x hx => ⟨e _ (by omega) (by omega) (by omega) (by omega) (by omega), fun z => by rw [e _ (by omega) (by omega) (by omega) (by omega) (by omega)] at z; exact z⟩)⟩
  unfold un at z ⊢
  rw [e (40 + 11 * l' + 2) (by omega) (by omega) (by omega) (by omega) (by omega)] at z
  by_cases q1 : l' = l
  · rw [q1, e7] at z; rw [q1]; omega
  · rw [e (40 + 11 * l' + 7) (by omega) (by omega) (by omega) (by omega) (by omega)] at z; exact z
theorem JV_De (J : JV K w) (hK : K + 1 ≤ 60000) {l q : Int} (y : yDe w l q = 0) : JV (K + 1) (dDe w l q) := by
  have g := J.1.1.hd; unfold HEAD at g
  have y0 : yUn w l q = 0 := by unfold yDe at y; split at y <;> assumption
  obtain ⟨h1, h2, h3⟩ := yUn_0 y0
  have x := J.1.1.lot h1; unfold LOT at x
  have e : ∀ i, i ≠ 40 + 11 * l + 7 → i ≠ 40 + 11 * l + 9 → i ≠ 20 + 4 * w (40 + 11 * l) → i ≠ 11 → dDe w l q i = w i := by
    intro i i0 i1 i2 i3; unfold dDe; simp (disch := omega) only [up_n]
  have e7 : dDe w l q (40 + 11 * l + 7) = w (40 + 11 * l + 7) + q := by unfold dDe; simp (disch := omega) only [up_n, up_e]
  refine ⟨IV_De J.1 hK y, IC_c J.2 (e 0 (by omega) (by omega) (by omega) (by omega)) (e 2 (by omega) (by omega) (by omega) (by omega)) (e 3 (by omega) (by omega) (by omega) (by omega)) (fun l' hl' => ⟨e _ (by omega) (by omega) (by omega) (by omega), fun z => ?_, e _ (by omega) (by omega) (by omega) (by omega)⟩) (fun x hx => ⟨e _ (by omega) (by omega) (by omega) (by omega), fun z => by rw [e _ (by omega) (by omega) (by omega) (by omega)] at z; exact z⟩)⟩
  unfold un at z ⊢
  rw [e (40 + 11 * l' + 2) (by omega) (by omega) (by omega) (by omega)] at z
  by_cases q1 : l' = l
  · rw [q1, e7] at z; rw [q1]; omega
  · rw [e (40 + 11 * l' + 7) (by omega) (by omega) (by omega) (by omega)] at z; exact z
theorem JV_Xp (J : JV K w) (hK : K + 1 ≤ 60000) {l q : Int} (y : yXp w l q = 0) : JV (K + 1) (dXp w l q) := by
  have g := J.1.1.hd; unfold HEAD at g
  have y0 : yUn w l q = 0 := by unfold yXp at y; split at y <;> assumption
  have y1 : w 3 ≠ 30 := by unfold yXp at y; rw [if_pos y0] at y; split at y <;> omega
  obtain ⟨h1, h2, h3⟩ := yUn_0 y0
  have x := J.1.1.lot h1; unfold LOT at x
  have e : ∀ i, i ≠ 3 → i ≠ 40 + 11 * l + 7 → (i < 370 + 5 * w 3 ∨ 370 + 5 * w 3 + 4 < i) → dXp w l q i = w i := by
    intro i i0 i1 i2; unfold dXp; simp (disch := omega) only [up_n]
  have e7 : dXp w l q (40 + 11 * l + 7) = w (40 + 11 * l + 7) + q := by unfold dXp; simp (disch := omega) only [up_n, up_e]
  have e3 : dXp w l q 3 = w 3 + 1 := by unfold dXp; simp (disch := omega) only [up_n, up_e]
  have ed : dXp w l q (370 + 5 * w 3 + 3) = w 0 + w 6 := by unfold dXp; simp (disch := omega) only [up_n, up_e]
  refine ⟨IV_Xp J.1 hK y, fun l' hl' z => ?_, fun k hk z => ?_, fun l' hl' => ?_⟩
  · rw [e 2 (by omega) (by omega) (by omega)] at hl'
    rw [e 0 (by omega) (by omega) (by omega), e _ (by omega) (by omega) (by omega)]
    refine J.2.1 l' hl' ?_
    unfold un at z ⊢
    rw [e (40 + 11 * l' + 2) (by omega) (by omega) (by omega)] at z
    by_cases q1 : l' = l
    · rw [q1, e7] at z; rw [q1]; omega
    · rw [e (40 + 11 * l' + 7) (by omega) (by omega) (by omega)] at z; exact z
  · rw [e3] at hk
    rw [e 0 (by omega) (by omega) (by omega)]
    by_cases q1 : k = w 3
    · rw [q1, ed]; omega
    · rw [e _ (by omega) (by omega) (by omega)] at z ⊢
      exact J.2.2.1 k (by omega) z
  · rw [e 2 (by omega) (by omega) (by omega)] at hl'
    rw [e _ (by omega) (by omega) (by omega)]
    exact J.2.2.2 l' hl'
theorem JV_Pr (J : JV K w) (hK : K + 1 ≤ 60000) {e0 : Int} (y : yPr w e0 = 0) : JV (K + 1) (dPr w e0) := by
  have g := J.1.1.hd; unfold HEAD at g
  have y0 : 0 ≤ e0 ∧ e0 < w 3 := by unfold yPr at y; split at y; assumption; omega
  have x := J.1.1.xp y0; unfold EXP at x
  have e : ∀ i, i ≠ 370 + 5 * e0 + 4 → i ≠ 40 + 11 * w (370 + 5 * e0) + 9 → dPr w e0 i = w i := by
    intro i i0 i1; unfold dPr; simp (disch := omega) only [up_n]
  have e4 : dPr w e0 (370 + 5 * e0 + 4) = 1 := by unfold dPr; simp (disch := omega) only [up_n, up_e]
  refine ⟨IV_Pr J.1 hK y, IC_c J.2 (e 0 (by omega) (by omega)) (e 2 (by omega) (by omega)) (e 3 (by omega) (by omega)) (fun l' hl' => ⟨e _ (by omega) (by omega), fun z => ?_, e _ (by omega) (by omega)⟩) (fun k hk => ⟨e _ (by omega) (by omega), fun z => ?_⟩)⟩
  · unfold un at z ⊢
    rw [e _ (by omega) (by omega), e _ (by omega) (by omega)] at z
    exact z
  · by_cases q1 : k = e0
    · rw [q1, e4] at z; omega
    · rw [e _ (by omega) (by omega)] at z; exact z
theorem JV_Gi (J : JV K w) (hK : K + 1 ≤ 60000) {l o : Int} (y : yGi w l o = 0) : JV (K + 1) (dGi w l o) := by
  have g := J.1.1.hd; unfold HEAD at g
  have h1 := (yGi_0 y).1
  have e : ∀ i, i ≠ 40 + 11 * l → dGi w l o i = w i := fun i hi => up_n hi
  refine ⟨IV_Gi J.1 hK y, IC_c J.2 (e 0 (by omega)) (e 2 (by omega)) (e 3 (by omega)) (fun l' hl' => ⟨e _ (by omega), fun z => ?_, e _ (by omega)⟩) (fun k hk => ⟨e _ (by omega), fun z => ?_⟩)⟩
  · unfold un at z ⊢
    rw [e _ (by omega), e _ (by omega)] at z
    exact z
  · rw [e _ (by omega)] at z; exact z
theorem JV_En (J : JV K w) (hK : K + 1 ≤ 60000) {o kd q x : Int} (hq : q ≤ 999999) (y : yEn w o kd q x = 0) : JV (K + 1) (dEn w o kd q x) := by
  have g := J.1.1.hd; unfold HEAD at g
  obtain ⟨h1, h2, h3, h4, h5, h6, h7⟩ := yEn_0 y
  have e : ∀ i, i ≠ 2 → (i < 40 + 11 * w 2 ∨ 40 + 11 * w 2 + 10 < i) → dEn w o kd q x i = w i := by
    intro i i0 i1; unfold dEn; simp (disch := omega) only [up_n]
  have e2 : dEn w o kd q x 2 = w 2 + 1 := by unfold dEn; simp (disch := omega) only [up_n, up_e]
  have e5 : dEn w o kd q x (40 + 11 * w 2 + 5) = w 0 + w 5 := by unfold dEn; simp (disch := omega) only [up_n, up_e]
  have eq2 : dEn w o kd q x (40 + 11 * w 2 + 2) = q := by unfold dEn; simp (disch := omega) only [up_n, up_e]
  refine ⟨IV_En J.1 hK y, fun l hl z => ?_, fun k hk z => ?_, fun l hl => ?_⟩
  · rw [e2] at hl
    rw [e 0 (by omega) (by omega)]
    by_cases q1 : l = w 2
    · rw [q1, e5]; omega
    · unfold un at z
      rw [e _ (by omega) (by omega), e _ (by omega) (by omega)] at z
      rw [e _ (by omega) (by omega)]
      exact J.2.1 l (by omega) z
  · rw [e 3 (by omega) (by omega)] at hk
    rw [e 0 (by omega) (by omega), e _ (by omega) (by omega)]
    rw [e _ (by omega) (by omega)] at z
    exact J.2.2.1 k hk z
  · rw [e2] at hl
    by_cases q1 : l = w 2
    · rw [q1, eq2]; exact hq
    · rw [e _ (by omega) (by omega)]
      exact J.2.2.2 l (by omega)
theorem JV_pass (J : JV K w) (hK : K + 1 ≤ 60000) {d : Int} (hd : 1 ≤ d ∧ d ≤ 100) : JV (K + 1) (pR w d) := by
  have g := J.1.1.hd; unfold HEAD at g
  obtain ⟨s1, s2, s3, s4, s5, s6, s7, s8, s9, s10, s11, -⟩ := CF_see J.1.1 (w 0 + d) (fun _ => w 0 + d) (fun _ => w 0 + d)
  refine ⟨IV_pass J.1 hK hd, fun l hl z => ?_, fun k hk z => ?_, fun l hl => ?_⟩
  · unfold pR at hl z ⊢
    rw [s1 2 (by omega)] at hl
    rw [s2, s8 l 5 (by omega) (by omega)]
    unfold un at z
    rw [s8 l 2 (by omega) (by omega), s5 l (by omega)] at z
    unfold LL eL at z
    by_cases q : (0 ≤ l ∧ l < w 2) ∧ 0 < un w l ∧ w (40 + 11 * l + 5) < w 0 + d
    · rw [if_pos q, if_pos rfl] at z; omega
    · rw [if_neg q, if_neg (by omega)] at z
      by_cases q2 : w (40 + 11 * l + 5) < w 0 + d
      · exact absurd ⟨hl, z, q2⟩ q
      · omega
  · unfold pR at hk z ⊢
    rw [s1 3 (by omega)] at hk
    rw [s2, s10 k 3 (by omega) (by omega)]
    rw [s9 k (by omega)] at z
    unfold XX eX at z
    by_cases q : (0 ≤ k ∧ k < w 3) ∧ w (370 + 5 * k + 4) = 0 ∧ w (370 + 5 * k + 3) < w 0 + d
    · rw [if_pos q, if_pos rfl] at z; omega
    · rw [if_neg q, if_neg (by omega)] at z
      by_cases q2 : w (370 + 5 * k + 3) < w 0 + d
      · exact absurd ⟨hk, z, q2⟩ q
      · omega
  · unfold pR at hl ⊢
    rw [s1 2 (by omega)] at hl
    rw [s8 l 2 (by omega) (by omega)]
    exact J.2.2.2 l hl
/-- acts that leave days, lots and exports -/
theorem IC_o {u : Int → Int} (B : IC w) (h : ∀ i, (i = 0 ∨ i = 2 ∨ i = 3 ∨ 40 ≤ i) → u i = w i) : IC u := by
  refine IC_c B (h 0 (by omega)) (h 2 (by omega)) (h 3 (by omega)) (fun l hl => ⟨h _ (by omega), fun z => ?_, h _ (by omega)⟩) (fun e he => ⟨h _ (by omega), fun z => ?_⟩)
  · unfold un at z ⊢
    rw [h _ (by omega), h _ (by omega)] at z
    exact z
  · rw [h _ (by omega)] at z
    exact z
end JVS
