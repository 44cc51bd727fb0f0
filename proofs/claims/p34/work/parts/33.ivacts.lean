/-! the acts keep what a row keeps -/
section IVACTS
variable {K : Int} {w : Int → Int}
theorem dt_split (w : Int → Int) (l t f q : Int) : dt w l t f + dt w l (t + f) (q - f) = dt w l t q := by
  unfold dt
  rw [show t + f + (q - f) = t + q from by omega]
  omega
theorem rs_take {u w : Int → Int} {l q : Int} (h2 : u (40 + 11 * l + 2) = w (40 + 11 * l + 2)) (h6 : u (40 + 11 * l + 6) = w (40 + 11 * l + 6)) (h7 : u (40 + 11 * l + 7) = w (40 + 11 * l + 7) + q) : rs u l = rs w l - dt w l (w (40 + 11 * l + 7)) q := by
  unfold rs dt
  rw [h2, h6, h7]
  omega
theorem rs_u {w : Int → Int} {l : Int} (h6 : 0 ≤ w (40 + 11 * l + 6)) (h2 : 1 ≤ w (40 + 11 * l + 2)) (h7 : 0 ≤ w (40 + 11 * l + 7) ∧ w (40 + 11 * l + 7) ≤ w (40 + 11 * l + 2)) (h : w (40 + 11 * l + 6) ≤ 10000000) : 0 ≤ rs w l := by
  have z := dt_b (w := w) (l := l) (t := w (40 + 11 * l + 7)) (q := un w l) (by omega) (by omega) (by omega) (by unfold un; omega) (by unfold un; omega)
  rw [dt_all w l (by omega)] at z
  exact z.1
set_option maxHeartbeats 8000000 in
theorem IV_Re (I : IV K w) (hK : K + 1 ≤ 60000) {l q : Int} (y : yRe w l q = 0) : IV (K + 1) (dRe w l q) := by
  have g := I.1.hd; unfold HEAD at g
  have y0 : yUn w l q = 0 := by unfold yRe at y; split at y <;> assumption
  obtain ⟨h1, h2, h3⟩ := yUn_0 y0
  have x := I.1.lot h1; unfold LOT at x
  have ow := I.1.own (o := w (40 + 11 * l)) (by omega); unfold OWN at ow
  have z0 := I.1.sub y0
  have B := I.2.1 l h1
  have ub := h3
  unfold un at ub
  have y1 : dt w l (w (40 + 11 * l + 7)) q ≤ w (20 + 4 * w (40 + 11 * l)) := by
    unfold yRe at y; rw [if_pos y0] at y; split at y <;> omega
  have e : ∀ i, i ≠ 40 + 11 * l + 7 → i ≠ 40 + 11 * l + 8 → i ≠ 20 + 4 * w (40 + 11 * l) → dRe w l q i = w i := by
    intro i i0 i1 i2; unfold dRe; simp (disch := omega) only [up_n]
  have e7 : dRe w l q (40 + 11 * l + 7) = w (40 + 11 * l + 7) + q := by unfold dRe; simp (disch := omega) only [up_n, up_e]
  have e8 : dRe w l q (40 + 11 * l + 8) = w (40 + 11 * l + 8) + dt w l (w (40 + 11 * l + 7)) q := by unfold dRe; simp (disch := omega) only [up_n, up_e]
  have ec : dRe w l q (20 + 4 * w (40 + 11 * l)) = w (20 + 4 * w (40 + 11 * l)) - dt w l (w (40 + 11 * l + 7)) q := by unfold dRe; simp (disch := omega) only [up_n, up_e]
  generalize dRe w l q = u at *
  have W : wt u l 2 = wt w l 2 ∧ ∀ y, 0 ≤ y → y ≠ l → wt u y 2 = wt w y 2 := ⟨wt_c (e 3 (by omega) (by omega) (by omega)) (fun i hi => e i (by omega) (by omega) (by omega)) l (by omega), fun y hy _ => wt_c (e 3 (by omega) (by omega) (by omega)) (fun i hi => e i (by omega) (by omega) (by omega)) y (by omega)⟩
  have E : u (40 + 11 * l + 8) + u (40 + 11 * l + 9) + rs u l + wt u l 2 = w (40 + 11 * l + 6) := by
    rw [rs_take (e _ (by omega) (by omega) (by omega)) (e _ (by omega) (by omega) (by omega)) e7, W.1, e8, e (40 + 11 * l + 9) (by omega) (by omega) (by omega)]; omega
  have hO : ∀ o, 0 ≤ o ∧ o < 5 → 0 ≤ u (20 + 4 * o) ∧ u (20 + 4 * o) ≤ w (20 + 4 * o) := by
    intro o ho
    have q := I.1.own ho; unfold OWN at q
    by_cases z : o = w (40 + 11 * l)
    · rw [z, ec]; omega
    · rw [e _ (by omega) (by omega) (by omega)]; omega
  have hL : LOT u l := by
    have r2 := I.1.wtB l
    have r3 : 0 ≤ rs u l := rs_u (by simp (disch := omega) only [e, e7, e8, ec]; omega) (by simp (disch := omega) only [e, e7, e8, ec]; omega) (by simp (disch := omega) only [e, e7, e8, ec]; omega) (by simp (disch := omega) only [e, e7, e8, ec]; omega)
    have E2 := E
    have Wl := W.1
    unfold LOT
    simp (disch := omega) only [e, e7, e8, ec] at E2 ⊢
    omega
  have hX : ∀ k, 0 ≤ k ∧ k < u 3 → EXP u k := by
    intro k hk
    rw [e 3 (by omega) (by omega) (by omega)] at hk
    have q := I.1.xp hk; unfold EXP at q
    unfold EXP
    simp (disch := omega) only [e]
    exact q
  refine ⟨IA_l I.1 (by omega) h1 (fun i hi _ _ => e i (by omega) (by omega) (by omega)) ?_ ?_ (fun o ho => ⟨e _ (by omega) (by omega) (by omega), e _ (by omega) (by omega) (by omega), e _ (by omega) (by omega) (by omega)⟩) hO (fun i hi hn => e i (by omega) (by omega) (by omega)) hL hX,
    IB_l I.2 h1 (e 2 (by omega) (by omega) (by omega)) (e 4 (by omega) (by omega) (by omega)) (e 10 (by omega) (by omega) (by omega)) (fun o ho => e _ (by omega) (by omega) (by omega)) (fun i hi hn => e i (by omega) (by omega) (by omega)) (by omega) (fun y hy hn => W.2 y hy.1 hn) E ?_ (fun z => by first | (rw [e7]; omega) | (rw [e _ (by omega) (by omega) (by omega)]; exact z))⟩
  · rw [e 11 (by omega) (by omega) (by omega)]; omega
  · rw [e 3 (by omega) (by omega) (by omega)]; omega
  · rw [e8]; omega
set_option maxHeartbeats 8000000 in
theorem IV_De (I : IV K w) (hK : K + 1 ≤ 60000) {l q : Int} (y : yDe w l q = 0) : IV (K + 1) (dDe w l q) := by
  have g := I.1.hd; unfold HEAD at g
  have y0 : yUn w l q = 0 := by unfold yDe at y; split at y <;> assumption
  obtain ⟨h1, h2, h3⟩ := yUn_0 y0
  have x := I.1.lot h1; unfold LOT at x
  have ow := I.1.own (o := w (40 + 11 * l)) (by omega); unfold OWN at ow
  have z0 := I.1.sub y0
  have B := I.2.1 l h1
  have ub := h3
  unfold un at ub
  have y1 : q * w 9 ≤ w (20 + 4 * w (40 + 11 * l)) := by
    unfold yDe at y; rw [if_pos y0] at y; split at y <;> omega
  have p := mul_le (show 0 ≤ q ∧ q ≤ 1000000 by omega) (show 0 ≤ w 9 ∧ w 9 ≤ 1000 by omega)
  have e : ∀ i, i ≠ 40 + 11 * l + 7 → i ≠ 40 + 11 * l + 9 → i ≠ 20 + 4 * w (40 + 11 * l) → i ≠ 11 → dDe w l q i = w i := by
    intro i i0 i1 i2 i3; unfold dDe; simp (disch := omega) only [up_n]
  have e7 : dDe w l q (40 + 11 * l + 7) = w (40 + 11 * l + 7) + q := by unfold dDe; simp (disch := omega) only [up_n, up_e]
  have e9 : dDe w l q (40 + 11 * l + 9) = w (40 + 11 * l + 9) + dt w l (w (40 + 11 * l + 7)) q := by unfold dDe; simp (disch := omega) only [up_n, up_e]
  have ec : dDe w l q (20 + 4 * w (40 + 11 * l)) = w (20 + 4 * w (40 + 11 * l)) - q * w 9 := by unfold dDe; simp (disch := omega) only [up_n, up_e]
  have e11 : dDe w l q (11) = w 11 + q * w 9 := by unfold dDe; simp (disch := omega) only [up_n, up_e]
  generalize dDe w l q = u at *
  have W : wt u l 2 = wt w l 2 ∧ ∀ y, 0 ≤ y → y ≠ l → wt u y 2 = wt w y 2 := ⟨wt_c (e 3 (by omega) (by omega) (by omega) (by omega)) (fun i hi => e i (by omega) (by omega) (by omega) (by omega)) l (by omega), fun y hy _ => wt_c (e 3 (by omega) (by omega) (by omega) (by omega)) (fun i hi => e i (by omega) (by omega) (by omega) (by omega)) y (by omega)⟩
  have E : u (40 + 11 * l + 8) + u (40 + 11 * l + 9) + rs u l + wt u l 2 = w (40 + 11 * l + 6) := by
    rw [rs_take (e _ (by omega) (by omega) (by omega) (by omega)) (e _ (by omega) (by omega) (by omega) (by omega)) e7, W.1, e9, e (40 + 11 * l + 8) (by omega) (by omega) (by omega) (by omega)]; omega
  have hO : ∀ o, 0 ≤ o ∧ o < 5 → 0 ≤ u (20 + 4 * o) ∧ u (20 + 4 * o) ≤ w (20 + 4 * o) := by
    intro o ho
    have q := I.1.own ho; unfold OWN at q
    by_cases z : o = w (40 + 11 * l)
    · rw [z, ec]; omega
    · rw [e _ (by omega) (by omega) (by omega) (by omega)]; omega
  have hL : LOT u l := by
    have r2 := I.1.wtB l
    have r3 : 0 ≤ rs u l := rs_u (by simp (disch := omega) only [e, e7, e9, ec, e11]; omega) (by simp (disch := omega) only [e, e7, e9, ec, e11]; omega) (by simp (disch := omega) only [e, e7, e9, ec, e11]; omega) (by simp (disch := omega) only [e, e7, e9, ec, e11]; omega)
    have E2 := E
    have Wl := W.1
    unfold LOT
    simp (disch := omega) only [e, e7, e9, ec, e11] at E2 ⊢
    omega
  have hX : ∀ k, 0 ≤ k ∧ k < u 3 → EXP u k := by
    intro k hk
    rw [e 3 (by omega) (by omega) (by omega) (by omega)] at hk
    have q := I.1.xp hk; unfold EXP at q
    unfold EXP
    simp (disch := omega) only [e]
    exact q
  refine ⟨IA_l I.1 (by omega) h1 (fun i hi _ _ => e i (by omega) (by omega) (by omega) (by omega)) ?_ ?_ (fun o ho => ⟨e _ (by omega) (by omega) (by omega) (by omega), e _ (by omega) (by omega) (by omega) (by omega), e _ (by omega) (by omega) (by omega) (by omega)⟩) hO (fun i hi hn => e i (by omega) (by omega) (by omega) (by omega)) hL hX,
    IB_l I.2 h1 (e 2 (by omega) (by omega) (by omega) (by omega)) (e 4 (by omega) (by omega) (by omega) (by omega)) (e 10 (by omega) (by omega) (by omega) (by omega)) (fun o ho => e _ (by omega) (by omega) (by omega) (by omega)) (fun i hi hn => e i (by omega) (by omega) (by omega) (by omega)) (by omega) (fun y hy hn => W.2 y hy.1 hn) E ?_ (fun z => by first | (rw [e7]; omega) | (rw [e _ (by omega) (by omega) (by omega) (by omega)]; exact z))⟩
  · rw [e11]; omega
  · rw [e 3 (by omega) (by omega) (by omega) (by omega)]; omega
  · rw [e _ (by omega) (by omega) (by omega) (by omega)]; omega
set_option maxHeartbeats 8000000 in
theorem IV_Sa (I : IV K w) (hK : K + 1 ≤ 60000) {l q : Int} (y : ySa w l q = 0) : IV (K + 1) (dSa w l q) := by
  have g := I.1.hd; unfold HEAD at g
  have y0 : yUn w l q = 0 := by unfold ySa at y; split at y <;> assumption
  obtain ⟨h1, h2, h3⟩ := yUn_0 y0
  have x := I.1.lot h1; unfold LOT at x
  have ow := I.1.own (o := w (40 + 11 * l)) (by omega); unfold OWN at ow
  have z0 := I.1.sub y0
  have B := I.2.1 l h1
  have ub := h3
  unfold un at ub
  have y1 : sd w l q ≤ w (20 + 4 * w (40 + 11 * l)) := by
    unfold ySa at y; rw [if_pos y0] at y; unfold sd; split at y <;> omega
  have f := fr_b w l q (by omega)
  have z1 := dt_b (w := w) (l := l) (t := w (40 + 11 * l + 7) + fr w l q) (q := q - fr w l q) (by omega) (by omega) (by omega) (by omega) (by omega)
  have z2 := dt_b (w := w) (l := l) (t := w (40 + 11 * l + 7)) (q := fr w l q) (by omega) (by omega) (by omega) (by omega) (by omega)
  have z4 : 0 ≤ sd w l q := by unfold sd; omega
  have z3 : dt w l (w (40 + 11 * l + 7)) (fr w l q) + sd w l q = dt w l (w (40 + 11 * l + 7)) q := dt_split w l (w (40 + 11 * l + 7)) (fr w l q) q
  have e : ∀ i, i ≠ 40 + 11 * l + 7 → i ≠ 40 + 11 * l + 8 → i ≠ 40 + 11 * l + 9 → i ≠ 40 + 11 * l + 10 → i ≠ 20 + 4 * w (40 + 11 * l) → dSa w l q i = w i := by
    intro i i0 i1 i2 i3 i4; unfold dSa; simp (disch := omega) only [up_n]
  have e7 : dSa w l q (40 + 11 * l + 7) = w (40 + 11 * l + 7) + q := by unfold dSa; simp (disch := omega) only [up_n, up_e]
  have e8 : dSa w l q (40 + 11 * l + 8) = w (40 + 11 * l + 8) + sd w l q := by unfold dSa; simp (disch := omega) only [up_n, up_e]
  have e9 : dSa w l q (40 + 11 * l + 9) = w (40 + 11 * l + 9) + dt w l (w (40 + 11 * l + 7)) (fr w l q) := by unfold dSa; simp (disch := omega) only [up_n, up_e]
  have e10 : dSa w l q (40 + 11 * l + 10) = w (40 + 11 * l + 10) + q := by unfold dSa; simp (disch := omega) only [up_n, up_e]
  have ec : dSa w l q (20 + 4 * w (40 + 11 * l)) = w (20 + 4 * w (40 + 11 * l)) - sd w l q := by unfold dSa; simp (disch := omega) only [up_n, up_e]
  generalize dSa w l q = u at *
  have W : wt u l 2 = wt w l 2 ∧ ∀ y, 0 ≤ y → y ≠ l → wt u y 2 = wt w y 2 := ⟨wt_c (e 3 (by omega) (by omega) (by omega) (by omega) (by omega)) (fun i hi => e i (by omega) (by omega) (by omega) (by omega) (by omega)) l (by omega), fun y hy _ => wt_c (e 3 (by omega) (by omega) (by omega) (by omega) (by omega)) (fun i hi => e i (by omega) (by omega) (by omega) (by omega) (by omega)) y (by omega)⟩
  have E : u (40 + 11 * l + 8) + u (40 + 11 * l + 9) + rs u l + wt u l 2 = w (40 + 11 * l + 6) := by
    rw [rs_take (e _ (by omega) (by omega) (by omega) (by omega) (by omega)) (e _ (by omega) (by omega) (by omega) (by omega) (by omega)) e7, W.1, e8, e9]; omega
  have hO : ∀ o, 0 ≤ o ∧ o < 5 → 0 ≤ u (20 + 4 * o) ∧ u (20 + 4 * o) ≤ w (20 + 4 * o) := by
    intro o ho
    have q := I.1.own ho; unfold OWN at q
    by_cases z : o = w (40 + 11 * l)
    · rw [z, ec]; omega
    · rw [e _ (by omega) (by omega) (by omega) (by omega) (by omega)]; omega
  have hL : LOT u l := by
    have r2 := I.1.wtB l
    have r3 : 0 ≤ rs u l := rs_u (by simp (disch := omega) only [e, e7, e8, e9, e10, ec]; omega) (by simp (disch := omega) only [e, e7, e8, e9, e10, ec]; omega) (by simp (disch := omega) only [e, e7, e8, e9, e10, ec]; omega) (by simp (disch := omega) only [e, e7, e8, e9, e10, ec]; omega)
    have E2 := E
    have Wl := W.1
    unfold LOT
    simp (disch := omega) only [e, e7, e8, e9, e10, ec] at E2 ⊢
    omega
  have hX : ∀ k, 0 ≤ k ∧ k < u 3 → EXP u k := by
    intro k hk
    rw [e 3 (by omega) (by omega) (by omega) (by omega) (by omega)] at hk
    have q := I.1.xp hk; unfold EXP at q
    unfold EXP
    simp (disch := omega) only [e]
    exact q
  refine ⟨IA_l I.1 (by omega) h1 (fun i hi _ _ => e i (by omega) (by omega) (by omega) (by omega) (by omega)) ?_ ?_ (fun o ho => ⟨e _ (by omega) (by omega) (by omega) (by omega) (by omega), e _ (by omega) (by omega) (by omega) (by omega) (by omega), e _ (by omega) (by omega) (by omega) (by omega) (by omega)⟩) hO (fun i hi hn => e i (by omega) (by omega) (by omega) (by omega) (by omega)) hL hX,
    IB_l I.2 h1 (e 2 (by omega) (by omega) (by omega) (by omega) (by omega)) (e 4 (by omega) (by omega) (by omega) (by omega) (by omega)) (e 10 (by omega) (by omega) (by omega) (by omega) (by omega)) (fun o ho => e _ (by omega) (by omega) (by omega) (by omega) (by omega)) (fun i hi hn => e i (by omega) (by omega) (by omega) (by omega) (by omega)) (by omega) (fun y hy hn => W.2 y hy.1 hn) E ?_ (fun z => by first | (rw [e7]; omega) | (rw [e _ (by omega) (by omega) (by omega) (by omega) (by omega)]; exact z))⟩
  · rw [e 11 (by omega) (by omega) (by omega) (by omega) (by omega)]; omega
  · rw [e 3 (by omega) (by omega) (by omega) (by omega) (by omega)]; omega
  · rw [e8]; omega
set_option maxHeartbeats 8000000 in
theorem IV_Xp (I : IV K w) (hK : K + 1 ≤ 60000) {l q : Int} (y : yXp w l q = 0) : IV (K + 1) (dXp w l q) := by
  have g := I.1.hd; unfold HEAD at g
  have y0 : yUn w l q = 0 := by unfold yXp at y; split at y <;> assumption
  obtain ⟨h1, h2, h3⟩ := yUn_0 y0
  have x := I.1.lot h1; unfold LOT at x
  have ow := I.1.own (o := w (40 + 11 * l)) (by omega); unfold OWN at ow
  have z0 := I.1.sub y0
  have B := I.2.1 l h1
  have ub := h3
  unfold un at ub
  have y1 : w 3 ≠ 30 := by
    intro e; unfold yXp at y; rw [if_pos y0, if_pos e] at y; omega
  have e : ∀ i, i ≠ 40 + 11 * l + 7 → i ≠ 370 + 5 * w 3 → i ≠ 370 + 5 * w 3 + 1 → i ≠ 370 + 5 * w 3 + 2 → i ≠ 370 + 5 * w 3 + 3 → i ≠ 370 + 5 * w 3 + 4 → i ≠ 3 → dXp w l q i = w i := by
    intro i i0 i1 i2 i3 i4 i5 i6; unfold dXp; simp (disch := omega) only [up_n]
  have e7 : dXp w l q (40 + 11 * l + 7) = w (40 + 11 * l + 7) + q := by unfold dXp; simp (disch := omega) only [up_n, up_e]
  have f0 : dXp w l q (370 + 5 * w 3) = l := by unfold dXp; simp (disch := omega) only [up_n, up_e]
  have f1 : dXp w l q (370 + 5 * w 3 + 1) = q := by unfold dXp; simp (disch := omega) only [up_n, up_e]
  have f2 : dXp w l q (370 + 5 * w 3 + 2) = dt w l (w (40 + 11 * l + 7)) q := by unfold dXp; simp (disch := omega) only [up_n, up_e]
  have f3 : dXp w l q (370 + 5 * w 3 + 3) = w 0 + w 6 := by unfold dXp; simp (disch := omega) only [up_n, up_e]
  have f4 : dXp w l q (370 + 5 * w 3 + 4) = 0 := by unfold dXp; simp (disch := omega) only [up_n, up_e]
  have e3 : dXp w l q (3) = w 3 + 1 := by unfold dXp; simp (disch := omega) only [up_n, up_e]
  generalize dXp w l q = u at *
  have W : wt u l 2 = wt w l 2 + dt w l (w (40 + 11 * l + 7)) q ∧ ∀ y, 0 ≤ y → y ≠ l → wt u y 2 = wt w y 2 := by
    have N3 : (u 3).toNat = (w 3).toNat + 1 := by rw [e3]; omega
    have s : ∀ y, wt u y 2 = wt w y 2 + (if y = l then dt w l (w (40 + 11 * l + 7)) q else 0) := by
      intro y
      unfold wt
      rw [N3]
      show sm (wtf u y 2) (w 3).toNat + wtf u y 2 ((w 3).toNat : Int) = _
      rw [show sm (wtf u y 2) (w 3).toNat = sm (wtf w y 2) (w 3).toNat from sm_c (fun k hk => by unfold wtf; simp (disch := omega) only [e])]
      rw [show ((w 3).toNat : Int) = w 3 from by omega]
      unfold wtf
      rw [f0, f2, f4]
      by_cases z : y = l
      · rw [if_pos ⟨rfl, z.symm⟩, if_pos z]
      · rw [if_neg (fun q => z q.2.symm), if_neg z]
    refine ⟨?_, fun y _ hn => ?_⟩
    · rw [s l, if_pos rfl]
    · rw [s y, if_neg hn]; omega
  have E : u (40 + 11 * l + 8) + u (40 + 11 * l + 9) + rs u l + wt u l 2 = w (40 + 11 * l + 6) := by
    rw [rs_take (e _ (by omega) (by omega) (by omega) (by omega) (by omega) (by omega) (by omega)) (e _ (by omega) (by omega) (by omega) (by omega) (by omega) (by omega) (by omega)) e7, W.1, e (40 + 11 * l + 8) (by omega) (by omega) (by omega) (by omega) (by omega) (by omega) (by omega), e (40 + 11 * l + 9) (by omega) (by omega) (by omega) (by omega) (by omega) (by omega) (by omega)]; omega
  have hO : ∀ o, 0 ≤ o ∧ o < 5 → 0 ≤ u (20 + 4 * o) ∧ u (20 + 4 * o) ≤ w (20 + 4 * o) := by
    intro o ho
    have q := I.1.own ho; unfold OWN at q
    rw [e _ (by omega) (by omega) (by omega) (by omega) (by omega) (by omega) (by omega)]; omega
  have hL : LOT u l := by
    have r2 := I.1.wtB l
    have r3 : 0 ≤ rs u l := rs_u (by simp (disch := omega) only [e, e7, f0, f1, f2, f3, f4, e3]; omega) (by simp (disch := omega) only [e, e7, f0, f1, f2, f3, f4, e3]; omega) (by simp (disch := omega) only [e, e7, f0, f1, f2, f3, f4, e3]; omega) (by simp (disch := omega) only [e, e7, f0, f1, f2, f3, f4, e3]; omega)
    have E2 := E
    have Wl := W.1
    unfold LOT
    simp (disch := omega) only [e, e7, f0, f1, f2, f3, f4, e3] at E2 ⊢
    omega
  have hX : ∀ k, 0 ≤ k ∧ k < u 3 → EXP u k := by
    intro k hk
    rw [e3] at hk
    by_cases z : k = w 3
    · subst z
      unfold EXP
      rw [f0, f1, f2, f3, f4, e 0 (by omega) (by omega) (by omega) (by omega) (by omega) (by omega) (by omega), e 2 (by omega) (by omega) (by omega) (by omega) (by omega) (by omega) (by omega)]
      omega
    · have q := I.1.xp (e := k) (by omega); unfold EXP at q
      unfold EXP
      simp (disch := omega) only [e]
      exact q
  refine ⟨IA_l I.1 (by omega) h1 (fun i hi _ _ => e i (by omega) (by omega) (by omega) (by omega) (by omega) (by omega) (by omega)) ?_ ?_ (fun o ho => ⟨e _ (by omega) (by omega) (by omega) (by omega) (by omega) (by omega) (by omega), e _ (by omega) (by omega) (by omega) (by omega) (by omega) (by omega) (by omega), e _ (by omega) (by omega) (by omega) (by omega) (by omega) (by omega) (by omega)⟩) hO (fun i hi hn => e i (by omega) (by omega) (by omega) (by omega) (by omega) (by omega) (by omega)) hL hX,
    IB_l I.2 h1 (e 2 (by omega) (by omega) (by omega) (by omega) (by omega) (by omega) (by omega)) (e 4 (by omega) (by omega) (by omega) (by omega) (by omega) (by omega) (by omega)) (e 10 (by omega) (by omega) (by omega) (by omega) (by omega) (by omega) (by omega)) (fun o ho => e _ (by omega) (by omega) (by omega) (by omega) (by omega) (by omega) (by omega)) (fun i hi hn => e i (by omega) (by omega) (by omega) (by omega) (by omega) (by omega) (by omega)) (by omega) (fun y hy hn => W.2 y hy.1 hn) E ?_ (fun z => by first | (rw [e7]; omega) | (rw [e _ (by omega) (by omega) (by omega) (by omega) (by omega) (by omega) (by omega)]; exact z))⟩
  · rw [e 11 (by omega) (by omega) (by omega) (by omega) (by omega) (by omega) (by omega)]; omega
  · rw [e3]; omega
  · rw [e _ (by omega) (by omega) (by omega) (by omega) (by omega) (by omega) (by omega)]; omega
set_option maxHeartbeats 8000000 in
theorem IV_Pr (I : IV K w) (hK : K + 1 ≤ 60000) {e0 : Int} (y : yPr w e0 = 0) : IV (K + 1) (dPr w e0) := by
  have g := I.1.hd; unfold HEAD at g
  have y1 : (0 ≤ e0 ∧ e0 < w 3) ∧ w (370 + 5 * e0 + 4) = 0 := by
    unfold yPr at y
    by_cases z1 : 0 ≤ e0 ∧ e0 < w 3
    · by_cases z2 : w (370 + 5 * e0 + 4) = 0
      · exact ⟨z1, z2⟩
      · rw [if_pos z1, if_neg z2] at y; omega
    · rw [if_neg z1] at y; omega
  obtain ⟨y1, y2⟩ := y1
  have xx := I.1.xp y1; unfold EXP at xx
  have hl : w (370 + 5 * e0) = w (370 + 5 * e0) := rfl
  generalize hll : w (370 + 5 * e0) = l at *
  have h1 : 0 ≤ l ∧ l < w 2 := by omega
  have x := I.1.lot h1; unfold LOT at x
  have B := I.2.1 l h1
  have e : ∀ i, i ≠ 370 + 5 * e0 + 4 → i ≠ 40 + 11 * l + 9 → dPr w e0 i = w i := by
    intro i i1 i2; unfold dPr; rw [hll]; simp (disch := omega) only [up_n]
  have f4 : dPr w e0 (370 + 5 * e0 + 4) = 1 := by unfold dPr; rw [hll]; simp (disch := omega) only [up_n, up_e]
  have e9 : dPr w e0 (40 + 11 * l + 9) = w (40 + 11 * l + 9) + w (370 + 5 * e0 + 2) := by unfold dPr; rw [hll]; simp (disch := omega) only [up_n, up_e]
  generalize dPr w e0 = u at *
  have W : wt u l 2 = wt w l 2 - w (370 + 5 * e0 + 2) ∧ ∀ y, 0 ≤ y → y ≠ l → wt u y 2 = wt w y 2 := by
    have s : ∀ y, wt u y 2 = wt w y 2 - (if y = l then w (370 + 5 * e0 + 2) else 0) := by
      intro y
      unfold wt
      rw [e 3 (by omega) (by omega), sm_1 (f := wtf u y 2) (g := wtf w y 2) (j := e0) (by omega) (fun k hk hn => by unfold wtf; simp (disch := omega) only [e])]
      have a1 : wtf u y 2 e0 = 0 := by unfold wtf; rw [f4, if_neg (by omega)]
      have a2 : wtf w y 2 e0 = if y = l then w (370 + 5 * e0 + 2) else 0 := by
        unfold wtf
        rw [hll, y2]
        by_cases z : y = l
        · rw [if_pos ⟨rfl, z.symm⟩, if_pos z]
        · rw [if_neg (fun q => z q.2.symm), if_neg z]
      rw [a1, a2]; omega
    refine ⟨?_, fun y _ hn => ?_⟩
    · rw [s l, if_pos rfl]
    · rw [s y, if_neg hn]; omega
  have E : u (40 + 11 * l + 8) + u (40 + 11 * l + 9) + rs u l + wt u l 2 = w (40 + 11 * l + 6) := by
    rw [rs_c (u := u) (w := w) (e _ (by omega) (by omega)) (e _ (by omega) (by omega)) (e _ (by omega) (by omega)), W.1, e9, e (40 + 11 * l + 8) (by omega) (by omega)]; omega
  have hO : ∀ o, 0 ≤ o ∧ o < 5 → 0 ≤ u (20 + 4 * o) ∧ u (20 + 4 * o) ≤ w (20 + 4 * o) := by
    intro o ho
    have q := I.1.own ho; unfold OWN at q
    rw [e _ (by omega) (by omega)]; omega
  have hL : LOT u l := by
    have r2 := I.1.wtB l
    have r3 : 0 ≤ rs u l := rs_u (by simp (disch := omega) only [e, e9, f4]; omega) (by simp (disch := omega) only [e, e9, f4]; omega) (by simp (disch := omega) only [e, e9, f4]; omega) (by simp (disch := omega) only [e, e9, f4]; omega)
    have wu : 0 ≤ wt u l 2 := by
      unfold wt
      refine sm_nn (fun k hk => ?_)
      rw [e 3 (by omega) (by omega)] at hk
      have xk := I.1.xp (e := k) (by omega); unfold EXP at xk
      unfold wtf
      rw [e (370 + 5 * k + 2) (by omega) (by omega)]
      split <;> omega
    have E2 := E
    have Wl := W.1
    unfold LOT
    simp (disch := omega) only [e, e9, f4] at E2 ⊢
    omega
  have hX : ∀ k, 0 ≤ k ∧ k < u 3 → EXP u k := by
    intro k hk
    rw [e 3 (by omega) (by omega)] at hk
    have q := I.1.xp hk; unfold EXP at q
    unfold EXP
    by_cases z : k = e0
    · subst z
      rw [f4]
      simp (disch := omega) only [e]
      omega
    · simp (disch := omega) only [e]
      exact q
  refine ⟨IA_l I.1 (by omega) h1 (fun i hi _ _ => e i (by omega) (by omega)) ?_ ?_ (fun o ho => ⟨e _ (by omega) (by omega), e _ (by omega) (by omega), e _ (by omega) (by omega)⟩) hO (fun i hi hn => e i (by omega) (by omega)) hL hX,
    IB_l I.2 h1 (e 2 (by omega) (by omega)) (e 4 (by omega) (by omega)) (e 10 (by omega) (by omega)) (fun o ho => e _ (by omega) (by omega)) (fun i hi hn => e i (by omega) (by omega)) (by omega) (fun y hy hn => W.2 y hy.1 hn) E ?_ (fun z => by first | (rw [e7]; omega) | (rw [e _ (by omega) (by omega)]; exact z))⟩
  · rw [e 11 (by omega) (by omega)]; omega
  · rw [e 3 (by omega) (by omega)]; omega
  · rw [e _ (by omega) (by omega)]; omega
theorem yGi_0 {w : Int → Int} {l o : Int} (h : yGi w l o = 0) : (0 ≤ l ∧ l < w 2) ∧ (0 ≤ o ∧ o < w 1) := by
  unfold yGi at h
  repeat' split at h
  all_goals first | (exfalso; omega) | exact ⟨‹_›, ‹_›⟩
theorem IV_Gi (I : IV K w) (hK : K + 1 ≤ 60000) {l o : Int} (y : yGi w l o = 0) : IV (K + 1) (dGi w l o) := by
  have g := I.1.hd; unfold HEAD at g
  obtain ⟨h1, h2⟩ := yGi_0 y
  have e : ∀ i, i ≠ 40 + 11 * l → dGi w l o i = w i := by
    intro i i1; unfold dGi; exact up_n i1
  have e0 : dGi w l o (40 + 11 * l) = o := by unfold dGi; exact up_e _ _ _
  generalize dGi w l o = u at *
  refine ⟨⟨?_, fun k hk => ?_, fun o ho => ?_, fun x hx => ?_, fun k hk => ?_, fun o ho => ?_, fun x hx => ?_⟩, IB_c I.2 (e _ (by omega)) (e _ (by omega)) (e _ (by omega)) (e _ (by omega)) (fun o ho => e _ (by omega)) (fun i hi hn => e i (by omega))⟩
  · unfold HEAD; simp (disch := omega) only [e]; omega
  · rw [e _ (by omega)]; exact I.1.rt hk
  · have q := I.1.own ho; unfold OWN at q
    unfold OWN; simp (disch := omega) only [e]; omega
  · rw [e 2 (by omega)] at hx
    have q := I.1.lot hx; unfold LOT at q
    unfold LOT
    by_cases z : x = l
    · subst z; rw [e0]; simp (disch := omega) only [e]; omega
    · simp (disch := omega) only [e]; exact q
  · rw [e 3 (by omega)] at hk
    have q := I.1.xp hk; unfold EXP at q
    unfold EXP; simp (disch := omega) only [e]; exact q
  · rw [e 1 (by omega)] at ho
    have q := I.1.2.2.2.2.2.1 o ho
    simp (disch := omega) only [e]; exact q
  · rw [e 2 (by omega)] at hx
    have q := I.1.2.2.2.2.2.2 x hx
    simp (disch := omega) only [e]; exact q
set_option maxHeartbeats 8000000 in
theorem IV_En (I : IV K w) (hK : K + 1 ≤ 60000) {o kd q x : Int} (y : yEn w o kd q x = 0) : IV (K + 1) (dEn w o kd q x) := by
  have g := I.1.hd; unfold HEAD at g
  obtain ⟨y1, y2, y3, y4, y5, y6, y7⟩ := yEn_0 y
  have rr := I.1.rt (k := kd) (by omega)
  have p := mul_le y4 rr
  have pD : 0 ≤ x * w (14 + kd) / 1000 ∧ x * w (14 + kd) / 1000 ≤ 10000000 := by omega
  have e : ∀ i, i ≠ 2 → (i < 40 + 11 * w 2 ∨ 50 + 11 * w 2 < i) → dEn w o kd q x i = w i := by
    intro i i1 i2; unfold dEn; simp (disch := omega) only [up_n]
  have v2 : dEn w o kd q x 2 = w 2 + 1 := by unfold dEn; simp (disch := omega) only [up_n, up_e]
  have f0 : dEn w o kd q x (40 + 11 * w 2) = o := by unfold dEn; simp (disch := omega) only [up_n, up_e]
  have f1 : dEn w o kd q x (40 + 11 * w 2 + 1) = kd := by unfold dEn; simp (disch := omega) only [up_n, up_e]
  have f2 : dEn w o kd q x (40 + 11 * w 2 + 2) = q := by unfold dEn; simp (disch := omega) only [up_n, up_e]
  have f3 : dEn w o kd q x (40 + 11 * w 2 + 3) = x := by unfold dEn; simp (disch := omega) only [up_n, up_e]
  have f4 : dEn w o kd q x (40 + 11 * w 2 + 4) = w 0 := by unfold dEn; simp (disch := omega) only [up_n, up_e]
  have f5 : dEn w o kd q x (40 + 11 * w 2 + 5) = w 0 + w 5 := by unfold dEn; simp (disch := omega) only [up_n, up_e]
  have f6 : dEn w o kd q x (40 + 11 * w 2 + 6) = x * w (14 + kd) / 1000 := by unfold dEn; simp (disch := omega) only [up_n, up_e]
  have f7 : dEn w o kd q x (40 + 11 * w 2 + 7) = 0 := by unfold dEn; simp (disch := omega) only [up_n, up_e]
  have f8 : dEn w o kd q x (40 + 11 * w 2 + 8) = 0 := by unfold dEn; simp (disch := omega) only [up_n, up_e]
  have f9 : dEn w o kd q x (40 + 11 * w 2 + 9) = 0 := by unfold dEn; simp (disch := omega) only [up_n, up_e]
  have f10 : dEn w o kd q x (40 + 11 * w 2 + 10) = 0 := by unfold dEn; simp (disch := omega) only [up_n, up_e]
  generalize dEn w o kd q x = u at *
  generalize hD : x * w (14 + kd) / 1000 = D at *
  have N2 : (u 2).toNat = (w 2).toNat + 1 := by rw [v2]; omega
  have C2 : ((w 2).toNat : Int) = w 2 := by omega
  have ew : ∀ y, 0 ≤ y → wt u y 2 = wt w y 2 := fun y hy => wt_c (e 3 (by omega) (by omega)) (fun i hi => e i (by omega) (by omega)) y (by omega)
  have w0 : wt w (w 2) 2 = 0 := sm_0 (fun k hk => by
    have z := I.1.xp (e := k) (by omega); unfold EXP at z
    unfold wtf; rw [if_neg (fun z2 => by omega)])
  have r0 : rs u (w 2) = D := by
    unfold rs; rw [f6, f7, f2, Int.mul_zero, Int.zero_ediv]; omega
  refine ⟨⟨?_, fun k hk => ?_, fun o ho => ?_, fun l hl => ?_, fun k hk => ?_, fun o ho => ?_, fun l hl => ?_⟩, fun l hl => ?_, ?_, ?_, ?_⟩
  · unfold HEAD; simp (disch := omega) only [e, v2]; omega
  · rw [e _ (by omega) (by omega)]; exact I.1.rt hk
  · have q := I.1.own ho; unfold OWN at q
    unfold OWN; simp (disch := omega) only [e]; omega
  · rw [v2] at hl
    unfold LOT
    by_cases z : l = w 2
    · subst z; rw [f0, f1, f2, f3, f4, f5, f6, f7, f8, f9, f10, e 0 (by omega) (by omega), e 1 (by omega) (by omega)]; omega
    · have q := I.1.lot (l := l) (by omega); unfold LOT at q
      simp (disch := omega) only [e]; exact q
  · rw [e 3 (by omega) (by omega)] at hk
    have q := I.1.xp hk; unfold EXP at q
    unfold EXP; simp (disch := omega) only [e, v2]; omega
  · rw [e 1 (by omega) (by omega)] at ho
    have q := I.1.2.2.2.2.2.1 o ho
    simp (disch := omega) only [e]; exact q
  · rw [v2] at hl
    have q := I.1.2.2.2.2.2.2 l (by omega)
    simp (disch := omega) only [e]; exact q
  · rw [v2] at hl
    by_cases z : l = w 2
    · subst z; rw [f8, f9, f6, r0, ew _ (by omega), w0]; omega
    · have b := I.2.1 l (by omega)
      rw [rs_c (u := u) (w := w) (e _ (by omega) (by omega)) (e _ (by omega) (by omega)) (e _ (by omega) (by omega)), ew l (by omega)]
      simp (disch := omega) only [e]; exact b
  · rw [e 10 (by omega) (by omega), I.2.2.1]
    exact (sm_c (fun o ho => e _ (by omega) (by omega))).symm
  · rw [e 10 (by omega) (by omega), N2]
    show w 10 ≤ sm (fun l => u (40 + 11 * l + 8)) (w 2).toNat + u (40 + 11 * ((w 2).toNat : Int) + 8)
    rw [show sm (fun l => u (40 + 11 * l + 8)) (w 2).toNat = sm (fun l => w (40 + 11 * l + 8)) (w 2).toNat from sm_c (fun l hl => e _ (by omega) (by omega)), C2, f8]
    have b := I.2.2.2.1
    omega
  · rw [e 4 (by omega) (by omega), N2]
    show w 4 ≤ sm (fun l => if u (40 + 11 * l + 7) = u (40 + 11 * l + 2) then 1 else 0) (w 2).toNat + (if u (40 + 11 * ((w 2).toNat : Int) + 7) = u (40 + 11 * ((w 2).toNat : Int) + 2) then 1 else 0)
    rw [show sm (fun l => if u (40 + 11 * l + 7) = u (40 + 11 * l + 2) then 1 else 0) (w 2).toNat = sm (fun l => if w (40 + 11 * l + 7) = w (40 + 11 * l + 2) then 1 else 0) (w 2).toNat from sm_c (fun l hl => by rw [e _ (by omega) (by omega), e _ (by omega) (by omega)])]
    have b := I.2.2.2.2
    split <;> omega
end IVACTS
