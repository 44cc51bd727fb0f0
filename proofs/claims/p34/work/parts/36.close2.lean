section CLOSE2
variable {K : Int} {w : Int → Int}
/-- a lot is looked at -/
theorem CF_l (I : IA K w) {D l : Int} {h p : Int → Int} (hl : 0 ≤ l ∧ l < w 2) (hh : p l ≤ D) :
    if 0 < w (40 + 11 * l + 2) - LL w p l ∧ w (40 + 11 * l + 5) < D then
      cl (up (up (CF w D h p) (40 + 11 * l + 7) (w (40 + 11 * l + 2))) 4 (w 4 + NN w p + 1)) l (rs w l) = CF w D h (up p l D) ∧ SS w h (up p l D) = SS w h p + rs w l ∧ LL w p l = w (40 + 11 * l + 7)
    else CF w D h (up p l D) = CF w D h p ∧ SS w h (up p l D) = SS w h p := by
  have g := I.hd; unfold HEAD at g
  have lo := I.lot hl; unfold LOT at lo
  have ow := I.own (o := w (40 + 11 * l)) (by omega); unfold OWN at ow
  have n : ∀ k, k ≠ l → eL w (up p l D) k = eL w p k := fun k hk => eL_c (up_n hk)
  have tn : ∀ k, k ≠ l → tL w (up p l D) k = tL w p k := fun k hk => by unfold tL; rw [n k hk]
  have rb := rs_b I hl
  by_cases z : 0 < w (40 + 11 * l + 2) - LL w p l ∧ w (40 + 11 * l + 5) < D
  · rw [if_pos z]
    have e1 : eL w p l = 0 := by
      have b := eL_b (w := w) p l
      by_cases q : eL w p l = 1
      · have z1 := z.1; unfold LL at z1; rw [if_pos q] at z1; omega
      · omega
    have e2 : LL w p l = w (40 + 11 * l + 7) := by unfold LL; rw [e1, if_neg (by omega)]
    have e3 : eL w (up p l D) l = 1 := if_pos ⟨hl, by unfold un; rw [← e2]; exact z.1, by rw [up_e]; exact z.2⟩
    have t1 : tL w p l = 0 := by unfold tL; rw [e1]; rfl
    have t3 : tL w (up p l D) l = rs w l := by unfold tL; rw [e3]; rfl
    have s1 : sm (tL w (up p l D)) (w 2).toNat = sm (tL w p) (w 2).toNat + rs w l := by
      rw [sm_1 (f := tL w (up p l D)) (g := tL w p) (j := l) (by omega) (fun k _ hk => tn k hk), t1, t3]; omega
    have s2 : SS w h (up p l D) = SS w h p + rs w l := by unfold SS; rw [s1]; omega
    have grp : ∀ (o : Int), sm (fun k => if w (40 + 11 * k) = o then tL w (up p l D) k else 0) (w 2).toNat = sm (fun k => if w (40 + 11 * k) = o then tL w p k else 0) (w 2).toNat + (if w (40 + 11 * l) = o then rs w l else 0) := by
      intro o
      rw [sm_1 (f := fun k => if w (40 + 11 * k) = o then tL w (up p l D) k else 0) (g := fun k => if w (40 + 11 * k) = o then tL w p k else 0) (j := l) (by omega) (fun k _ hk => by rw [tn k hk])]
      rw [t1, t3]
      split <;> omega
    have s3 : TT w h (up p l D) = up (TT w h p) (w (40 + 11 * l)) (TT w h p (w (40 + 11 * l)) + rs w l) := by
      funext o
      have q := grp o
      by_cases c : o = w (40 + 11 * l)
      · rw [if_pos c.symm] at q
        rw [← c, up_e]; unfold TT; omega
      · rw [if_neg (fun m => c m.symm)] at q
        rw [up_n c]; unfold TT; omega
    have s4 : PP w h (up p l D) = up (PP w h p) l (PP w h p l + rs w l) := by
      funext o
      by_cases c : o = l
      · rw [c, up_e]; unfold PP; rw [t1, t3]; omega
      · rw [up_n c]; unfold PP; rw [tn o c]
    have s5 : LL w (up p l D) = up (LL w p) l (w (40 + 11 * l + 2)) := by
      funext k
      by_cases c : k = l
      · rw [c, up_e]; unfold LL; rw [if_pos e3]
      · rw [up_n c]; unfold LL; rw [n k c]
    have s6 : NN w (up p l D) = NN w p + 1 := by
      unfold NN
      rw [sm_1 (f := eL w (up p l D)) (g := eL w p) (j := l) (by omega) (fun k _ hk => n k hk), e1, e3]; omega
    refine ⟨?_, s2, e2⟩
    unfold CF
    rw [RW_L _ _ _ _ _ _ _ _ (by omega), RW_cl w D _ _ _ _ _ _ (by omega) (by omega) (by omega) (TT_b I h p _).1 rb, s2, s3, s4, s5, s6]
  · rw [if_neg z]
    have n2 : ∀ k, eL w (up p l D) k = eL w p k := by
      intro k
      by_cases c : k = l
      · subst c
        unfold eL
        rw [up_e]
        by_cases q4 : 0 < un w k
        · by_cases q : w (40 + 11 * k + 5) < p k
          · rw [if_pos ⟨hl, q4, by omega⟩, if_pos ⟨hl, q4, q⟩]
          · have e1 : eL w p k = 0 := if_neg (fun m => q m.2.2)
            rw [if_neg (fun m => z ⟨by unfold LL; rw [e1, if_neg (by omega)]; exact q4, m.2.2⟩), if_neg (fun m => q m.2.2)]
        · rw [if_neg (fun m => q4 m.2.1), if_neg (fun m => q4 m.2.1)]
      · exact n k c
    have a : eL w (up p l D) = eL w p := funext n2
    have a2 : tL w (up p l D) = tL w p := by funext e; unfold tL; rw [a]
    have a5 : LL w (up p l D) = LL w p := by funext e; unfold LL; rw [a]
    have a4 : SS w h (up p l D) = SS w h p := by unfold SS; rw [a2]
    have a6 : NN w (up p l D) = NN w p := by unfold NN; rw [a]
    refine ⟨?_, a4⟩
    unfold CF
    rw [a4, a5, a6, show TT w h (up p l D) = TT w h p from by funext o; unfold TT; rw [a2], show PP w h (up p l D) = PP w h p from by funext o; unfold PP; rw [a2]]
set_option maxHeartbeats 4000000 in
theorem IV_CF (I : IV K w) (hK : K + 1 ≤ 60000) {D : Int} (hD : w 0 ≤ D ∧ D ≤ w 0 + 100) (h p : Int → Int) : IV (K + 1) (CF w D h p) := by
  have g := I.1.hd; unfold HEAD at g
  have T0 := TT_b I.1 h p
  have P0 := PP_b I.1 h p
  have S0 := SS_b I.1 h p
  have N0 := NN_b I.1 p
  have c0 : CF w D h p 0 = D := RW_h0 _ _ _ _ _ _ _ _
  have c4 : CF w D h p 4 = w 4 + NN w p := RW_h4 _ _ _ _ _ _ _ _
  have c10 : CF w D h p 10 = w 10 + SS w h p := RW_h10 _ _ _ _ _ _ _ _
  have ch : ∀ i, i < 20 ∧ i ≠ 0 ∧ i ≠ 4 ∧ i ≠ 10 → CF w D h p i = w i := fun i hi => RW_h _ _ _ _ _ _ _ _ hi
  have cO := fun (o : Int) (ho : 0 ≤ o ∧ o < 5) => RW_o w D (TT w h p) (PP w h p) (XX w h) (LL w p) (SS w h p) (NN w p) ho
  have c7 : ∀ l, 0 ≤ l ∧ l < 30 → CF w D h p (40 + 11 * l + 7) = LL w p l := fun l hl => RW_7 _ _ _ _ _ _ _ _ hl
  have c8 : ∀ l, 0 ≤ l ∧ l < 30 → CF w D h p (40 + 11 * l + 8) = w (40 + 11 * l + 8) + PP w h p l := fun l hl => RW_8 _ _ _ _ _ _ _ _ hl
  have cl0 : ∀ l, 0 ≤ l ∧ l < 30 → CF w D h p (40 + 11 * l) = w (40 + 11 * l) := fun l hl => RW_l0 _ _ _ _ _ _ _ _ hl
  have cl : ∀ l j, 0 ≤ l ∧ l < 30 → 0 ≤ j ∧ j < 11 ∧ j ≠ 7 ∧ j ≠ 8 → CF w D h p (40 + 11 * l + j) = w (40 + 11 * l + j) := fun l j hl hj => RW_l _ _ _ _ _ _ _ _ hl hj
  have x4 : ∀ e, 0 ≤ e ∧ e < 30 → CF w D h p (370 + 5 * e + 4) = XX w h e := fun l hl => RW_4 _ _ _ _ _ _ _ _ hl
  have xl : ∀ l j, 0 ≤ l ∧ l < 30 → 0 ≤ j ∧ j < 4 → CF w D h p (370 + 5 * l + j) = w (370 + 5 * l + j) := fun l j hl hj => RW_x _ _ _ _ _ _ _ _ hl hj
  have x0 : ∀ l, 0 ≤ l ∧ l < 30 → CF w D h p (370 + 5 * l) = w (370 + 5 * l) := fun l hl => RW_x0 _ _ _ _ _ _ _ _ hl
  change ∀ (o : Int), 0 ≤ o ∧ o < 5 → CF w D h p (20 + 4 * o) = w (20 + 4 * o) ∧ CF w D h p (20 + 4 * o + 1) = w (20 + 4 * o + 1) - min (w (20 + 4 * o + 1)) (TT w h p o) ∧
    CF w D h p (20 + 4 * o + 2) = w (20 + 4 * o + 2) + (TT w h p o - min (w (20 + 4 * o + 1)) (TT w h p o)) ∧ CF w D h p (20 + 4 * o + 3) = w (20 + 4 * o + 3) + TT w h p o at cO
  generalize CF w D h p = u at *
  have N2 : (u 2).toNat = (w 2).toNat := by rw [ch 2 (by omega)]
  have N3 : (u 3).toNat = (w 3).toNat := by rw [ch 3 (by omega)]
  have Xb : ∀ e, 0 ≤ e ∧ e < w 3 → 0 ≤ XX w h e ∧ XX w h e ≤ 2 := fun e he => by
    have x := I.1.xp he; unfold EXP at x
    unfold XX; split <;> omega
  have Lb : ∀ l, 0 ≤ l ∧ l < w 2 → w (40 + 11 * l + 7) ≤ LL w p l ∧ LL w p l ≤ w (40 + 11 * l + 2) := fun l hl => by
    have x := I.1.lot hl; unfold LOT at x
    unfold LL; split <;> omega
  have R : ∀ l, 0 ≤ l ∧ l < w 2 → rs u l = rs w l - tL w p l := by
    intro l hl
    have x := I.1.lot hl; unfold LOT at x
    unfold tL rs
    rw [c7 l (by omega), cl l 2 (by omega) (by omega), cl l 6 (by omega) (by omega)]
    unfold LL
    by_cases z : eL w p l = 1
    · rw [if_pos z, if_pos z, Int.mul_ediv_cancel _ (by omega)]; omega
    · rw [if_neg z, if_neg z]; omega
  have W : ∀ l, 0 ≤ l → wt w l 2 = wt u l 2 + sm (fun e => if w (370 + 5 * e) = l then tX w h e else 0) (w 3).toNat := by
    intro l hl
    unfold wt
    rw [N3, ← sm_add]
    refine sm_c (fun e he => ?_)
    unfold wtf tX
    rw [x4 e (by omega), x0 e (by omega), xl e 2 (by omega) (by omega)]
    unfold XX
    by_cases z : eX w h e = 1
    · rw [if_pos z, if_pos z]
      have z2 : w (370 + 5 * e + 4) = 0 := by
        unfold eX at z
        split at z
        · rename_i z3; exact z3.2.1
        · omega
      by_cases y : w (370 + 5 * e) = l
      · rw [if_pos ⟨z2, y⟩, if_neg (fun q => absurd q.1 (by decide)), if_pos y]; omega
      · rw [if_neg (fun q => y q.2), if_neg (fun q => y q.2), if_neg y]; omega
    · rw [if_neg z, if_neg z]
      split <;> split <;> omega
  have wu : ∀ l, 0 ≤ wt u l 2 := by
    intro l
    unfold wt
    refine sm_nn (fun e he => ?_)
    rw [N3] at he
    have x := I.1.xp (e := e) (by omega); unfold EXP at x
    unfold wtf
    rw [xl e 2 (by omega) (by omega)]
    split <;> omega
  have ru : ∀ l, 0 ≤ l ∧ l < w 2 → 0 ≤ rs u l := by
    intro l hl
    have x := I.1.lot hl; unfold LOT at x
    have b := Lb l hl
    refine rs_u ?_ ?_ ?_ ?_
    · rw [cl l 6 (by omega) (by omega)]; omega
    · rw [cl l 2 (by omega) (by omega)]; omega
    · rw [c7 l (by omega), cl l 2 (by omega) (by omega)]; omega
    · rw [cl l 6 (by omega) (by omega)]; omega
  have B1 : ∀ l, 0 ≤ l ∧ l < w 2 → u (40 + 11 * l + 8) + u (40 + 11 * l + 9) + rs u l + wt u l 2 = w (40 + 11 * l + 6) := by
    intro l hl
    have b := I.2.1 l hl
    have W1 := W l hl.1
    have R1 := R l hl
    rw [c8 l (by omega), cl l 9 (by omega) (by omega)]
    have Pd : PP w h p l = sm (fun e => if w (370 + 5 * e) = l then tX w h e else 0) (w 3).toNat + tL w p l := rfl
    omega
  have B2 : u 10 = sm (fun o => u (20 + 4 * o + 3)) 5 := by
    rw [show sm (fun o => u (20 + 4 * o + 3)) 5 = sm (fun o => w (20 + 4 * o + 3) + TT w h p o) 5 from sm_c (fun o ho => (cO o (by omega)).2.2.2), sm_add, c10, ← I.2.2.1]
    have q : sm (TT w h p) 5 = SS w h p := by
      show sm (fun o => sm (fun e => if w (40 + 11 * w (370 + 5 * e)) = o then tX w h e else 0) (w 3).toNat + sm (fun l => if w (40 + 11 * l) = o then tL w p l else 0) (w 2).toNat) 5 = _
      rw [sm_add, sm_grp (fun e => w (40 + 11 * w (370 + 5 * e))) (tX w h), sm_grp (fun l => w (40 + 11 * l)) (tL w p)]
      · rfl
      · intro l hl _
        have x := I.1.lot (l := l) (by omega); unfold LOT at x
        omega
      · intro e he _
        have x := I.1.xp (e := e) (by omega); unfold EXP at x
        have y := I.1.lot (l := w (370 + 5 * e)) (by omega); unfold LOT at y
        omega
    rw [q]
  have B3 : u 10 ≤ sm (fun l => u (40 + 11 * l + 8)) (w 2).toNat := by
    rw [show sm (fun l => u (40 + 11 * l + 8)) (w 2).toNat = sm (fun l => w (40 + 11 * l + 8) + PP w h p l) (w 2).toNat from sm_c (fun l hl => c8 l (by omega)), sm_add, c10]
    have q : sm (PP w h p) (w 2).toNat = SS w h p := by
      show sm (fun l => sm (fun e => if w (370 + 5 * e) = l then tX w h e else 0) (w 3).toNat + tL w p l) (w 2).toNat = _
      rw [sm_add, sm_grp (fun e => w (370 + 5 * e)) (tX w h)]
      · rfl
      · intro e he _
        have x := I.1.xp (e := e) (by omega); unfold EXP at x
        omega
    rw [q]
    have b := I.2.2.2.1
    omega
  have B4 : u 4 ≤ sm (fun l => if u (40 + 11 * l + 7) = u (40 + 11 * l + 2) then 1 else 0) (w 2).toNat := by
    rw [show sm (fun l => if u (40 + 11 * l + 7) = u (40 + 11 * l + 2) then 1 else 0) (w 2).toNat = sm (fun l => (if w (40 + 11 * l + 7) = w (40 + 11 * l + 2) then 1 else 0) + eL w p l) (w 2).toNat from sm_c (fun l hl => by
      rw [c7 l (by omega), cl l 2 (by omega) (by omega)]
      unfold LL
      by_cases z : eL w p l = 1
      · have z2 : 0 < un w l := by
          unfold eL at z
          split at z
          · rename_i z3; exact z3.2.1
          · omega
        unfold un at z2
        rw [if_pos z, if_pos rfl, if_neg (by omega), z]; rfl
      · have z3 := eL_b (w := w) p l
        rw [if_neg z, show eL w p l = 0 from by omega]; omega), sm_add, c4]
    have b := I.2.2.2.2
    unfold NN
    omega
  have u8 : ∀ l, 0 ≤ l ∧ l < w 2 → 0 ≤ u (40 + 11 * l + 8) ∧ u (40 + 11 * l + 8) ≤ 10000000 ∧ u (40 + 11 * l + 8) + u (40 + 11 * l + 9) ≤ w (40 + 11 * l + 6) := by
    intro l hl
    have x := I.1.lot hl; unfold LOT at x
    have b := B1 l hl
    have r1 := ru l hl
    have r2 := wu l
    have r3 := P0 l
    have e8 := c8 l (by omega)
    have e9 := cl l 9 (by omega) (by omega)
    omega
  have U10 : u 10 ≤ 300000000 := by
    have q := sm_up (f := fun l => u (40 + 11 * l + 8)) (M := 10000000) (n := (w 2).toNat) (fun l hl => (u8 l (by omega)).2.1)
    omega
  have UC : ∀ o, 0 ≤ o ∧ o < 5 → u (20 + 4 * o + 3) ≤ 300000000 := by
    intro o ho
    have q := sm_ge (f := fun o => u (20 + 4 * o + 3)) (n := 5) (fun i hi => by
      have a := I.1.own (o := i) (by omega); unfold OWN at a
      have b := (cO i (by omega)).2.2.2
      have t := T0 i
      omega) (j := o) (by omega)
    rw [← B2] at q
    omega
  have U4 : u 4 ≤ 30 := by
    have q := sm_up (f := fun l => if u (40 + 11 * l + 7) = u (40 + 11 * l + 2) then 1 else 0) (M := 1) (n := (w 2).toNat) (fun l hl => by split <;> omega)
    omega
  refine ⟨⟨?_, fun k hk => ?_, fun o ho => ?_, fun l hl => ?_, fun e he => ?_, fun o ho => ?_, fun l hl => ?_⟩, fun l hl => ?_, B2, by rw [N2]; exact B3, by rw [N2]; exact B4⟩
  · have n4 := c4
    unfold HEAD
    rw [c0, ch 1 (by omega), ch 2 (by omega), ch 3 (by omega), ch 5 (by omega), ch 6 (by omega), ch 7 (by omega), ch 8 (by omega), ch 9 (by omega), ch 11 (by omega), ch 12 (by omega)]
    omega
  · rw [ch _ (by omega)]; exact I.1.rt hk
  · have q := I.1.own ho; unfold OWN at q
    have t := T0 o
    have c := cO o ho
    have uc := UC o ho
    unfold OWN; omega
  · rw [ch 2 (by omega)] at hl
    have x := I.1.lot hl; unfold LOT at x
    have b := Lb l hl
    have e8 := u8 l hl
    have e9 := cl l 9 (by omega) (by omega)
    unfold LOT
    rw [ch 1 (by omega), c0, c7 l (by omega), cl0 l (by omega), cl l 1 (by omega) (by omega), cl l 2 (by omega) (by omega), cl l 3 (by omega) (by omega), cl l 4 (by omega) (by omega), cl l 5 (by omega) (by omega), cl l 6 (by omega) (by omega), cl l 10 (by omega) (by omega)]
    omega
  · rw [ch 3 (by omega)] at he
    have x := I.1.xp he; unfold EXP at x
    have b := Xb e he
    unfold EXP
    rw [ch 2 (by omega), c0, x4 e (by omega), x0 e (by omega), xl e 1 (by omega) (by omega), xl e 2 (by omega) (by omega), xl e 3 (by omega) (by omega)]
    omega
  · rw [ch 1 (by omega)] at ho
    have q := I.1.2.2.2.2.2.1 o ho
    have c := cO o (by omega)
    have t : TT w h p o = 0 := by
      unfold TT
      rw [sm_0 (fun e he => by
        have x := I.1.xp (e := e) (by omega); unfold EXP at x
        have y := I.1.lot (l := w (370 + 5 * e)) (by omega); unfold LOT at y
        exact if_neg (by omega)), sm_0 (fun l hl => by
        have y := I.1.lot (l := l) (by omega); unfold LOT at y
        exact if_neg (by omega))]
      rfl
    rw [t] at c
    omega
  · rw [ch 2 (by omega)] at hl
    have q := I.1.2.2.2.2.2.2 l hl
    have t : PP w h p l = 0 := by
      unfold PP tL
      rw [sm_0 (fun e he => by
        have x := I.1.xp (e := e) (by omega); unfold EXP at x
        exact if_neg (by omega)), eL_out (by omega)]
      rfl
    have e8 := c8 l (by omega)
    have e7 := c7 l (by omega)
    unfold LL at e7
    rw [eL_out (by omega), if_neg (by omega)] at e7
    rw [cl l 2 (by omega) (by omega), cl l 9 (by omega) (by omega), cl l 10 (by omega) (by omega)]
    omega
  · rw [ch 2 (by omega)] at hl
    rw [cl l 6 (by omega) (by omega)]; exact B1 l hl
end CLOSE2
