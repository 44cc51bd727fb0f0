/-! the closed form: exports ended by the thresholds h, lots ended by the thresholds p -/
def eX (w h : Int → Int) (e : Int) : Int := if (0 ≤ e ∧ e < w 3) ∧ w (370 + 5 * e + 4) = 0 ∧ w (370 + 5 * e + 3) < h e then 1 else 0
def eL (w p : Int → Int) (l : Int) : Int := if (0 ≤ l ∧ l < w 2) ∧ 0 < un w l ∧ w (40 + 11 * l + 5) < p l then 1 else 0
def tX (w h : Int → Int) (e : Int) : Int := if eX w h e = 1 then w (370 + 5 * e + 2) else 0
def tL (w p : Int → Int) (l : Int) : Int := if eL w p l = 1 then rs w l else 0
def TT (w h p : Int → Int) (o : Int) : Int := sm (fun e => if w (40 + 11 * w (370 + 5 * e)) = o then tX w h e else 0) (w 3).toNat + sm (fun l => if w (40 + 11 * l) = o then tL w p l else 0) (w 2).toNat
def PP (w h p : Int → Int) (l : Int) : Int := sm (fun e => if w (370 + 5 * e) = l then tX w h e else 0) (w 3).toNat + tL w p l
def SS (w h p : Int → Int) : Int := sm (tX w h) (w 3).toNat + sm (tL w p) (w 2).toNat
def NN (w p : Int → Int) : Int := sm (eL w p) (w 2).toNat
def XX (w h : Int → Int) (e : Int) : Int := if eX w h e = 1 then 2 else w (370 + 5 * e + 4)
def LL (w p : Int → Int) (l : Int) : Int := if eL w p l = 1 then w (40 + 11 * l + 2) else w (40 + 11 * l + 7)
def CF (w : Int → Int) (D : Int) (h p : Int → Int) : Int → Int := RW w D (TT w h p) (PP w h p) (XX w h) (LL w p) (SS w h p) (NN w p)
section CLOSE
variable {K : Int} {w : Int → Int}
theorem eX_c {h h' : Int → Int} {e : Int} (q : h e = h' e) : eX w h e = eX w h' e := by unfold eX; rw [q]
theorem eL_c {p p' : Int → Int} {l : Int} (q : p l = p' l) : eL w p l = eL w p' l := by unfold eL; rw [q]
theorem eX_out {h : Int → Int} {e : Int} (q : ¬ (0 ≤ e ∧ e < w 3)) : eX w h e = 0 := if_neg (fun z => q z.1)
theorem eL_out {p : Int → Int} {l : Int} (q : ¬ (0 ≤ l ∧ l < w 2)) : eL w p l = 0 := if_neg (fun z => q z.1)
theorem eX_b (h : Int → Int) (e : Int) : 0 ≤ eX w h e ∧ eX w h e ≤ 1 := by unfold eX; split <;> omega
theorem eL_b (p : Int → Int) (l : Int) : 0 ≤ eL w p l ∧ eL w p l ≤ 1 := by unfold eL; split <;> omega
theorem tX_b (I : IA K w) (h : Int → Int) (e : Int) : 0 ≤ tX w h e ∧ tX w h e ≤ 10000000 := by
  unfold tX
  by_cases q : 0 ≤ e ∧ e < w 3
  · have x := I.xp q; unfold EXP at x
    split <;> omega
  · rw [eX_out q, if_neg (by omega)]; omega
theorem tL_b (I : IA K w) (p : Int → Int) (l : Int) : 0 ≤ tL w p l ∧ tL w p l ≤ 10000000 := by
  unfold tL
  by_cases q : 0 ≤ l ∧ l < w 2
  · have x := I.lot q; unfold LOT at x
    have r := rs_b I q
    have z := dt_b (w := w) (l := l) (t := w (40 + 11 * l + 7)) (q := un w l) (by omega) (by omega) (by omega) (by unfold un; omega) (by unfold un; omega)
    rw [dt_all w l (by omega)] at z
    split <;> omega
  · rw [eL_out q, if_neg (by omega)]; omega
theorem TT_b (I : IA K w) (h p : Int → Int) (o : Int) : 0 ≤ TT w h p o ∧ TT w h p o ≤ 600000000 := by
  have g := I.hd; unfold HEAD at g
  have a := sm_b (f := fun e => if w (40 + 11 * w (370 + 5 * e)) = o then tX w h e else 0) (M := 10000000) (n := (w 3).toNat) (fun e _ => by have z := tX_b I h e; split <;> omega) (Nat.le_refl _)
  have b := sm_b (f := fun l => if w (40 + 11 * l) = o then tL w p l else 0) (M := 10000000) (n := (w 2).toNat) (fun e _ => by have z := tL_b I p e; split <;> omega) (Nat.le_refl _)
  unfold TT; omega
theorem PP_b (I : IA K w) (h p : Int → Int) (l : Int) : 0 ≤ PP w h p l ∧ PP w h p l ≤ 400000000 := by
  have g := I.hd; unfold HEAD at g
  have a := sm_b (f := fun e => if w (370 + 5 * e) = l then tX w h e else 0) (M := 10000000) (n := (w 3).toNat) (fun e _ => by have z := tX_b I h e; split <;> omega) (Nat.le_refl _)
  have b := tL_b I p l
  unfold PP; omega
theorem SS_b (I : IA K w) (h p : Int → Int) : 0 ≤ SS w h p ∧ SS w h p ≤ 600000000 := by
  have g := I.hd; unfold HEAD at g
  have a := sm_b (f := tX w h) (M := 10000000) (n := (w 3).toNat) (fun e _ => tX_b I h e) (Nat.le_refl _)
  have b := sm_b (f := tL w p) (M := 10000000) (n := (w 2).toNat) (fun e _ => tL_b I p e) (Nat.le_refl _)
  unfold SS; omega
theorem NN_b (I : IA K w) (p : Int → Int) : 0 ≤ NN w p ∧ NN w p ≤ 30 := by
  have g := I.hd; unfold HEAD at g
  have b := sm_b (f := eL w p) (M := 1) (n := (w 2).toNat) (fun e _ => eL_b p e) (Nat.le_refl _)
  unfold NN; omega
/-- thresholds matter in their ranges only -/
theorem CF_c {h h' p p' : Int → Int} (D : Int) (q1 : ∀ e, 0 ≤ e ∧ e < w 3 → h e = h' e) (q2 : ∀ l, 0 ≤ l ∧ l < w 2 → p l = p' l) : CF w D h p = CF w D h' p' ∧ SS w h p = SS w h' p' := by
  have a : eX w h = eX w h' := by
    funext e
    by_cases z : 0 ≤ e ∧ e < w 3
    · exact eX_c (q1 e z)
    · rw [eX_out z, eX_out z]
  have b : eL w p = eL w p' := by
    funext e
    by_cases z : 0 ≤ e ∧ e < w 2
    · exact eL_c (q2 e z)
    · rw [eL_out z, eL_out z]
  have a2 : tX w h = tX w h' := by funext e; unfold tX; rw [a]
  have b2 : tL w p = tL w p' := by funext e; unfold tL; rw [b]
  have a3 : TT w h p = TT w h' p' := by funext o; unfold TT; rw [a2, b2]
  have b3 : PP w h p = PP w h' p' := by funext o; unfold PP; rw [a2, b2]
  have a4 : SS w h p = SS w h' p' := by unfold SS; rw [a2, b2]
  have b4 : NN w p = NN w p' := by unfold NN; rw [b]
  have a5 : XX w h = XX w h' := by funext e; unfold XX; rw [a]
  have b5 : LL w p = LL w p' := by funext e; unfold LL; rw [b]
  refine ⟨?_, a4⟩
  unfold CF
  rw [a3, b3, a4, b4, a5, b5]
/-- nothing has ended yet -/
theorem CF_0 (I : IA K w) (D : Int) : CF w D (fun _ => 0) (fun _ => 0) = up w 0 D ∧ SS w (fun _ => 0) (fun _ => 0) = 0 := by
  have g := I.hd; unfold HEAD at g
  have a : ∀ e, eX w (fun _ => 0) e = 0 := fun e => by
    unfold eX
    refine if_neg (fun z => ?_)
    have x := I.xp z.1; unfold EXP at x
    have z2 := z.2.2
    dsimp only at z2
    omega
  have b : ∀ e, eL w (fun _ => 0) e = 0 := fun e => by
    unfold eL
    refine if_neg (fun z => ?_)
    have x := I.lot z.1; unfold LOT at x
    have z2 := z.2.2
    dsimp only at z2
    omega
  have a2 : ∀ e, tX w (fun _ => 0) e = 0 := fun e => by unfold tX; rw [a e]; rfl
  have b2 : ∀ e, tL w (fun _ => 0) e = 0 := fun e => by unfold tL; rw [b e]; rfl
  have a3 : ∀ o, TT w (fun _ => 0) (fun _ => 0) o = 0 := fun o => by
    unfold TT
    rw [sm_0 (fun e _ => by rw [a2 e]; split <;> rfl), sm_0 (fun e _ => by rw [b2 e]; split <;> rfl)]; rfl
  have b3 : ∀ o, PP w (fun _ => 0) (fun _ => 0) o = 0 := fun o => by
    unfold PP
    rw [sm_0 (fun e _ => by rw [a2 e]; split <;> rfl), b2]; rfl
  have a4 : SS w (fun _ => 0) (fun _ => 0) = 0 := by unfold SS; rw [sm_0 (fun e _ => a2 e), sm_0 (fun e _ => b2 e)]; rfl
  have b4 : NN w (fun _ => 0) = 0 := by unfold NN; exact sm_0 (fun e _ => b e)
  refine ⟨?_, a4⟩
  funext i
  unfold CF RW
  rw [a4, b4]
  by_cases c0 : i = 0
  · rw [if_pos c0, c0, up_e]
  rw [if_neg c0, up_n c0]
  by_cases c4 : i = 4
  · rw [if_pos c4, c4]; omega
  rw [if_neg c4]
  by_cases c10 : i = 10
  · rw [if_pos c10, c10]; omega
  rw [if_neg c10]
  by_cases c20 : 20 ≤ i ∧ i < 40
  · rw [if_pos c20, a3]
    have y : 0 ≤ w i ∧ 0 ≤ w (i - 1) ∨ (i - 20) % 4 = 0 := by
      have q := I.own (o := (i - 20) / 4) (by omega); unfold OWN at q
      by_cases m1 : (i - 20) % 4 = 1
      · rw [show 20 + 4 * ((i - 20) / 4) = i - 1 from by omega, show i - 1 + 1 = i from by omega] at q; omega
      by_cases m2 : (i - 20) % 4 = 2
      · rw [show 20 + 4 * ((i - 20) / 4) = i - 2 from by omega, show i - 2 + 1 = i - 1 from by omega, show i - 2 + 2 = i from by omega] at q; omega
      by_cases m3 : (i - 20) % 4 = 3
      · rw [show 20 + 4 * ((i - 20) / 4) = i - 3 from by omega, show i - 3 + 3 = i from by omega, show i - 3 + 2 = i - 1 from by omega] at q; omega
      · omega
    split
    · omega
    · split
      · omega
      · split <;> omega
  rw [if_neg c20]
  by_cases c40 : 40 ≤ i ∧ i < 370
  · rw [if_pos c40]
    by_cases m7 : (i - 40) % 11 = 7
    · rw [if_pos m7]; unfold LL; rw [b, if_neg (by omega), show 40 + 11 * ((i - 40) / 11) + 7 = i from by omega]
    · rw [if_neg m7, b3]; split <;> omega
  rw [if_neg c40]
  by_cases c370 : 370 ≤ i ∧ i < 520
  · rw [if_pos c370]
    by_cases m4 : (i - 370) % 5 = 4
    · rw [if_pos m4]; unfold XX; rw [a, if_neg (by omega), show 370 + 5 * ((i - 370) / 5) + 4 = i from by omega]
    · rw [if_neg m4]
  · rw [if_neg c370]
/-- an export is looked at -/
theorem CF_x (I : IA K w) {D e : Int} {h p : Int → Int} (he : 0 ≤ e ∧ e < w 3) (hh : h e ≤ D) :
    if XX w h e = 0 ∧ w (370 + 5 * e + 3) < D then
      cl (up (CF w D h p) (370 + 5 * e + 4) 2) (w (370 + 5 * e)) (w (370 + 5 * e + 2)) = CF w D (up h e D) p ∧ SS w (up h e D) p = SS w h p + w (370 + 5 * e + 2)
    else CF w D (up h e D) p = CF w D h p ∧ SS w (up h e D) p = SS w h p := by
  have g := I.hd; unfold HEAD at g
  have x := I.xp he; unfold EXP at x
  have lo := I.lot (l := w (370 + 5 * e)) (by omega); unfold LOT at lo
  have ow := I.own (o := w (40 + 11 * w (370 + 5 * e))) (by omega); unfold OWN at ow
  have n : ∀ k, k ≠ e → eX w (up h e D) k = eX w h k := fun k hk => eX_c (up_n hk)
  have tn : ∀ k, k ≠ e → tX w (up h e D) k = tX w h k := fun k hk => by unfold tX; rw [n k hk]
  by_cases z : XX w h e = 0 ∧ w (370 + 5 * e + 3) < D
  · rw [if_pos z]
    have e1 : eX w h e = 0 := by
      have b := eX_b (w := w) h e
      by_cases q : eX w h e = 1
      · have z1 := z.1; unfold XX at z1; rw [if_pos q] at z1; omega
      · omega
    have e2 : w (370 + 5 * e + 4) = 0 := by
      have z1 := z.1; unfold XX at z1; rw [e1, if_neg (by omega)] at z1; exact z1
    have e3 : eX w (up h e D) e = 1 := if_pos ⟨he, e2, by rw [up_e]; exact z.2⟩
    have t1 : tX w h e = 0 := by unfold tX; rw [e1]; rfl
    have t3 : tX w (up h e D) e = w (370 + 5 * e + 2) := by unfold tX; rw [e3]; rfl
    have s1 : sm (tX w (up h e D)) (w 3).toNat = sm (tX w h) (w 3).toNat + w (370 + 5 * e + 2) := by
      rw [sm_1 (f := tX w (up h e D)) (g := tX w h) (j := e) (by omega) (fun k _ hk => tn k hk), t1, t3]; omega
    have s2 : SS w (up h e D) p = SS w h p + w (370 + 5 * e + 2) := by unfold SS; rw [s1]; omega
    have grp : ∀ (f : Int → Int) (o : Int), sm (fun k => if f k = o then tX w (up h e D) k else 0) (w 3).toNat = sm (fun k => if f k = o then tX w h k else 0) (w 3).toNat + (if f e = o then w (370 + 5 * e + 2) else 0) := by
      intro f o
      rw [sm_1 (f := fun k => if f k = o then tX w (up h e D) k else 0) (g := fun k => if f k = o then tX w h k else 0) (j := e) (by omega) (fun k _ hk => by rw [tn k hk])]
      rw [t1, t3]
      split <;> omega
    have s3 : TT w (up h e D) p = up (TT w h p) (w (40 + 11 * w (370 + 5 * e))) (TT w h p (w (40 + 11 * w (370 + 5 * e))) + w (370 + 5 * e + 2)) := by
      funext o
      have q := grp (fun k => w (40 + 11 * w (370 + 5 * k))) o
      by_cases c : o = w (40 + 11 * w (370 + 5 * e))
      · rw [if_pos c.symm] at q
        rw [← c, up_e]; unfold TT; omega
      · rw [if_neg (fun m => c m.symm)] at q
        rw [up_n c]; unfold TT; omega
    have s4 : PP w (up h e D) p = up (PP w h p) (w (370 + 5 * e)) (PP w h p (w (370 + 5 * e)) + w (370 + 5 * e + 2)) := by
      funext o
      have q := grp (fun k => w (370 + 5 * k)) o
      by_cases c : o = w (370 + 5 * e)
      · rw [if_pos c.symm] at q
        rw [← c, up_e]; unfold PP; omega
      · rw [if_neg (fun m => c m.symm)] at q
        rw [up_n c]; unfold PP; omega
    have s5 : XX w (up h e D) = up (XX w h) e 2 := by
      funext k
      by_cases c : k = e
      · rw [c, up_e]; unfold XX; rw [if_pos e3]
      · rw [up_n c]; unfold XX; rw [n k c]
    refine ⟨?_, s2⟩
    unfold CF
    rw [RW_X _ _ _ _ _ _ _ _ (by omega), RW_cl w D _ _ _ _ _ _ (by omega) (by omega) (by omega) (TT_b I h p _).1 (by omega), s2, s3, s4, s5]
  · rw [if_neg z]
    have n2 : ∀ k, eX w (up h e D) k = eX w h k := by
      intro k
      by_cases c : k = e
      · subst c
        unfold eX
        rw [up_e]
        by_cases q4 : w (370 + 5 * k + 4) = 0
        · by_cases q : w (370 + 5 * k + 3) < h k
          · rw [if_pos ⟨he, q4, by omega⟩, if_pos ⟨he, q4, q⟩]
          · have e1 : eX w h k = 0 := if_neg (fun m => q m.2.2)
            rw [if_neg (fun m => z ⟨by unfold XX; rw [e1, if_neg (by omega)]; exact q4, m.2.2⟩), if_neg (fun m => q m.2.2)]
        · rw [if_neg (fun m => q4 m.2.1), if_neg (fun m => q4 m.2.1)]
      · exact n k c
    have a : eX w (up h e D) = eX w h := funext n2
    have a2 : tX w (up h e D) = tX w h := by funext e; unfold tX; rw [a]
    have a5 : XX w (up h e D) = XX w h := by funext e; unfold XX; rw [a]
    have a4 : SS w (up h e D) p = SS w h p := by unfold SS; rw [a2]
    refine ⟨?_, a4⟩
    unfold CF
    rw [a4, a5, show TT w (up h e D) p = TT w h p from by funext o; unfold TT; rw [a2], show PP w (up h e D) p = PP w h p from by funext o; unfold PP; rw [a2]]
end CLOSE
