/-! a look after the last day, and a look each day: one closed form -/
def RW (w : Int → Int) (D : Int) (T P X L : Int → Int) (s n : Int) : Int → Int := fun i =>
  if i = 0 then D else if i = 4 then w 4 + n else if i = 10 then w 10 + s
  else if 20 ≤ i ∧ i < 40 then
    (if (i - 20) % 4 = 1 then w i - min (w i) (T ((i - 20) / 4)) else if (i - 20) % 4 = 2 then w i + (T ((i - 20) / 4) - min (w (i - 1)) (T ((i - 20) / 4))) else if (i - 20) % 4 = 3 then w i + T ((i - 20) / 4) else w i)
  else if 40 ≤ i ∧ i < 370 then (if (i - 40) % 11 = 7 then L ((i - 40) / 11) else if (i - 40) % 11 = 8 then w i + P ((i - 40) / 11) else w i)
  else if 370 ≤ i ∧ i < 520 then (if (i - 370) % 5 = 4 then X ((i - 370) / 5) else w i)
  else w i
section LOOK
variable (w : Int → Int) (D : Int) (T P X L : Int → Int) (s n : Int)
theorem RW_o {o : Int} (h : 0 ≤ o ∧ o < 5) : RW w D T P X L s n (20 + 4 * o) = w (20 + 4 * o) ∧ RW w D T P X L s n (20 + 4 * o + 1) = w (20 + 4 * o + 1) - min (w (20 + 4 * o + 1)) (T o) ∧
    RW w D T P X L s n (20 + 4 * o + 2) = w (20 + 4 * o + 2) + (T o - min (w (20 + 4 * o + 1)) (T o)) ∧ RW w D T P X L s n (20 + 4 * o + 3) = w (20 + 4 * o + 3) + T o := by
  unfold RW
  refine ⟨?_, ?_, ?_, ?_⟩
  · rw [if_neg (by omega), if_neg (by omega), if_neg (by omega), if_pos (by omega), if_neg (by omega), if_neg (by omega), if_neg (by omega)]
  · rw [if_neg (by omega), if_neg (by omega), if_neg (by omega), if_pos (by omega), if_pos (by omega), show (20 + 4 * o + 1 - 20) / 4 = o from by omega]
  · rw [if_neg (by omega), if_neg (by omega), if_neg (by omega), if_pos (by omega), if_neg (by omega), if_pos (by omega), show (20 + 4 * o + 2 - 20) / 4 = o from by omega, show 20 + 4 * o + 2 - 1 = 20 + 4 * o + 1 from by omega]
  · rw [if_neg (by omega), if_neg (by omega), if_neg (by omega), if_pos (by omega), if_neg (by omega), if_neg (by omega), if_pos (by omega), show (20 + 4 * o + 3 - 20) / 4 = o from by omega]
theorem RW_7 {l : Int} (h : 0 ≤ l ∧ l < 30) : RW w D T P X L s n (40 + 11 * l + 7) = L l := by
  unfold RW
  rw [if_neg (by omega), if_neg (by omega), if_neg (by omega), if_neg (by omega), if_pos (by omega), if_pos (by omega), show (40 + 11 * l + 7 - 40) / 11 = l from by omega]
theorem RW_8 {l : Int} (h : 0 ≤ l ∧ l < 30) : RW w D T P X L s n (40 + 11 * l + 8) = w (40 + 11 * l + 8) + P l := by
  unfold RW
  rw [if_neg (by omega), if_neg (by omega), if_neg (by omega), if_neg (by omega), if_pos (by omega), if_neg (by omega), if_pos (by omega), show (40 + 11 * l + 8 - 40) / 11 = l from by omega]
theorem RW_l {l j : Int} (h : 0 ≤ l ∧ l < 30) (hj : 0 ≤ j ∧ j < 11 ∧ j ≠ 7 ∧ j ≠ 8) : RW w D T P X L s n (40 + 11 * l + j) = w (40 + 11 * l + j) := by
  unfold RW
  rw [if_neg (by omega), if_neg (by omega), if_neg (by omega), if_neg (by omega), if_pos (by omega), if_neg (by omega), if_neg (by omega)]
theorem RW_l0 {l : Int} (h : 0 ≤ l ∧ l < 30) : RW w D T P X L s n (40 + 11 * l) = w (40 + 11 * l) := by
  have e := RW_l w D T P X L s n h (j := 0) (by omega)
  rwa [Int.add_zero] at e
theorem RW_4 {e : Int} (h : 0 ≤ e ∧ e < 30) : RW w D T P X L s n (370 + 5 * e + 4) = X e := by
  unfold RW
  rw [if_neg (by omega), if_neg (by omega), if_neg (by omega), if_neg (by omega), if_neg (by omega), if_pos (by omega), if_pos (by omega), show (370 + 5 * e + 4 - 370) / 5 = e from by omega]
theorem RW_x {e j : Int} (h : 0 ≤ e ∧ e < 30) (hj : 0 ≤ j ∧ j < 4) : RW w D T P X L s n (370 + 5 * e + j) = w (370 + 5 * e + j) := by
  unfold RW
  rw [if_neg (by omega), if_neg (by omega), if_neg (by omega), if_neg (by omega), if_neg (by omega), if_pos (by omega), if_neg (by omega)]
theorem RW_x0 {e : Int} (h : 0 ≤ e ∧ e < 30) : RW w D T P X L s n (370 + 5 * e) = w (370 + 5 * e) := by
  have q := RW_x w D T P X L s n h (j := 0) (by omega)
  rwa [Int.add_zero] at q
theorem RW_h {i : Int} (h : i < 20 ∧ i ≠ 0 ∧ i ≠ 4 ∧ i ≠ 10) : RW w D T P X L s n i = w i := by
  unfold RW
  rw [if_neg (by omega), if_neg (by omega), if_neg (by omega), if_neg (by omega), if_neg (by omega), if_neg (by omega)]
theorem RW_h0 : RW w D T P X L s n 0 = D := by unfold RW; rw [if_pos rfl]
theorem RW_h4 : RW w D T P X L s n 4 = w 4 + n := by unfold RW; rw [if_neg (by omega), if_pos rfl]
theorem RW_h10 : RW w D T P X L s n 10 = w 10 + s := by unfold RW; rw [if_neg (by omega), if_neg (by omega), if_pos rfl]
theorem RW_cl {l d : Int} (hl : 0 ≤ l ∧ l < 30) (ho : 0 ≤ w (40 + 11 * l) ∧ w (40 + 11 * l) < 5) (hg : 0 ≤ w (20 + 4 * w (40 + 11 * l) + 1)) (hT : 0 ≤ T (w (40 + 11 * l))) (hd : 0 ≤ d) :
    cl (RW w D T P X L s n) l d = RW w D (up T (w (40 + 11 * l)) (T (w (40 + 11 * l)) + d)) (up P l (P l + d)) X L (s + d) n := by
  generalize hoo : w (40 + 11 * l) = o at *
  have r0 : RW w D T P X L s n (40 + 11 * l) = o := (RW_l0 w D T P X L s n hl).trans hoo
  obtain ⟨a0, a1, a2, a3⟩ := RW_o w D T P X L s n ho
  obtain ⟨b0, b1, b2, b3⟩ := RW_o w D (up T o (T o + d)) (up P l (P l + d)) X L (s + d) n ho
  rw [up_e] at b1 b2 b3
  have a8 := RW_8 w D T P X L s n hl
  have b8 := RW_8 w D (up T o (T o + d)) (up P l (P l + d)) X L (s + d) n hl
  rw [up_e] at b8
  have a10 := RW_h10 w D T P X L s n
  have b10 := RW_h10 w D (up T o (T o + d)) (up P l (P l + d)) X L (s + d) n
  unfold cl
  rw [r0]
  dsimp only
  funext i
  by_cases i10 : i = 10
  · rw [i10, up_e, a10, b10]; omega
  rw [up_n i10]
  by_cases i8 : i = 40 + 11 * l + 8
  · rw [i8, up_e, a8, b8]; omega
  rw [up_n i8]
  by_cases i3 : i = 20 + 4 * o + 3
  · rw [i3, up_e, a3, b3]; omega
  rw [up_n i3]
  by_cases i2 : i = 20 + 4 * o + 2
  · rw [i2, up_e, a1, a2, b2]; omega
  rw [up_n i2]
  by_cases i1 : i = 20 + 4 * o + 1
  · rw [i1, up_e, a1, b1]; omega
  rw [up_n i1]
  clear a0 a1 a2 a3 b0 b1 b2 b3 a8 b8 a10 b10 r0 hg hT hoo
  unfold RW
  by_cases c0 : i = 0
  · rw [if_pos c0, if_pos c0]
  rw [if_neg c0, if_neg c0]
  by_cases c4 : i = 4
  · rw [if_pos c4, if_pos c4]
  rw [if_neg c4, if_neg c4, if_neg i10, if_neg i10]
  by_cases c20 : 20 ≤ i ∧ i < 40
  · rw [if_pos c20, if_pos c20]
    by_cases z : (i - 20) / 4 = o
    · rw [if_neg (by omega), if_neg (by omega), if_neg (by omega), if_neg (by omega), if_neg (by omega), if_neg (by omega)]
    · rw [up_n z]
  rw [if_neg c20, if_neg c20]
  by_cases c40 : 40 ≤ i ∧ i < 370
  · rw [if_pos c40, if_pos c40]
    by_cases z : (i - 40) / 11 = l
    · by_cases z7 : (i - 40) % 11 = 7
      · rw [if_pos z7, if_pos z7]
      · rw [if_neg z7, if_neg z7, if_neg (by omega), if_neg (by omega)]
    · rw [up_n z]
  rw [if_neg c40, if_neg c40]
theorem RW_X {e x : Int} (h : 0 ≤ e ∧ e < 30) : up (RW w D T P X L s n) (370 + 5 * e + 4) x = RW w D T P (up X e x) L s n := by
  funext i
  by_cases z : i = 370 + 5 * e + 4
  · rw [z, up_e, RW_4 w D T P _ L s n h, up_e]
  · rw [up_n z]
    unfold RW
    by_cases c : (i - 370) / 5 = e
    · by_cases c2 : (i - 370) % 5 = 4
      · exfalso; omega
      · rw [if_neg c2, if_neg c2]
    · rw [up_n c]
theorem RW_L {l x : Int} (h : 0 ≤ l ∧ l < 30) : up (up (RW w D T P X L s n) (40 + 11 * l + 7) x) 4 (w 4 + n + 1) = RW w D T P X (up L l x) s (n + 1) := by
  funext i
  by_cases z4 : i = 4
  · rw [z4, up_e, RW_h4]; omega
  rw [up_n z4]
  by_cases z : i = 40 + 11 * l + 7
  · rw [z, up_e, RW_7 w D T P X _ s (n + 1) h, up_e]
  · rw [up_n z]
    unfold RW
    by_cases c : (i - 40) / 11 = l
    · by_cases c2 : (i - 40) % 11 = 7
      · exfalso; omega
      · rw [if_neg z4, if_neg z4, if_neg c2, if_neg c2]
    · rw [if_neg z4, if_neg z4, up_n c]
theorem RW_D (D' : Int) : up (RW w D T P X L s n) 0 D' = RW w D' T P X L s n := by
  funext i
  by_cases z : i = 0
  · rw [z, up_e, RW_h0]
  · rw [up_n z]; unfold RW; rw [if_neg z, if_neg z]
end LOOK
