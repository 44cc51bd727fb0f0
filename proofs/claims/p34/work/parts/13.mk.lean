/-! THE SHAPE OF THE MEMORY after the two constructors: v the row of what x holds, c its nine other rows (1..7 of the history, 8, 9 of the slots), w the row of what m holds, a the rest. -/
def up (v : Int → Int) (i x : Int) : Int → Int := fun j => if j = i then x else v j
def cv (B : Int) (u : Int → Int) (d k : Int) : Int :=
  if d = 0 then (if k = -2 then 8 else if k = 0 then B + 1 else if k = 1 then B + 3 else if k = 2 then B + 9 else if k = 3 then B + 40 else if k = 4 then u 1 else if k = 5 then u 2 else if k = 6 then u 3 else if k = 7 then u 4 else if k = 8 then u 0 else if k = 9 then u 11 else if k = 10 then u 12 else 0)
  else if d = 1 then (if k = -2 then 7 else if k = 0 then B + 2 else if 1 ≤ k ∧ k ≤ 5 then u (4 + k) else 0)
  else if d = 2 then (if k = -2 then 23 else if k = -1 then 6 else if 0 ≤ k ∧ k < 6 then u (14 + k) else 0)
  else if d = 3 then (if k = -2 then 27 else if k = -1 then 5 else if 0 ≤ k ∧ k < 5 then B + 4 + k else 0)
  else if d ≤ 8 then (if k = -2 then 6 else if 0 ≤ k ∧ k < 4 then u (20 + 4 * (d - 4) + k) else 0)
  else if d = 9 then (if k = -2 then 28 else if k = -1 then 30 else if 0 ≤ k ∧ k < 30 then B + 10 + k else 0)
  else if d ≤ 39 then (if k = -2 then 4 else if k = 7 then u (40 + 11 * (d - 10) + 2) - u (40 + 11 * (d - 10) + 7) else if 0 ≤ k ∧ k < 11 then u (40 + 11 * (d - 10) + k) else 0)
  else if d = 40 then (if k = -2 then 29 else if k = -1 then 30 else if 0 ≤ k ∧ k < 30 then B + 41 + k else 0)
  else (if k = -2 then 2 else if 0 ≤ k ∧ k < 5 then u (370 + 5 * (d - 41) + k) else 0)
def ar (t n : Int) (f : Int → Int) (k : Int) : Int := if k = -2 then t else if k = -1 then n else if 0 ≤ k ∧ k < n then f k else 0
def mk (v : Int → Int) (c : Int → Int → Int) (w : Int → Int) (a : Mm) : Mm := fun r k =>
  if r < 0 then m0 r k
  else if r = 0 then a 0 k
  else if r = 1 then (if k = -2 then 9 else if k = 0 then 2 else if k = 1 then 73 else if k = 2 then 572 else if k = 3 then 715 else if k = 4 then 716 else if k = 5 then 719 else if k = 6 then a 1 k else 0)
  else if r ≤ 72 then cv 2 v (r - 2) k
  else if r = 73 then (if k = -2 then 3 else if k = 0 then 74 else if k = 1 then a 73 k else if k = 2 then a 73 k else 0)
  else if r = 74 then ar 26 7 (fun k => 75 + 71 * k) k
  else if r ≤ 571 then cv (75 + 71 * ((r - 75) / 71)) (c (1 + (r - 75) / 71)) ((r - 75) % 71) k
  else if r = 572 then ar 26 2 (fun k => 573 + 71 * k) k
  else if r ≤ 714 then cv (573 + 71 * ((r - 573) / 71)) (c (8 + (r - 573) / 71)) ((r - 573) % 71) k
  else if r = 715 then ar 25 2 (a 715) k
  else if r = 716 then (if k = -2 then 5 else if k = 0 then 717 else if k = 4 then 718 else if 1 ≤ k ∧ k ≤ 3 then a 716 k else 0)
  else if r = 717 then ar 22 80 (a 717) k
  else if r = 718 then ar 23 4 (a 718) k
  else if r = 719 then (if k = -2 then 1 else a 719 k)
  else if r = 720 then a 720 k
  else a r k
section MK
variable (v : Int → Int) (c : Int → Int → Int) (w : Int → Int) (a : Mm)
theorem mk_1_m2 : mk v c w a 1 (-2) = 9 := Eq.trans rfl rfl
theorem mk_1_0 : mk v c w a 1 0 = 2 := Eq.trans rfl rfl
theorem mk_1_1 : mk v c w a 1 1 = 73 := Eq.trans rfl rfl
theorem mk_1_2 : mk v c w a 1 2 = 572 := Eq.trans rfl rfl
theorem mk_1_3 : mk v c w a 1 3 = 715 := Eq.trans rfl rfl
theorem mk_1_4 : mk v c w a 1 4 = 716 := Eq.trans rfl rfl
theorem mk_1_5 : mk v c w a 1 5 = 719 := Eq.trans rfl rfl
theorem mk_1_6 : mk v c w a 1 6 = a 1 6 := Eq.trans rfl rfl
theorem mk_2_m2 : mk v c w a 2 (-2) = 8 := Eq.trans rfl rfl
theorem mk_2_0 : mk v c w a 2 0 = 3 := Eq.trans rfl rfl
theorem mk_2_1 : mk v c w a 2 1 = 5 := Eq.trans rfl rfl
theorem mk_2_2 : mk v c w a 2 2 = 11 := Eq.trans rfl rfl
theorem mk_2_3 : mk v c w a 2 3 = 42 := Eq.trans rfl rfl
theorem mk_2_4 : mk v c w a 2 4 = v 1 := Eq.trans rfl rfl
theorem mk_2_5 : mk v c w a 2 5 = v 2 := Eq.trans rfl rfl
theorem mk_2_6 : mk v c w a 2 6 = v 3 := Eq.trans rfl rfl
theorem mk_2_7 : mk v c w a 2 7 = v 4 := Eq.trans rfl rfl
theorem mk_2_8 : mk v c w a 2 8 = v 0 := Eq.trans rfl rfl
theorem mk_2_9 : mk v c w a 2 9 = v 11 := Eq.trans rfl rfl
theorem mk_2_10 : mk v c w a 2 10 = v 12 := Eq.trans rfl rfl
theorem mk_3_m2 : mk v c w a 3 (-2) = 7 := Eq.trans rfl rfl
theorem mk_3_0 : mk v c w a 3 0 = 4 := Eq.trans rfl rfl
theorem mk_3_1 : mk v c w a 3 1 = v 5 := Eq.trans rfl rfl
theorem mk_3_2 : mk v c w a 3 2 = v 6 := Eq.trans rfl rfl
theorem mk_3_3 : mk v c w a 3 3 = v 7 := Eq.trans rfl rfl
theorem mk_3_4 : mk v c w a 3 4 = v 8 := Eq.trans rfl rfl
theorem mk_3_5 : mk v c w a 3 5 = v 9 := Eq.trans rfl rfl
theorem mk_4_m2 : mk v c w a 4 (-2) = 23 := Eq.trans rfl rfl
theorem mk_4_m1 : mk v c w a 4 (-1) = 6 := Eq.trans rfl rfl
theorem mk_5_m2 : mk v c w a 5 (-2) = 27 := Eq.trans rfl rfl
theorem mk_5_m1 : mk v c w a 5 (-1) = 5 := Eq.trans rfl rfl
theorem mk_11_m2 : mk v c w a 11 (-2) = 28 := Eq.trans rfl rfl
theorem mk_11_m1 : mk v c w a 11 (-1) = 30 := Eq.trans rfl rfl
theorem mk_42_m2 : mk v c w a 42 (-2) = 29 := Eq.trans rfl rfl
theorem mk_42_m1 : mk v c w a 42 (-1) = 30 := Eq.trans rfl rfl
theorem mk_73_m2 : mk v c w a 73 (-2) = 3 := Eq.trans rfl rfl
theorem mk_73_0 : mk v c w a 73 0 = 74 := Eq.trans rfl rfl
theorem mk_73_1 : mk v c w a 73 1 = a 73 1 := Eq.trans rfl rfl
theorem mk_73_2 : mk v c w a 73 2 = a 73 2 := Eq.trans rfl rfl
theorem mk_74_m2 : mk v c w a 74 (-2) = 26 := Eq.trans rfl rfl
theorem mk_74_m1 : mk v c w a 74 (-1) = 7 := Eq.trans rfl rfl
theorem mk_572_m2 : mk v c w a 572 (-2) = 26 := Eq.trans rfl rfl
theorem mk_572_m1 : mk v c w a 572 (-1) = 2 := Eq.trans rfl rfl
theorem mk_715_m2 : mk v c w a 715 (-2) = 25 := Eq.trans rfl rfl
theorem mk_715_m1 : mk v c w a 715 (-1) = 2 := Eq.trans rfl rfl
theorem mk_717_m2 : mk v c w a 717 (-2) = 22 := Eq.trans rfl rfl
theorem mk_717_m1 : mk v c w a 717 (-1) = 80 := Eq.trans rfl rfl
theorem mk_718_m2 : mk v c w a 718 (-2) = 23 := Eq.trans rfl rfl
theorem mk_718_m1 : mk v c w a 718 (-1) = 4 := Eq.trans rfl rfl
theorem mk_716_m2 : mk v c w a 716 (-2) = 5 := Eq.trans rfl rfl
theorem mk_716_0 : mk v c w a 716 0 = 717 := Eq.trans rfl rfl
theorem mk_716_1 : mk v c w a 716 1 = a 716 1 := Eq.trans rfl rfl
theorem mk_716_2 : mk v c w a 716 2 = a 716 2 := Eq.trans rfl rfl
theorem mk_716_3 : mk v c w a 716 3 = a 716 3 := Eq.trans rfl rfl
theorem mk_716_4 : mk v c w a 716 4 = 718 := Eq.trans rfl rfl
theorem mk_719_m2 : mk v c w a 719 (-2) = 1 := Eq.trans rfl rfl
theorem ar_at {t n : Int} {f : Int → Int} {k : Int} (h : 0 ≤ k ∧ k < n) : ar t n f k = f k := by unfold ar; rw [if_neg (by omega), if_neg (by omega), if_pos h]
theorem mk_74_at {k : Int} (h : 0 ≤ k ∧ k < 7) : mk v c w a 74 k = 75 + 71 * k := ar_at (f := fun k => 75 + 71 * k) h
theorem mk_572_at {k : Int} (h : 0 ≤ k ∧ k < 2) : mk v c w a 572 k = 573 + 71 * k := ar_at (f := fun k => 573 + 71 * k) h
theorem mk_715_at {k : Int} (h : 0 ≤ k ∧ k < 2) : mk v c w a 715 k = a 715 k := ar_at (f := fun k => a 715 k) h
theorem mk_717_at {k : Int} (h : 0 ≤ k ∧ k < 80) : mk v c w a 717 k = a 717 k := ar_at (f := fun k => a 717 k) h
theorem mk_718_at {k : Int} (h : 0 ≤ k ∧ k < 4) : mk v c w a 718 k = a 718 k := ar_at (f := fun k => a 718 k) h
theorem mk_now {d : Int} (h : 0 ≤ d ∧ d ≤ 70) (k : Int) : mk v c w a (2 + d) k = cv 2 v d k := by
  unfold mk; rw [if_neg (by omega), if_neg (by omega), if_neg (by omega), if_pos (by omega), show 2 + d - 2 = d from by omega]
theorem mk_4_at {k : Int} (h : 0 ≤ k ∧ k < 6) : mk v c w a 4 k = v (14 + k) := by
  show cv 2 v 2 k = _
  unfold cv; rw [if_neg (by omega), if_neg (by omega), if_pos rfl, if_neg (by omega), if_neg (by omega), if_pos h]
theorem mk_5_at {k : Int} (h : 0 ≤ k ∧ k < 5) : mk v c w a 5 k = 6 + k := by
  show cv 2 v 3 k = _
  unfold cv; rw [if_neg (by omega), if_neg (by omega), if_neg (by omega), if_pos rfl, if_neg (by omega), if_neg (by omega), if_pos h]; omega
theorem mk_11_at {k : Int} (h : 0 ≤ k ∧ k < 30) : mk v c w a 11 k = 12 + k := by
  show cv 2 v 9 k = _
  unfold cv; rw [if_neg (by omega), if_neg (by omega), if_neg (by omega), if_neg (by omega), if_neg (by omega), if_pos rfl, if_neg (by omega), if_neg (by omega), if_pos h]; omega
theorem mk_42_at {k : Int} (h : 0 ≤ k ∧ k < 30) : mk v c w a 42 k = 43 + k := by
  show cv 2 v 40 k = _
  unfold cv; rw [if_neg (by omega), if_neg (by omega), if_neg (by omega), if_neg (by omega), if_neg (by omega), if_neg (by omega), if_neg (by omega), if_pos rfl, if_neg (by omega), if_neg (by omega), if_pos h]; omega
theorem mk_O {o : Int} (h : 0 ≤ o ∧ o < 5) (k : Int) : mk v c w a (6 + o) k = if k = -2 then 6 else if 0 ≤ k ∧ k < 4 then v (20 + 4 * o + k) else 0 := by
  rw [show 6 + o = 2 + (4 + o) from by omega, mk_now v c w a (by omega)]
  unfold cv; rw [if_neg (by omega), if_neg (by omega), if_neg (by omega), if_neg (by omega), if_pos (by omega), show 4 + o - 4 = o from by omega]
theorem mk_L {l : Int} (h : 0 ≤ l ∧ l < 30) (k : Int) : mk v c w a (12 + l) k = if k = -2 then 4 else if k = 7 then v (40 + 11 * l + 2) - v (40 + 11 * l + 7) else if 0 ≤ k ∧ k < 11 then v (40 + 11 * l + k) else 0 := by
  rw [show 12 + l = 2 + (10 + l) from by omega, mk_now v c w a (by omega)]
  unfold cv; rw [if_neg (by omega), if_neg (by omega), if_neg (by omega), if_neg (by omega), if_neg (by omega), if_neg (by omega), if_pos (by omega), show 10 + l - 10 = l from by omega]
theorem mk_X {e : Int} (h : 0 ≤ e ∧ e < 30) (k : Int) : mk v c w a (43 + e) k = if k = -2 then 2 else if 0 ≤ k ∧ k < 5 then v (370 + 5 * e + k) else 0 := by
  rw [show 43 + e = 2 + (41 + e) from by omega, mk_now v c w a (by omega)]
  unfold cv; rw [if_neg (by omega), if_neg (by omega), if_neg (by omega), if_neg (by omega), if_neg (by omega), if_neg (by omega), if_neg (by omega), if_neg (by omega), show 41 + e - 41 = e from by omega]
theorem mk_O_k {o : Int} (h : 0 ≤ o ∧ o < 5) : mk v c w a (6 + o) (-2) = 6 := mk_O v c w a h (-2)
theorem mk_O_0 {o : Int} (h : 0 ≤ o ∧ o < 5) : mk v c w a (6 + o) 0 = v (20 + 4 * o) := by have e := mk_O v c w a h 0; simpa using e
theorem mk_O_1 {o : Int} (h : 0 ≤ o ∧ o < 5) : mk v c w a (6 + o) 1 = v (20 + 4 * o + 1) := mk_O v c w a h 1
theorem mk_O_2 {o : Int} (h : 0 ≤ o ∧ o < 5) : mk v c w a (6 + o) 2 = v (20 + 4 * o + 2) := mk_O v c w a h 2
theorem mk_O_3 {o : Int} (h : 0 ≤ o ∧ o < 5) : mk v c w a (6 + o) 3 = v (20 + 4 * o + 3) := mk_O v c w a h 3
theorem mk_L_k {l : Int} (h : 0 ≤ l ∧ l < 30) : mk v c w a (12 + l) (-2) = 4 := mk_L v c w a h (-2)
theorem mk_L_0 {l : Int} (h : 0 ≤ l ∧ l < 30) : mk v c w a (12 + l) 0 = v (40 + 11 * l) := by have e := mk_L v c w a h 0; simpa using e
theorem mk_L_1 {l : Int} (h : 0 ≤ l ∧ l < 30) : mk v c w a (12 + l) 1 = v (40 + 11 * l + 1) := mk_L v c w a h 1
theorem mk_L_2 {l : Int} (h : 0 ≤ l ∧ l < 30) : mk v c w a (12 + l) 2 = v (40 + 11 * l + 2) := mk_L v c w a h 2
theorem mk_L_3 {l : Int} (h : 0 ≤ l ∧ l < 30) : mk v c w a (12 + l) 3 = v (40 + 11 * l + 3) := mk_L v c w a h 3
theorem mk_L_4 {l : Int} (h : 0 ≤ l ∧ l < 30) : mk v c w a (12 + l) 4 = v (40 + 11 * l + 4) := mk_L v c w a h 4
theorem mk_L_5 {l : Int} (h : 0 ≤ l ∧ l < 30) : mk v c w a (12 + l) 5 = v (40 + 11 * l + 5) := mk_L v c w a h 5
theorem mk_L_6 {l : Int} (h : 0 ≤ l ∧ l < 30) : mk v c w a (12 + l) 6 = v (40 + 11 * l + 6) := mk_L v c w a h 6
theorem mk_L_7 {l : Int} (h : 0 ≤ l ∧ l < 30) : mk v c w a (12 + l) 7 = v (40 + 11 * l + 2) - v (40 + 11 * l + 7) := mk_L v c w a h 7
theorem mk_L_8 {l : Int} (h : 0 ≤ l ∧ l < 30) : mk v c w a (12 + l) 8 = v (40 + 11 * l + 8) := mk_L v c w a h 8
theorem mk_L_9 {l : Int} (h : 0 ≤ l ∧ l < 30) : mk v c w a (12 + l) 9 = v (40 + 11 * l + 9) := mk_L v c w a h 9
theorem mk_L_10 {l : Int} (h : 0 ≤ l ∧ l < 30) : mk v c w a (12 + l) 10 = v (40 + 11 * l + 10) := mk_L v c w a h 10
theorem mk_X_k {e : Int} (h : 0 ≤ e ∧ e < 30) : mk v c w a (43 + e) (-2) = 2 := mk_X v c w a h (-2)
theorem mk_X_0 {e : Int} (h : 0 ≤ e ∧ e < 30) : mk v c w a (43 + e) 0 = v (370 + 5 * e) := by have e := mk_X v c w a h 0; simpa using e
theorem mk_X_1 {e : Int} (h : 0 ≤ e ∧ e < 30) : mk v c w a (43 + e) 1 = v (370 + 5 * e + 1) := mk_X v c w a h 1
theorem mk_X_2 {e : Int} (h : 0 ≤ e ∧ e < 30) : mk v c w a (43 + e) 2 = v (370 + 5 * e + 2) := mk_X v c w a h 2
theorem mk_X_3 {e : Int} (h : 0 ≤ e ∧ e < 30) : mk v c w a (43 + e) 3 = v (370 + 5 * e + 3) := mk_X v c w a h 3
theorem mk_X_4 {e : Int} (h : 0 ≤ e ∧ e < 30) : mk v c w a (43 + e) 4 = v (370 + 5 * e + 4) := mk_X v c w a h 4
end MK
