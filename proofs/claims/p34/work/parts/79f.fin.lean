/-! the memory after the constructors -/
def ZF : Mm := st 1 720 6010 m0 tA9
section FIN
theorem tS_s {T : Int → Int → Int} (p i x k : Int) : tS T p i x p k = if k = i then x else T p k := by
  unfold tS
  by_cases e : k = i
  · rw [if_pos ⟨rfl, e⟩, if_pos e]
  · rw [if_neg (fun z => e z.2), if_neg e]
theorem tN_s {T : Int → Int → Int} (o kc n k : Int) : tN T o kc n o k = if k = -2 then kc else if k = -1 then n else 0 := if_pos rfl
theorem tH_75 {T : Int → Int → Int} {i k : Int} : tH T 75 i 74 k = if 0 ≤ k ∧ k < i then 75 + 71 * k else T 74 k := tH_a (T := T) (h := 75)
theorem tH_573 {T : Int → Int → Int} {i k : Int} : tH T 573 i 572 k = if 0 ≤ k ∧ k < i then 573 + 71 * k else T 572 k := tH_a (T := T) (h := 573)
theorem ZF_r {r : Int} (h : 1 ≤ r ∧ r ≤ 720) (k : Int) : ZF r k = tA9 r k := st_r (B := 1) ⟨Int.le_refl _, h⟩ k
theorem tZ_1 (k : Int) : tA9 1 k = if k = -2 then 9 else if k = 0 then 2 else if k = 1 then 73 else if k = 2 then 572 else if k = 3 then 715 else if k = 4 then 716 else if k = 5 then 719 else 0 := by
  unfold tA9 tA8 tA5 tA3
  simp (disch := omega) only [tS_n, tN_n, tH_o, tJ_o, tS_s, tN_s]
  by_cases h0 : k = -2
  · subst h0; rfl
  by_cases h2 : k = 0
  · subst h2; rfl
  by_cases h3 : k = 1
  · subst h3; rfl
  by_cases h4 : k = 2
  · subst h4; rfl
  by_cases h5 : k = 3
  · subst h5; rfl
  by_cases h6 : k = 4
  · subst h6; rfl
  by_cases h7 : k = 5
  · subst h7; rfl
  simp only [h0, h2, h3, h4, h5, h6, h7, ite_self, if_false]
theorem tZ_73 (k : Int) : tA9 73 k = if k = -2 then 3 else if k = 0 then 74 else 0 := by
  unfold tA9 tA8 tA5 tA3
  simp (disch := omega) only [tS_n, tN_n, tH_o, tJ_o, tS_s, tN_s]
  by_cases h0 : k = -2
  · subst h0; rfl
  by_cases h2 : k = 0
  · subst h2; rfl
  simp only [h0, h2, ite_self, if_false]
theorem tZ_715 (k : Int) : tA9 715 k = if k = -2 then 25 else if k = -1 then 2 else 0 := by
  unfold tA9 tA8 tA5 tA3
  simp (disch := omega) only [tS_n, tN_n, tH_o, tJ_o, tS_s, tN_s]
theorem tZ_716 (k : Int) : tA9 716 k = if k = -2 then 5 else if k = 0 then 717 else if k = 4 then 718 else 0 := by
  unfold tA9 tA8 tA5 tA3
  simp (disch := omega) only [tS_n, tN_n, tH_o, tJ_o, tS_s, tN_s]
  by_cases h0 : k = -2
  · subst h0; rfl
  by_cases h2 : k = 0
  · subst h2; rfl
  by_cases h6 : k = 4
  · subst h6; rfl
  simp only [h0, h2, h6, ite_self, if_false]
theorem tZ_717 (k : Int) : tA9 717 k = if k = -2 then 22 else if k = -1 then 80 else 0 := by
  unfold tA9 tA8 tA5 tA3
  simp (disch := omega) only [tS_n, tN_n, tH_o, tJ_o, tS_s, tN_s]
theorem tZ_718 (k : Int) : tA9 718 k = if k = -2 then 23 else if k = -1 then 4 else 0 := by
  unfold tA9 tA8 tA5 tA3
  simp (disch := omega) only [tS_n, tN_n, tH_o, tJ_o, tS_s, tN_s]
theorem tZ_719 (k : Int) : tA9 719 k = if k = -2 then 1 else if k = 0 then 720 else 0 := by
  unfold tA9 tA8 tA5 tA3
  simp (disch := omega) only [tS_n, tN_n, tH_o, tJ_o, tS_s, tN_s]
  by_cases h0 : k = -2
  · subst h0; rfl
  by_cases h2 : k = 0
  · subst h2; rfl
  simp only [h0, h2, ite_self, if_false]
theorem tZ_720 (k : Int) : tA9 720 k = if k = -2 then 21 else if k = -1 then 16 else 0 := by
  unfold tA9 tA8 tA5 tA3
  simp (disch := omega) only [tS_n, tN_n, tH_o, tJ_o, tS_s, tN_s]
theorem tZ_74 (k : Int) : tA9 74 k = ar 26 7 (fun k => 75 + 71 * k) k := by
  unfold tA9 tA8 tA5 tA3 ar
  simp (disch := omega) only [tS_n, tN_n, tH_o, tJ_o, tH_75, tN_s]
  by_cases h0 : k = -2
  · subst h0; rfl
  by_cases h1 : k = -1
  · subst h1; rfl
  simp only [h0, h1, if_false]
theorem tZ_572 (k : Int) : tA9 572 k = ar 26 2 (fun k => 573 + 71 * k) k := by
  unfold tA9 tA8 tA5 tA3 ar
  simp (disch := omega) only [tS_n, tN_n, tH_o, tJ_o, tH_573, tN_s]
  by_cases h0 : k = -2
  · subst h0; rfl
  by_cases h1 : k = -1
  · subst h1; rfl
  simp only [h0, h1, if_false]
theorem tZ_2 {r : Int} (h : 2 ≤ r ∧ r ≤ 72) (k : Int) : tA9 r k = cv 2 w0 (r - 2) k := by
  unfold tA9 tA8 tA5 tA3
  simp (disch := omega) only [tS_n, tN_n, tH_o]
  unfold tJ
  rw [if_pos h.1, sT_cv (by omega)]
theorem tZ_75 {r : Int} (h : 75 ≤ r ∧ r ≤ 571) (k : Int) : tA9 r k = cv (75 + 71 * ((r - 75) / 71)) w0 ((r - 75) % 71) k := by
  unfold tA9 tA8 tA5
  simp (disch := omega) only [tS_n, tN_n, tH_o]
  unfold tH
  rw [if_pos h.1, sT_cv (by omega), show r - (75 + 71 * ((r - 75) / 71)) = (r - 75) % 71 from by omega]
theorem tZ_573 {r : Int} (h : 573 ≤ r ∧ r ≤ 714) (k : Int) : tA9 r k = cv (573 + 71 * ((r - 573) / 71)) w0 ((r - 573) % 71) k := by
  unfold tA9 tA8
  simp (disch := omega) only [tS_n, tN_n]
  unfold tH
  rw [if_pos h.1, sT_cv (by omega), show r - (573 + 71 * ((r - 573) / 71)) = (r - 573) % 71 from by omega]
theorem w0_z {i : Int} (h : i < 5 ∨ 20 ≤ i) : w0 i = 0 := by unfold w0; rw [if_neg (by omega), if_neg (by omega), if_neg (by omega), if_neg (by omega), if_neg (by omega), if_neg (by omega)]
end FIN
