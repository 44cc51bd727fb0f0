/-! the memory after the constructors -/
def ZF : Mm := st 1 728 11047 m0 tZ
section FIN
theorem tS_s {T : Int → Int → Int} (p i x k : Int) : tS T p i x p k = if k = i then x else T p k := by
  unfold tS
  by_cases e : k = i
  · rw [if_pos ⟨rfl, e⟩, if_pos e]
  · rw [if_neg (fun z => e z.2), if_neg e]
theorem tN_s {T : Int → Int → Int} (o kc n k : Int) : tN T o kc n o k = if k = -2 then kc else if k = -1 then n else 0 := if_pos rfl
theorem tH_75 {T : Int → Int → Int} {i k : Int} : tH T 75 i 74 k = if 0 ≤ k ∧ k < i then 75 + 71 * k else T 74 k := tH_a (T := T) (h := 75)
theorem tH_573 {T : Int → Int → Int} {i k : Int} : tH T 573 i 572 k = if 0 ≤ k ∧ k < i then 573 + 71 * k else T 572 k := tH_a (T := T) (h := 573)
theorem ZF_r {r : Int} (h : 1 ≤ r ∧ r ≤ 728) (k : Int) : ZF r k = tZ r k := st_r (B := 1) ⟨Int.le_refl _, h⟩ k
theorem tZ_1 (k : Int) : tZ 1 k = if k = -2 then 9 else if k = 0 then 2 else if k = 1 then 73 else if k = 2 then 572 else if k = 3 then 715 else if k = 4 then 716 else if k = 5 then 719 else 0 := by
  unfold tZ tU tG tA9 tA8 tA5 tA3
  simp (disch := omega) only [tS_n, tN_n, tH_o, tJ_o, tS_s, tN_s]
  by_cases h0 : k = -2
  · subst h0; rfl
  by_cases h2 : k = 0
  · subst h2; rfl
  by_cases h3 : k = 1
  · subst h3; rfl
  by_cases h4 : k = 2
  · subst h4; rfl
  by_cases h5 : k = 3
  · subst h5; rfl
  by_cases h6 : k = 4
  · subst h6; rfl
  by_cases h7 : k = 5
  · subst h7; rfl
  simp only [h0, h2, h3, h4, h5, h6, h7, ite_self, if_false]
theorem tZ_73 (k : Int) : tZ 73 k = if k = -2 then 3 else if k = 0 then 74 else 0 := by
  unfold tZ tU tG tA9 tA8 tA5 tA3
  simp (disch := omega) only [tS_n, tN_n, tH_o, tJ_o, tS_s, tN_s]
  by_cases h0 : k = -2
  · subst h0; rfl
  by_cases h2 : k = 0
  · subst h2; rfl
  simp only [h0, h2, ite_self, if_false]
theorem tZ_715 (k : Int) : tZ 715 k = if k = -2 then 25 else if k = -1 then 2 else 0 := by
  unfold tZ tU tG tA9 tA8 tA5 tA3
  simp (disch := omega) only [tS_n, tN_n, tH_o, tJ_o, tS_s, tN_s]
theorem tZ_716 (k : Int) : tZ 716 k = if k = -2 then 5 else if k = 0 then 717 else if k = 4 then 718 else 0 := by
  unfold tZ tU tG tA9 tA8 tA5 tA3
  simp (disch := omega) only [tS_n, tN_n, tH_o, tJ_o, tS_s, tN_s]
  by_cases h0 : k = -2
  · subst h0; rfl
  by_cases h2 : k = 0
  · subst h2; rfl
  by_cases h6 : k = 4
  · subst h6; rfl
  simp only [h0, h2, h6, ite_self, if_false]
theorem tZ_717 (k : Int) : tZ 717 k = if k = -2 then 22 else if k = -1 then 80 else 0 := by
  unfold tZ tU tG tA9 tA8 tA5 tA3
  simp (disch := omega) only [tS_n, tN_n, tH_o, tJ_o, tS_s, tN_s]
theorem tZ_718 (k : Int) : tZ 718 k = if k = -2 then 23 else if k = -1 then 4 else 0 := by
  unfold tZ tU tG tA9 tA8 tA5 tA3
  simp (disch := omega) only [tS_n, tN_n, tH_o, tJ_o, tS_s, tN_s]
theorem tZ_719 (k : Int) : tZ 719 k = if k = -2 then 1 else if k = 0 then 720 else 0 := by
  unfold tZ tU tG tA9 tA8 tA5 tA3
  simp (disch := omega) only [tS_n, tN_n, tH_o, tJ_o, tS_s, tN_s]
  by_cases h0 : k = -2
  · subst h0; rfl
  by_cases h2 : k = 0
  · subst h2; rfl
  simp only [h0, h2, ite_self, if_false]
theorem tZ_720 (k : Int) : tZ 720 k = if k = -2 then 21 else if k = -1 then 16 else 0 := by
  unfold tZ tU tG tA9 tA8 tA5 tA3
  simp (disch := omega) only [tS_n, tN_n, tH_o, tJ_o, tS_s, tN_s]
theorem tZ_721 (k : Int) : tZ 721 k = if k = -2 then 10 else if k = 0 then 722 else if k = 1 then 723 else if k = 3 then 724 else if k = 4 then 725 else if k = 7 then 726 else if k = 12 then 727 else if k = 14 then 728 else 0 := by
  unfold tZ tU tG tA9 tA8 tA5 tA3
  simp (disch := omega) only [tS_n, tN_n, tH_o, tJ_o, tS_s, tN_s]
  by_cases h0 : k = -2
  · subst h0; rfl
  by_cases h2 : k = 0
  · subst h2; rfl
  by_cases h3 : k = 1
  · subst h3; rfl
  by_cases h5 : k = 3
  · subst h5; rfl
  by_cases h6 : k = 4
  · subst h6; rfl
  by_cases h9 : k = 7
  · subst h9; rfl
  by_cases h14 : k = 12
  · subst h14; rfl
  by_cases h16 : k = 14
  · subst h16; rfl
  simp only [h0, h2, h3, h5, h6, h9, h14, h16, ite_self, if_false]
theorem tU_722 (T : Int → Int → Int) (k : Int) : tU T 722 k = if k = 19 then 100 else if k = 18 then 100 else if k = 17 then 100 else if k = 16 then 100 else if k = 15 then 100 else if k = 14 then 100 else if k = 9 then 10 else if k = 8 then 20 else if k = 7 then 20 else if k = 6 then 30 else if k = 5 then 100 else T 722 k := by
  unfold tU
  rw [tS_s, tS_s, tS_s, tS_s, tS_s, tS_s, tS_s, tS_s, tS_s, tS_s, tS_s]
theorem tG_722 (T : Int → Int → Int) (k : Int) : tG T 722 k = if k = -2 then 24 else if k = -1 then 520 else 0 := by
  unfold tG
  simp (disch := omega) only [tS_n, tN_n, tN_s]
theorem tZ_722 (k : Int) : tZ 722 k = if k = -2 then 24 else if k = -1 then 520 else if k = 5 then 100 else if k = 6 then 30 else if k = 7 then 20 else if k = 8 then 20 else if k = 9 then 10 else if k = 14 then 100 else if k = 15 then 100 else if k = 16 then 100 else if k = 17 then 100 else if k = 18 then 100 else if k = 19 then 100 else 0 := by
  unfold tZ
  rw [tU_722, tG_722]
  by_cases h0 : k = -2
  · subst h0; rfl
  by_cases h1 : k = -1
  · subst h1; rfl
  by_cases h7 : k = 5
  · subst h7; rfl
  by_cases h8 : k = 6
  · subst h8; rfl
  by_cases h9 : k = 7
  · subst h9; rfl
  by_cases h10 : k = 8
  · subst h10; rfl
  by_cases h11 : k = 9
  · subst h11; rfl
  by_cases h16 : k = 14
  · subst h16; rfl
  by_cases h17 : k = 15
  · subst h17; rfl
  by_cases h18 : k = 16
  · subst h18; rfl
  by_cases h19 : k = 17
  · subst h19; rfl
  by_cases h20 : k = 18
  · subst h20; rfl
  by_cases h21 : k = 19
  · subst h21; rfl
  simp only [h0, h1, h7, h8, h9, h10, h11, h16, h17, h18, h19, h20, h21, ite_self, if_false]
theorem tZ_723 (k : Int) : tZ 723 k = if k = -2 then 24 else if k = -1 then 3120 else 0 := by
  unfold tZ tU tG tA9 tA8 tA5 tA3
  simp (disch := omega) only [tS_n, tN_n, tH_o, tJ_o, tS_s, tN_s]
theorem tZ_724 (k : Int) : tZ 724 k = if k = -2 then 24 else if k = -1 then 1040 else 0 := by
  unfold tZ tU tG tA9 tA8 tA5 tA3
  simp (disch := omega) only [tS_n, tN_n, tH_o, tJ_o, tS_s, tN_s]
theorem tZ_725 (k : Int) : tZ 725 k = if k = -2 then 25 else if k = -1 then 2 else 0 := by
  unfold tZ tU tG tA9 tA8 tA5 tA3
  simp (disch := omega) only [tS_n, tN_n, tH_o, tJ_o, tS_s, tN_s]
theorem tZ_726 (k : Int) : tZ 726 k = if k = -2 then 22 else if k = -1 then 80 else 0 := by
  unfold tZ tU tG tA9 tA8 tA5 tA3
  simp (disch := omega) only [tS_n, tN_n, tH_o, tJ_o, tS_s, tN_s]
theorem tZ_727 (k : Int) : tZ 727 k = if k = -2 then 23 else if k = -1 then 200 else 0 := by
  unfold tZ tU tG tA9 tA8 tA5 tA3
  simp (disch := omega) only [tS_n, tN_n, tH_o, tJ_o, tS_s, tN_s]
theorem tZ_728 (k : Int) : tZ 728 k = if k = -2 then 23 else if k = -1 then 60 else 0 := by
  unfold tZ tU tG tA9 tA8 tA5 tA3
  simp (disch := omega) only [tS_n, tN_n, tH_o, tJ_o, tS_s, tN_s]
theorem tZ_74 (k : Int) : tZ 74 k = ar 26 7 (fun k => 75 + 71 * k) k := by
  unfold tZ tU tG tA9 tA8 tA5 tA3 ar
  simp (disch := omega) only [tS_n, tN_n, tH_o, tJ_o, tH_75, tN_s]
  by_cases h0 : k = -2
  · subst h0; rfl
  by_cases h1 : k = -1
  · subst h1; rfl
  simp only [h0, h1, if_false]
theorem tZ_572 (k : Int) : tZ 572 k = ar 26 2 (fun k => 573 + 71 * k) k := by
  unfold tZ tU tG tA9 tA8 tA5 tA3 ar
  simp (disch := omega) only [tS_n, tN_n, tH_o, tJ_o, tH_573, tN_s]
  by_cases h0 : k = -2
  · subst h0; rfl
  by_cases h1 : k = -1
  · subst h1; rfl
  simp only [h0, h1, if_false]
theorem tZ_2 {r : Int} (h : 2 ≤ r ∧ r ≤ 72) (k : Int) : tZ r k = cv 2 w0 (r - 2) k := by
  unfold tZ tU tG tA9 tA8 tA5 tA3
  simp (disch := omega) only [tS_n, tN_n, tH_o]
  unfold tJ
  rw [if_pos h.1, sT_cv (by omega)]
theorem tZ_75 {r : Int} (h : 75 ≤ r ∧ r ≤ 571) (k : Int) : tZ r k = cv (75 + 71 * ((r - 75) / 71)) w0 ((r - 75) % 71) k := by
  unfold tZ tU tG tA9 tA8 tA5
  simp (disch := omega) only [tS_n, tN_n, tH_o]
  unfold tH
  rw [if_pos h.1, sT_cv (by omega), show r - (75 + 71 * ((r - 75) / 71)) = (r - 75) % 71 from by omega]
theorem tZ_573 {r : Int} (h : 573 ≤ r ∧ r ≤ 714) (k : Int) : tZ r k = cv (573 + 71 * ((r - 573) / 71)) w0 ((r - 573) % 71) k := by
  unfold tZ tU tG tA9 tA8
  simp (disch := omega) only [tS_n, tN_n]
  unfold tH
  rw [if_pos h.1, sT_cv (by omega), show r - (573 + 71 * ((r - 573) / 71)) = (r - 573) % 71 from by omega]
theorem w0_z {i : Int} (h : i < 5 ∨ 20 ≤ i) : w0 i = 0 := by unfold w0; rw [if_neg (by omega), if_neg (by omega), if_neg (by omega), if_neg (by omega), if_neg (by omega), if_neg (by omega)]
end FIN
