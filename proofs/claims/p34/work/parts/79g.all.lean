/-! the law whole -/
section FIN2
theorem mk_ZF : mk w0 (fun _ => w0) w0 ZF = ZF := by
  funext r k
  unfold mk
  by_cases r0 : r < 0
  · rw [if_pos r0]
    exact (st_o (by omega) (by omega) k).symm
  rw [if_neg r0]
  by_cases r1 : r = 0
  · subst r1; rw [if_pos rfl]
  rw [if_neg r1]
  by_cases q2 : r = 1
  · rw [if_pos q2]
    subst q2
    rw [ZF_r (by omega), tZ_1]
    by_cases h0 : k = -2
    · subst h0; rfl
    by_cases h2 : k = 0
    · subst h2; rfl
    by_cases h3 : k = 1
    · subst h3; rfl
    by_cases h4 : k = 2
    · subst h4; rfl
    by_cases h5 : k = 3
    · subst h5; rfl
    by_cases h6 : k = 4
    · subst h6; rfl
    by_cases h7 : k = 5
    · subst h7; rfl
    simp only [h0, h2, h3, h4, h5, h6, h7, ite_self, if_false]
  rw [if_neg q2]
  by_cases q3 : r ≤ 72
  · rw [if_pos q3, ZF_r (by omega), tZ_2 (by omega)]
  rw [if_neg q3]
  by_cases q4 : r = 73
  · rw [if_pos q4]
    subst q4
    rw [ZF_r (by omega), tZ_73]
    by_cases h0 : k = -2
    · subst h0; rfl
    by_cases h2 : k = 0
    · subst h2; rfl
    simp only [h0, h2, ite_self, if_false]
  rw [if_neg q4]
  by_cases q5 : r = 74
  · rw [if_pos q5]
    subst q5
    rw [ZF_r (by omega), tZ_74]
  rw [if_neg q5]
  by_cases q6 : r ≤ 571
  · rw [if_pos q6, ZF_r (by omega), tZ_75 (by omega)]
  rw [if_neg q6]
  by_cases q7 : r = 572
  · rw [if_pos q7]
    subst q7
    rw [ZF_r (by omega), tZ_572]
  rw [if_neg q7]
  by_cases q8 : r ≤ 714
  · rw [if_pos q8, ZF_r (by omega), tZ_573 (by omega)]
  rw [if_neg q8]
  by_cases q9 : r = 715
  · rw [if_pos q9]
    subst q9
    unfold ar
    rw [ZF_r (by omega), tZ_715]
    by_cases h0 : k = -2
    · subst h0; rfl
    by_cases h1 : k = -1
    · subst h1; rfl
    simp only [h0, h1, ite_self, if_false]
  rw [if_neg q9]
  by_cases q10 : r = 716
  · rw [if_pos q10]
    subst q10
    rw [ZF_r (by omega), tZ_716]
    by_cases h0 : k = -2
    · subst h0; rfl
    by_cases h2 : k = 0
    · subst h2; rfl
    by_cases h6 : k = 4
    · subst h6; rfl
    simp only [h0, h2, h6, ite_self, if_false]
  rw [if_neg q10]
  by_cases q11 : r = 717
  · rw [if_pos q11]
    subst q11
    unfold ar
    rw [ZF_r (by omega), tZ_717]
    by_cases h0 : k = -2
    · subst h0; rfl
    by_cases h1 : k = -1
    · subst h1; rfl
    simp only [h0, h1, ite_self, if_false]
  rw [if_neg q11]
  by_cases q12 : r = 718
  · rw [if_pos q12]
    subst q12
    unfold ar
    rw [ZF_r (by omega), tZ_718]
    by_cases h0 : k = -2
    · subst h0; rfl
    by_cases h1 : k = -1
    · subst h1; rfl
    simp only [h0, h1, ite_self, if_false]
  rw [if_neg q12]
  by_cases q13 : r = 719
  · rw [if_pos q13]
    by_cases h0 : k = -2
    · rw [if_pos h0, q13, h0, ZF_r (by omega), tZ_719]; rfl
    · rw [if_neg h0, q13]
  rw [if_neg q13]
  by_cases q14 : r = 720
  · rw [if_pos q14, q14]
  rw [if_neg q14]
theorem IV_w0 : IV 0 w0 := by
  have z : ∀ i, i < 5 ∨ 20 ≤ i → w0 i = 0 := fun i h => w0_z h
  have a0 := z 0 (by omega)
  have a1 := z 1 (by omega)
  have a2 := z 2 (by omega)
  have a3 := z 3 (by omega)
  have a4 := z 4 (by omega)
  have a5 : w0 5 = 100 := Eq.trans rfl rfl
  have a6 : w0 6 = 30 := Eq.trans rfl rfl
  have a7 : w0 7 = 20 := Eq.trans rfl rfl
  have a8 : w0 8 = 20 := Eq.trans rfl rfl
  have a9 : w0 9 = 10 := Eq.trans rfl rfl
  have a10 : w0 10 = 0 := Eq.trans rfl rfl
  have a11 : w0 11 = 0 := Eq.trans rfl rfl
  have a12 : w0 12 = 0 := Eq.trans rfl rfl
  refine ⟨⟨?_, fun k h => ?_, fun o h => ?_, fun l h => ?_, fun e h => ?_, fun o h => ?_, fun l h => ?_⟩, fun l h => ?_, ?_, ?_, ?_⟩
  · unfold HEAD; omega
  · have e : w0 (14 + k) = 100 := by unfold w0; rw [if_neg (by omega), if_neg (by omega), if_neg (by omega), if_neg (by omega), if_neg (by omega), if_pos (by omega)]
    omega
  · unfold OWN
    rw [z (20 + 4 * o) (by omega), z (20 + 4 * o + 1) (by omega), z (20 + 4 * o + 2) (by omega), z (20 + 4 * o + 3) (by omega)]
    omega
  · omega
  · omega
  · exact ⟨z _ (by omega), z _ (by omega), z _ (by omega), z _ (by omega)⟩
  · exact ⟨z _ (by omega), z _ (by omega), z _ (by omega), z _ (by omega), z _ (by omega)⟩
  · omega
  · rw [a10, sm_0 (fun i hi => z _ (by omega))]
  · rw [a10, a2]; exact Int.le_refl 0
  · rw [a4, a2]; exact Int.le_refl 0
theorem JV_w0 : JV 0 w0 := by
  have a2 : w0 2 = 0 := w0_z (by omega)
  have a3 : w0 3 = 0 := w0_z (by omega)
  exact ⟨IV_w0, fun l h => by omega, fun e h => by omega, fun l h => by omega⟩
theorem zST_0 : zST 0 w0 (fun _ => w0) ZF := by
  have f : ∀ r k, 1 ≤ r → r ≤ 720 → ZF r k = tA9 r k := fun r k h1 h2 => ZF_r ⟨h1, h2⟩ k
  have b1 : ZF 73 1 = 0 := by rw [f _ _ (by omega) (by omega), tZ_73]; rfl
  have b2 : ZF 73 2 = 0 := by rw [f _ _ (by omega) (by omega), tZ_73]; rfl
  have b6 : ZF 1 6 = 0 := by rw [f _ _ (by omega) (by omega), tZ_1]; rfl
  have b7 : ZF 716 1 = 0 := by rw [f _ _ (by omega) (by omega), tZ_716]; rfl
  have b8 : ZF 719 0 = 720 := by rw [f _ _ (by omega) (by omega), tZ_719]; rfl
  have b9 : ZF 719 1 = 0 := by rw [f _ _ (by omega) (by omega), tZ_719]; rfl
  have b10 : ZF 719 3 = 0 := by rw [f _ _ (by omega) (by omega), tZ_719]; rfl
  have b11 : ZF 0 0 = 720 := Eq.trans rfl rfl
  have b12 : ZF 720 (-2) = 21 := by rw [f _ _ (by omega) (by omega), tZ_720]; rfl
  have b13 : ZF 720 (-1) = 16 := by rw [f _ _ (by omega) (by omega), tZ_720]; rfl
  refine ⟨JV_w0, ?_, fun s hs => ?_, ?_, ?_, ?_⟩
  · unfold zH
    rw [b1, b2]
    exact ⟨by omega, by omega, fun k h => by omega⟩
  · have c1 : ZF 715 s = 0 := by rw [f _ _ (by omega) (by omega), tZ_715, if_neg (by omega), if_neg (by omega)]
    rw [c1]
    exact ⟨by omega, fun h => absurd rfl h⟩
  · unfold zR; rw [b6]; omega
  · unfold zT; rw [b7]; omega
  · unfold zD; rw [b8, b9, b10, b11, b12, b13]; omega
theorem q_next0 (N : Nat) (hN : 5000 ≤ N) : f_X7_nextDeadline N 1 ZF = some (-100000005, ZF) := by
  have a2 : w0 2 = 0 := w0_z (by omega)
  have a3 : w0 3 = 0 := w0_z (by omega)
  have e5 := q_next (N := N) (c := fun _ => w0) (m := w0) (a := ZF) hN IV_w0.1
  rw [a2, a3, mk_ZF] at e5
  rw [e5, show (0 : Int).toNat = 0 from rfl, ndX, ndL]
theorem law_k (N : Nat) (hN : 5000 ≤ N) (sc : Int → Int) (sl : Int) : ∃ μ', f_L_law_b102 sc sl N N 1 0 0 0 (606929 - 1 - 719) (7281462 - 7 - 6003) ZF = some (1, μ') := by
  have S : zST (5 * ((0 : Nat) : Int)) w0 (fun _ => w0) ZF := by
    rw [show 5 * ((0 : Nat) : Int) = 0 from by omega]
    exact zST_0
  have l := l_law102 (N := N) (m := w0) (sc := sc) (sl := sl) hN N 0 w0 (fun _ => w0) ZF 0 0 (606929 - 1 - 719) (7281462 - 7 - 6003) (by omega) (by omega) S (Or.inl rfl) (by omega)
  rw [mk_ZF, show ((0 : Nat) : Int) = 0 from rfl] at l
  exact l
theorem law_u (N : Nat) : f_X7_undo N 1 ZF = some (-100000005, ZF) := by
  have b2 : ZF 73 2 = 0 := by rw [ZF_r (by omega), tZ_73]; rfl
  have e1 := x_undo_n (N := N) (m := w0) zST_0 b2
  rw [mk_ZF] at e1
  exact e1
theorem law_r (N : Nat) : f_X7_restore N 1 0 ZF = some (-100000005, ZF) := by
  have b3 : ZF 715 0 = 0 := by rw [ZF_r (by omega), tZ_715]; rfl
  have e2 := x_restore_n (N := N) (c := fun _ => w0) (m := w0) (w := w0) b3
  rw [mk_ZF] at e2
  exact e2
theorem law_b (N : Nat) : f_X7_restore N 1 2 ZF = some (-100000001, ZF) := by
  have e3 := x_restore_b (N := N) (c := fun _ => w0) (m := w0) (a := ZF) (w := w0)
  rw [mk_ZF] at e3
  exact e3
theorem law_p (N : Nat) : f_X7_keep N 1 (-1) ZF = some (-100000001, ZF) := by
  have e3 := x_keep_b (N := N) (c := fun _ => w0) (m := w0) (a := ZF) (w := w0)
  rw [mk_ZF] at e3
  exact e3
theorem law_t (N : Nat) : f_X7_setTerms N 1 0 1 ZF = some (-100000002, ZF) := by
  have e3 := x_setTerms_b (N := N) (c := fun _ => w0) (m := w0) (a := ZF) (w := w0) (y := 1)
  rw [mk_ZF] at e3
  exact e3
theorem law_s (N : Nat) : f_X7_setRules N 1 101 0 0 ZF = some (-100000002, ZF) := by
  have e3 := x_setRules_b (N := N) (c := fun _ => w0) (m := w0) (a := ZF) (w := w0) (y := 0) (z := 0)
  rw [mk_ZF] at e3
  exact e3
theorem law_a (N : Nat) : f_X7_setRate N 1 6 0 ZF = some (-100000001, ZF) := by
  have e3 := x_setRate_b (N := N) (c := fun _ => w0) (m := w0) (a := ZF) (w := w0) (y := 0)
  rw [mk_ZF] at e3
  exact e3
theorem law_9 : ZF 1 (-2) = 9 := by rw [ZF_r (by omega), tZ_1]; rfl
theorem law_bd {v : Int} {μ : Mm} {k : Int → Mm → Rs} : bd (some (v, μ)) k = k v μ := by rw [bd]
theorem law_ck {p : Prop} [Decidable p] {r : Rs} (h : p) : ck p r = r := by unfold ck; exact if_pos h
theorem law_no {v : Int} {x y : Rs} : (if ¬ v = v then x else y) = y := if_neg (fun h => h rfl)
theorem law_w (N : Nat) (hN : 5000 ≤ N) (x7 : f_X7_init N 1 (st 1 1 7 m0 (tN tO 1 9 0)) = some (0, ZF)) (sc : Int → Int) (sl : Int) (μ' : Mm) (l : f_L_law_b102 sc sl N N 1 0 0 0 (606929 - 1 - 719) (7281462 - 7 - 6003) ZF = some (1, μ')) : f_L_law sc sl N m0 = some (1, μ') := by
  have e1 := law_u N
  have e2 := law_r N
  have e3 := law_b N
  have e4 := law_p N
  have e6 := law_t N
  have e7 := law_s N
  have e8 := law_a N
  have k9 := law_9
  have e5 := q_next0 N hN
  have f1 : f_L_law sc sl N (st 1 0 0 m0 tO) = bd (f_X7_init N 1 (st 1 1 7 m0 (tN tO 1 9 0))) (fun a6 μ7 =>
      ck (μ7 1 (-2) = 9) <|
      bd (f_X7_undo N 1 μ7) fun a9 μ10 =>
      if ¬ a9 = ((-100000005)) then
        (some (0, μ10))
      else
      ck (μ10 1 (-2) = 9) <|
      bd (f_X7_restore N 1 0 μ10) fun a13 μ14 =>
      if ¬ a13 = ((-100000005)) then
        (some (0, μ14))
      else
      ck (μ14 1 (-2) = 9) <|
      bd (f_X7_restore N 1 2 μ14) fun a17 μ18 =>
      if ¬ a17 = ((-100000001)) then
        (some (0, μ18))
      else
      ck (μ18 1 (-2) = 9) <|
      bd (f_X7_keep N 1 ((-1)) μ18) fun a21 μ22 =>
      if ¬ a21 = ((-100000001)) then
        (some (0, μ22))
      else
      ck (μ22 1 (-2) = 9) <|
      bd (f_X7_nextDeadline N 1 μ22) fun a25 μ26 =>
      if ¬ a25 = ((-100000005)) then
        (some (0, μ26))
      else
      ck (μ26 1 (-2) = 9) <|
      bd (f_X7_setTerms N 1 0 1 μ26) fun a29 μ30 =>
      if ¬ a29 = ((-100000002)) then
        (some (0, μ30))
      else
      ck (μ30 1 (-2) = 9) <|
      bd (f_X7_setRules N 1 101 0 0 μ30) fun a33 μ34 =>
      if ¬ a33 = ((-100000002)) then
        (some (0, μ34))
      else
      ck (μ34 1 (-2) = 9) <|
      bd (f_X7_setRate N 1 6 0 μ34) fun a37 μ38 =>
      if a37 = ((-100000001)) then
        (f_L_law_b102 sc sl N N 1 0 0 0 (606929 - 1 - 719) (7281462 - 7 - 6003) μ38)
      else
      some (0, μ38)) := by
    rw [f_L_law]
    simp (disch := omega) only [Int.reduceAdd, st_r, st_00, st_new, st_set, tS_e, tS_n, tN_k, tN_l, tN_0, tN_n, tB_k, bz_t, nz_t, cz_T, cz_t, iz_T, iz_F, iz_y, iz_n, not_true_eq_false, not_false_eq_true, true_and, and_true, w32_e, Int.add_zero]
    rw [law_ck (by omega), nm, nm, law_ck (by omega), law_ck (by omega)]
  rw [← st_m0, f1, x7]
  rw [law_bd, law_ck k9, e1, law_bd, law_no, law_ck k9, e2, law_bd, law_no, law_ck k9, e3, law_bd, law_no, law_ck k9, e4, law_bd, law_no, law_ck k9, e5, law_bd, law_no, law_ck k9, e6, law_bd, law_no, law_ck k9, e7, law_bd, law_no, law_ck k9, e8, law_bd, if_pos rfl]
  exact l
theorem law_all (n : Nat) (hn : 5000 ≤ n) (sc : Int → Int) (sl : Int) : ∃ μ', f_L_law sc sl (n + 1000) m0 = some (1, μ') := by
  have x7 := i_X7 n
  have hN : 5000 ≤ n + 1000 := by omega
  revert x7 hN
  generalize n + 1000 = N
  intro x7 hN
  obtain ⟨μ', l⟩ := law_k N hN sc sl
  exact ⟨μ', law_w N hN x7 sc sl μ' l⟩
end FIN2
