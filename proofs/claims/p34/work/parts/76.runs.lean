/-! the two orders beside the calls -/
section GIVEN
theorem tl_off (pre post : List Int) {n j : Int} (h : n = pre.length + j) (hj : 0 ≤ j) : tl (pre ++ post) n = tl post j := by
  subst h
  rw [tl_e, tl_e, List.getD_eq_getElem?_getD, List.getD_eq_getElem?_getD, List.getElem?_append_right (by omega), show ((pre.length : Int) + j).toNat - pre.length = j.toNat by omega]
theorem dgt_off (pre post : List Int) {n j d x : Int} (h : n = pre.length + j) (hj : 0 ≤ j) (g : dgt (tl post) j d x) : dgt (tl (pre ++ post)) n d x := by
  unfold dgt at *
  rw [tl_off pre post h hj, tl_off pre post (n := n + 1) (j := j + 1) (by omega) (by omega)]
  exact g
def gX (l a : Int) (rest : List Int) : List Int := [103, 105, 118, 101, 32] ++ (dgs l ++ ([32] ++ (dgs a ++ rest)))
def pX (l : Int) (rest : List Int) : List Int := [112, 114, 111, 118, 101, 32] ++ (dgs l ++ rest)
def dX (n : Int) : List Int := [59, 100, 97, 121, 115, 32] ++ (dgs n ++ [])
theorem fF_L {T : Int → Int} {L : Int} (h : oF T L 0 = L) (h0 : 0 ≤ L) : fF T L 81 0 = L := by
  rw [show 81 = 80 + 1 from rfl, fF_s, h, if_neg (by omega)]
theorem fF_2 {T : Int → Int} {L e : Int} (h : oF T L 0 = -1) (he : oE T L 0 = e) (hL : e + 1 = L) (h0 : 0 ≤ e) : fF T L 81 0 = L := by
  have x := end_o (T := T) (L := L) (by omega)
  rw [show 81 = 80 + 1 from rfl, fF_s, h, if_pos rfl, he, if_neg (by omega), hL, show 80 = 79 + 1 from rfl, fF_s, x, if_neg (by omega)]
theorem run_2 {T : Int → Int} {L e n k : Int} {A : Nat → Int} (o1 : oW T L 0 = k) (o2 : oF T L 0 = -1) (o3 : oE T L 0 = e) (he : e ≠ L) (p1 : oW T L (e + 1) = 7) (p2 : oF T L (e + 1) = -1) (p3 : oE T L (e + 1) = L) (p4 : oN T L (e + 1) 0 = n) (hA : oN T L 0 = A) :
    fF T L 81 0 = -1 ∧ oC T L 81 0 = 2 ∧ ∀ w, ex T L (oC T L 81 0) 0 w = if yO w k A = 0 then (2, pR (uO w k A) n, 0) else (0, w, yO w k A) := by
  have hc : oC T L 81 0 = 2 := by rw [show 81 = 80 + 1 from rfl, oC_s, o3, if_neg he, show 80 = 79 + 1 from rfl, oC_s, p3, if_pos rfl]
  refine ⟨?_, hc, fun w => ?_⟩
  · rw [show 81 = 80 + 1 from rfl, fF_s, o2, if_pos rfl, o3, if_neg he, show 80 = 79 + 1 from rfl, fF_s, p2, if_pos rfl, p3, if_pos rfl]
  · rw [hc, show 2 = 1 + 1 from rfl, ex_s, o1, o3, hA]
    by_cases q : yO w k A = 0
    · rw [if_pos q, if_pos q, show 1 = 0 + 1 from rfl, ex_s, p1, p3]
      have z : yO (uO w k A) 7 (oN T L (e + 1)) = 0 := rfl
      have z2 : uO (uO w k A) 7 (oN T L (e + 1)) = pR (uO w k A) (oN T L (e + 1) 0) := rfl
      rw [if_pos z, z2, p4]
      rfl
    · rw [if_neg q, if_neg q]
theorem give_T (l a : Int) (rest : List Int) (hl : 0 ≤ l ∧ l ≤ 29) (ha : 0 ≤ a ∧ a ≤ 4) : dgt (tl (gX l a rest)) 5 (dgs l).length l ∧ tl (gX l a rest) (5 + (dgs l).length) = 32 ∧ dgt (tl (gX l a rest)) (5 + (dgs l).length + 1) (dgs a).length a ∧
    ∀ j, 0 ≤ j → tl (gX l a rest) (5 + (dgs l).length + 1 + (dgs a).length + j) = tl rest j := by
  refine ⟨dgs_dg [103, 105, 118, 101, 32] ([32] ++ (dgs a ++ rest)) (by omega), ?_, ?_, fun j hj => ?_⟩
  · unfold gX
    rw [tl_off [103, 105, 118, 101, 32] _ (j := ((dgs l).length : Int)) (by rfl) (by omega), tl_off (dgs l) _ (j := 0) (by omega) (by omega)]
    rfl
  · unfold gX
    refine dgt_off [103, 105, 118, 101, 32] _ (j := ((dgs l).length : Int) + 1) (by show _ = (5 : Int) + _; omega) (by omega) (dgt_off (dgs l) _ (j := 1) (by omega) (by omega) ?_)
    exact dgs_dg [32] rest (by omega)
  · unfold gX
    rw [tl_off [103, 105, 118, 101, 32] _ (j := ((dgs l).length : Int) + 1 + (dgs a).length + j) (by show _ = (5 : Int) + _; omega) (by omega), tl_off (dgs l) _ (j := 1 + ((dgs a).length : Int) + j) (by omega) (by omega), tl_off [32] _ (j := ((dgs a).length : Int) + j) (by show _ = (1 : Int) + _; omega) (by omega), tl_off (dgs a) _ (j := j) (by omega) hj]
theorem gX_l (l a : Int) (rest : List Int) : ((gX l a rest).length : Int) = 5 + (dgs l).length + 1 + (dgs a).length + rest.length := by
  unfold gX
  rw [List.length_append, List.length_append, List.length_append, List.length_append, show ([103, 105, 118, 101, 32] : List Int).length = 5 from rfl, show ([32] : List Int).length = 1 from rfl]
  omega
theorem pX_l (l : Int) (rest : List Int) : ((pX l rest).length : Int) = 6 + (dgs l).length + rest.length := by
  unfold pX
  rw [List.length_append, List.length_append, show ([112, 114, 111, 118, 101, 32] : List Int).length = 6 from rfl]
  omega
theorem dX_l (n : Int) : ((dX n).length : Int) = 6 + (dgs n).length := by
  unfold dX
  rw [List.length_append, List.length_append, show ([59, 100, 97, 121, 115, 32] : List Int).length = 6 from rfl, List.length_nil]
  omega
theorem gX_app (l a : Int) (r s : List Int) : gX l a r ++ s = gX l a (r ++ s) := by unfold gX; simp only [List.append_assoc]
theorem pX_app (l : Int) (r s : List Int) : pX l r ++ s = pX l (r ++ s) := by unfold pX; simp only [List.append_assoc]
theorem dgs_12 (v : Int) : (dgs v).length = 1 ∨ (dgs v).length = 2 := by rw [dgs_l]; split; exact Or.inl rfl; exact Or.inr rfl
theorem prove_T (l : Int) (rest : List Int) (hl : 0 ≤ l ∧ l ≤ 29) : dgt (tl (pX l rest)) 6 (dgs l).length l ∧ ∀ j, 0 ≤ j → tl (pX l rest) (6 + (dgs l).length + j) = tl rest j := by
  refine ⟨dgs_dg [112, 114, 111, 118, 101, 32] rest (by omega), fun j hj => ?_⟩
  unfold pX
  rw [tl_off [112, 114, 111, 118, 101, 32] _ (j := ((dgs l).length : Int) + j) (by show _ = (6 : Int) + _; omega) (by omega), tl_off (dgs l) _ (j := j) (by omega) hj]
/-- the days behind what was read -/
theorem days_T {T : Int → Int} {p L n : Int} (h : ∀ j, 0 ≤ j → T (p + j) = tl (dX n) j) (hn : 1 ≤ n ∧ n ≤ 60) (hL : L = p + (dX n).length) : T p = 59 ∧ oW T L (p + 1) = 7 ∧ oF T L (p + 1) = -1 ∧ oE T L (p + 1) = L ∧ oN T L (p + 1) 0 = n := by
  have e : ∀ j, 0 ≤ j → T (p + j) = tl ([59, 100, 97, 121, 115, 32] ++ (dgs n ++ [])) j := h
  have h0 := e 0 (by omega)
  have h1 := e 1 (by omega)
  have h2 := e 2 (by omega)
  have h3 := e 3 (by omega)
  have h4 := e 4 (by omega)
  have h5 := e 5 (by omega)
  have g : dgt T (p + 1 + 4 + 1) (dgs n).length n := by
    have d := dgs_dg [59, 100, 97, 121, 115, 32] [] (v := n) (by omega)
    rw [show (([59, 100, 97, 121, 115, 32] : List Int).length : Int) = 6 from rfl] at d
    unfold dgt at d ⊢
    rw [show p + 1 + 4 + 1 = p + 6 by omega, show p + 6 + 1 = p + 7 by omega, e 6 (by omega), e 7 (by omega)]
    exact d
  rw [Int.add_zero] at h0
  have dl := dX_l n
  refine ⟨h0, days_o h1 ?_ ?_ ?_ ?_ g (by omega) (by omega)⟩
  · rw [show p + 1 + 1 = p + 2 by omega]; exact h2
  · rw [show p + 1 + 2 = p + 3 by omega]; exact h3
  · rw [show p + 1 + 3 = p + 4 by omega]; exact h4
  · rw [show p + 1 + 4 = p + 5 by omega]; exact h5
theorem give_1 : fF (tl [103, 105, 118, 101, 32]) 5 81 0 = 5 := by
  obtain ⟨w1, w2⟩ := give_w (T := tl [103, 105, 118, 101, 32]) (L := 5) rfl rfl rfl rfl rfl (by omega)
  exact fF_L (num_o w1 w2 (by omega) (lo := 0) (hi := 29) (r := [(0, 4)]) rfl rfl (by omega) (by omega)) (by omega)
theorem prove_1 : fF (tl [112, 114, 111, 118, 101, 32]) 6 81 0 = 6 := by
  obtain ⟨w1, w2⟩ := prove_w (T := tl [112, 114, 111, 118, 101, 32]) (L := 6) rfl rfl rfl rfl rfl rfl (by omega)
  exact fF_L (num_o w1 w2 (by omega) (lo := 0) (hi := 29) (r := []) rfl rfl (by omega) (by omega)) (by omega)
theorem give_2 {l a : Int} (hl : 0 ≤ l ∧ l ≤ 29) (ha : 0 ≤ a ∧ a ≤ 4) {L : Int} (hL : L = (gX l a [59]).length) : fF (tl (gX l a [59])) L 81 0 = L := by
  obtain ⟨t1, t2, t3, t4⟩ := give_T l a [59] hl ha
  have gl := gX_l l a [59]
  rw [show (([59] : List Int).length : Int) = 1 from rfl] at gl
  have t5 := t4 0 (by omega)
  rw [Int.add_zero] at t5
  obtain ⟨o1, o2, o3, -⟩ := give_o (T := tl (gX l a [59])) (L := L) rfl rfl rfl rfl rfl t1 hl t2 t3 ha (by omega) (Or.inr t5)
  exact fF_2 o2 o3 (by omega) (by omega)
theorem prove_2 {l : Int} (hl : 0 ≤ l ∧ l ≤ 29) {L : Int} (hL : L = (pX l [59]).length) : fF (tl (pX l [59])) L 81 0 = L := by
  obtain ⟨t1, t4⟩ := prove_T l [59] hl
  have gl := pX_l l [59]
  rw [show (([59] : List Int).length : Int) = 1 from rfl] at gl
  have t5 := t4 0 (by omega)
  rw [Int.add_zero] at t5
  obtain ⟨o1, o2, o3, -⟩ := prove_o (T := tl (pX l [59])) (L := L) rfl rfl rfl rfl rfl rfl t1 hl (by omega) (Or.inr t5)
  exact fF_2 o2 o3 (by omega) (by omega)
theorem give_3 {l a n : Int} (hl : 0 ≤ l ∧ l ≤ 29) (ha : 0 ≤ a ∧ a ≤ 4) (hn : 1 ≤ n ∧ n ≤ 60) {L : Int} (hL : L = (gX l a (dX n)).length) :
    fF (tl (gX l a (dX n))) L 81 0 = -1 ∧ ∀ w, ex (tl (gX l a (dX n))) L (oC (tl (gX l a (dX n))) L 81 0) 0 w = if yGi w l a = 0 then (2, pR (dGi w l a) n, 0) else (0, w, yGi w l a) := by
  obtain ⟨t1, t2, t3, t4⟩ := give_T l a (dX n) hl ha
  have gl := gX_l l a (dX n)
  have dl := dX_l n
  obtain ⟨d1, d2, d3, d4, d5⟩ := days_T (L := L) t4 hn (by omega)
  obtain ⟨o1, o2, o3, o4, o5⟩ := give_o (T := tl (gX l a (dX n))) (L := L) rfl rfl rfl rfl rfl t1 hl t2 t3 ha (by omega) (Or.inr d1)
  obtain ⟨r1, r2, r3⟩ := run_2 o1 o2 o3 (by omega) d2 d3 d4 d5 rfl
  refine ⟨r1, fun w => ?_⟩
  rw [r3 w]
  have z1 : yO w 6 (oN (tl (gX l a (dX n))) L 0) = yGi w (oN (tl (gX l a (dX n))) L 0 0) (oN (tl (gX l a (dX n))) L 0 1) := rfl
  have z2 : uO w 6 (oN (tl (gX l a (dX n))) L 0) = dGi w (oN (tl (gX l a (dX n))) L 0 0) (oN (tl (gX l a (dX n))) L 0 1) := rfl
  rw [z1, z2, o4, o5]
theorem prove_3 {l n : Int} (hl : 0 ≤ l ∧ l ≤ 29) (hn : 1 ≤ n ∧ n ≤ 60) {L : Int} (hL : L = (pX l (dX n)).length) :
    fF (tl (pX l (dX n))) L 81 0 = -1 ∧ ∀ w, ex (tl (pX l (dX n))) L (oC (tl (pX l (dX n))) L 81 0) 0 w = if yPr w l = 0 then (2, pR (dPr w l) n, 0) else (0, w, yPr w l) := by
  obtain ⟨t1, t4⟩ := prove_T l (dX n) hl
  have gl := pX_l l (dX n)
  have dl := dX_l n
  obtain ⟨d1, d2, d3, d4, d5⟩ := days_T (L := L) t4 hn (by omega)
  obtain ⟨o1, o2, o3, o4⟩ := prove_o (T := tl (pX l (dX n))) (L := L) rfl rfl rfl rfl rfl rfl t1 hl (by omega) (Or.inr d1)
  obtain ⟨r1, r2, r3⟩ := run_2 o1 o2 o3 (by omega) d2 d3 d4 d5 rfl
  refine ⟨r1, fun w => ?_⟩
  rw [r3 w]
  have z1 : yO w 4 (oN (tl (pX l (dX n))) L 0) = yPr w (oN (tl (pX l (dX n))) L 0 0) := rfl
  have z2 : uO w 4 (oN (tl (pX l (dX n))) L 0) = dPr w (oN (tl (pX l (dX n))) L 0 0) := rfl
  rw [z1, z2, o4]
end GIVEN
section RUNS
variable {N : Nat} {c : Int → Int → Int} (m : Int → Int) {a a0 : Mm} {w : Int → Int} {K K' : Int}
/-- an act undone, where text and numbers may have changed -/
theorem back_Q {u : Int → Int} {A : Mm} (hN : 5000 ≤ N) (S : zST K w c a) (hK : K ≤ K' ∧ K' ≤ 60000) (J : JV K' u) (q : zQ a A) (h7 : ∀ k, A 73 k = a 73 k) (R : zR A) : ∃ s, 0 ≤ s ∧ s ≤ 5 ∧ apA A 73 2 = s + 1 ∧ f_X7_undo N 1 (mk u (uc c ((a 73 1 + a 73 2) % 7 + 1) w) m (apA A)) = some (s, mk w (uc c ((a 73 1 + a 73 2) % 7 + 1) w) m (mset (apA A) 73 2 s)) ∧
    zST K' w (uc c ((a 73 1 + a 73 2) % 7 + 1) w) (mset (apA A) 73 2 s) := by
  have h1 := S.2.1.1
  have h2 := S.2.1.2.1
  have S' := zST_actQ S hK J q h7 R
  have e := apA_c (A := A) (a := a) h7
  have e1 := e 1
  have e2 := e 2
  rcases apA_73 h1 h2 with ⟨g1, g2, g3⟩ | ⟨g1, g2, g3⟩
  · have x := x_undo (N := N) m hN S' (s := 5) (by omega) (by omega)
    have y := zST_undo S' (s := 5) (by omega) (by omega)
    rw [e1, g2, show ((a 73 1 + 1) % 7 + 5) % 7 + 1 = (a 73 1 + a 73 2) % 7 + 1 by omega, uc_e] at x y
    exact ⟨5, by omega, by omega, by omega, x, y⟩
  · have x := x_undo (N := N) m hN S' (s := a 73 2) (by omega) (by omega)
    have y := zST_undo S' (s := a 73 2) (by omega) (by omega)
    rw [e1, g2, uc_e] at x y
    exact ⟨a 73 2, by omega, by omega, by omega, x, y⟩
theorem l_or182 (hN : 5000 ≤ N) (hK : K + 30 ≤ 60000) {x3 x4 x6 n y : Int} {u : Int → Int} {XS : List Int → List Int} (P : TP K w c a0 (XS []) a) (hn : 1 ≤ n ∧ n ≤ 60) (happ : ∀ r s, XS r ++ s = XS (r ++ s))
    (l0 : ((XS []).length : Int) ≤ 20)
    (F2 : ∀ L : Int, L = (XS [59]).length → fF (tl (XS [59])) L 81 0 = L)
    (F3 : ∀ L : Int, L = (XS (dX n)).length → fF (tl (XS (dX n))) L 81 0 = -1 ∧ ex (tl (XS (dX n))) L (oC (tl (XS (dX n))) L 81 0) 0 w = if y = 0 then (2, pR u n, 0) else (0, w, y))
    (hy : y = -1 ∨ y = -2 ∨ (0 ≤ y ∧ y ≤ 6)) (JU : y = 0 → ∀ K, JV K w → K + 1 ≤ 60000 → JV (K + 1) u)
    {call : Mm → Rs} (hc : (x6 = 0 ∧ call = f_X7_prove N 1 x3) ∨ (x6 = 1 ∧ call = f_X7_give N 1 x3 x4))
    (Cg : y = 0 → ∀ (K : Int) (c : Int → Int → Int) (b : Mm), zST K w c b → ∃ r, call (mk w c m b) = some (r, mk u (uc c ((b 73 1 + b 73 2) % 7 + 1) w) m (apA b)) ∧ 0 ≤ r)
    (Cb : y ≠ 0 → ∀ (K : Int) (c : Int → Int → Int) (b : Mm), zST K w c b → call (mk w c m b) = some (cd y, mk w (uc c ((b 73 1 + b 73 2) % 7 + 1) w) m (rb y b))) :
    nO (K + 4) (f_L_orders_b182 N 1 x3 x4 n x6 (mk w c m a)) c m a0 := by
  have hk := zST_K P.1
  generalize hL0 : ((XS []).length : Int) = L0 at *
  obtain ⟨a1, e1, P1⟩ := tp_type (N := N) m P hL0 (by omega) (x := 59) (by omega)
  have hl1 : ((XS [59]).length : Int) = L0 + 1 := by rw [← hL0, show XS [59] = XS [] ++ [59] from (happ [] [59]).symm, List.length_append]; rfl
  replace P1 : TP K w c a0 (XS [59]) a1 := by rw [happ] at P1; exact P1
  obtain ⟨a2, e2, P2⟩ := tp_fault (N := N) m hN P1 hl1 (F2 _ hl1.symm) (by omega)
  obtain ⟨a3, e3, P3⟩ := tp_type (N := N) m P2 hl1 (by omega) (x := 100) (by omega)
  obtain ⟨a4, e4, P4⟩ := tp_type (N := N) m P3 (L := L0 + 1 + 1) (by rw [List.length_append, ← hl1]; rfl) (by omega) (x := 97) (by omega)
  obtain ⟨a5, e5, P5⟩ := tp_type (N := N) m P4 (L := L0 + 1 + 1 + 1) (by rw [List.length_append, List.length_append, ← hl1]; rfl) (by omega) (x := 121) (by omega)
  obtain ⟨a6, e6, P6⟩ := tp_type (N := N) m P5 (L := L0 + 1 + 1 + 1 + 1) (by rw [List.length_append, List.length_append, List.length_append, ← hl1]; rfl) (by omega) (x := 115) (by omega)
  obtain ⟨a7, e7, P7⟩ := tp_type (N := N) m P6 (L := L0 + 1 + 1 + 1 + 1 + 1) (by rw [List.length_append, List.length_append, List.length_append, List.length_append, ← hl1]; rfl) (by omega) (x := 32) (by omega)
  obtain ⟨r8, a8, e8, P8⟩ := tp_digits (N := N) m (v := n) hN P7 (L := L0 + 1 + 1 + 1 + 1 + 1 + 1) (by rw [List.length_append, List.length_append, List.length_append, List.length_append, List.length_append, ← hl1]; rfl) (by omega) (by omega)
  replace P8 : TP K w c a0 (XS (dX n)) a8 := by
    rw [happ, happ, happ, happ, happ, happ] at P8
    have z : [59] ++ [100] ++ [97] ++ [121] ++ [115] ++ [32] ++ dgs n = dX n := by unfold dX; simp only [List.append_assoc, List.append_nil, List.cons_append, List.nil_append]
    rwa [z] at P8
  obtain ⟨S, p1, p2, p3, p4⟩ := P8
  obtain ⟨ff, hex⟩ := F3 _ rfl
  obtain ⟨A, x1, q, h7, r6⟩ := x_run (N := N) m (T := tl (XS (dX n))) hN S p1 p2 (by omega) ff
  rw [hex] at x1 r6
  have dg := q_digest (N := N) (c := c) m (a := a8) hN S.1.1.1
  have c12 := q_count_12 (N := N) (c := c) m (a := a8) (w := w)
  have h1 := S.2.1.1
  have h2 := S.2.1.2.1
  have R := S.2.2.2.1
  have zr : zR A := by
    unfold zR at R ⊢
    rw [r6]
    by_cases qy : y = 0
    · rw [if_pos qy]
      show 0 ≤ (if (1 : Int) ≤ 0 then 0 else a8 1 6) ∧ (if (1 : Int) ≤ 0 then 0 else a8 1 6) ≤ 6
      rw [if_neg (by omega)]; exact R
    · rw [if_neg qy]
      show 0 ≤ (if 1 ≤ y then y else a8 1 6) ∧ (if 1 ≤ y then y else a8 1 6) ≤ 6
      split <;> omega
  have ek : apA A 73 2 = if a8 73 2 = 6 then 6 else a8 73 2 + 1 := by
    rw [apA_c (A := A) (a := a8) h7 2]
    rcases apA_73 h1 h2 with ⟨g1, g2, g3⟩ | ⟨g1, g2, g3⟩
    · rw [if_pos g1, g3]
    · rw [if_neg (by omega), g3]
  have q9 := uc9 S
  have w7 : A 715 1 = a0 715 1 := (q 715 1 (by omega) (by omega) (by omega) (by omega)).trans p4
  by_cases qy : y = 0
  · rw [if_pos qy] at x1
    replace x1 : f_X7_runOrders N 1 (mk w c m a8) = some (2, mk (pR u n) (uc c ((a8 73 1 + a8 73 2) % 7 + 1) w) m (apA A)) := x1
    have Ju := JU qy K S.1 (by omega)
    have Jp := JV_pass Ju (by omega) (d := n) (by omega)
    obtain ⟨s, s1, s2, s3, s4, s5⟩ := back_Q (N := N) m hN S (K' := K + 1 + 1) (by omega) Jp q h7 zr
    generalize hc1 : uc c ((a8 73 1 + a8 73 2) % 7 + 1) w = c1 at *
    have dg2 := q_digest (N := N) (c := c1) m (a := apA A) hN Jp.1.1
    have c11 := q_count_11 (N := N) (c := c1) m (a := apA A) (w := pR u n)
    have c13 := q_count_12 (N := N) (c := c1) m (a := apA A) (w := pR u n)
    generalize hB : mset (apA A) 73 2 s = B at *
    have dg3 := q_digest (N := N) (c := c1) m (a := B) hN s5.1.1.1
    obtain ⟨r, g1, g2⟩ := Cg qy _ c1 B s5
    have S4 := zST_ok s5 (show K + 1 + 1 ≤ K + 1 + 1 + 1 ∧ K + 1 + 1 + 1 ≤ 60000 by omega) (JU qy _ s5.1 (by omega))
    have ps := x_pass (N := N) m hN S4 (d := n) (by omega)
    have S5 := zST_ok S4 (show K + 1 + 1 + 1 ≤ K + 4 ∧ K + 4 ≤ 60000 by omega) (JV_mono (JV_pass S4.1 (by omega) (d := n) (by omega)) (by omega))
    have dg4 := q_digest (N := N) (c := uc (uc c1 ((B 73 1 + B 73 2) % 7 + 1) w) ((apA B 73 1 + apA B 73 2) % 7 + 1) u) m (a := apA (apA B)) hN S5.1.1.1
    refine ⟨_, _, _, ?_, S5, ?_, ?_⟩
    · unfold f_L_orders_b182 f_L_orders_b302 f_L_orders_b344
      by_cases q6 : a8 73 2 = 6
      · rw [if_pos q6] at ek
        rcases hc with ⟨hx, hc⟩ | ⟨hx, hc⟩
        · rw [hc] at g1
          simp only [to_bz, to_nz, to_cz, to_iz]
          simp (disch := omega) only [e1, e2, e3, e4, e5, e6, e7, e8, x1, dg, c12, dg2, c11, c13, s4, dg3, g1, ps, dg4, bz_t, nz_t, cz_T, cz_t, iz_T, iz_F, iz_y, iz_n, not_true_eq_false, not_false_eq_true, true_and, and_true, w32_e, w64_e, mset_e, mset_n, up_e, up_n, if_y, if_n, Int.add_zero, mk_1_m2, mk_1_0, mk_1_1, mk_1_2, mk_1_3, mk_1_4, mk_1_5, mk_1_6, mk_2_m2, mk_2_0, mk_2_1, mk_2_2, mk_2_3, mk_2_4, mk_2_5, mk_2_6, mk_2_7, mk_2_8, mk_2_9, mk_2_10, mk_3_m2, mk_3_0, mk_3_1, mk_3_2, mk_3_3, mk_3_4, mk_3_5, mk_4_m2, mk_4_m1, mk_5_m2, mk_5_m1, mk_11_m2, mk_11_m1, mk_42_m2, mk_42_m1, mk_73_m2, mk_73_0, mk_73_1, mk_73_2, mk_74_m2, mk_74_m1, mk_572_m2, mk_572_m1, mk_715_m2, mk_715_m1, mk_717_m2, mk_717_m1, mk_718_m2, mk_718_m1, mk_716_m2, mk_716_0, mk_716_1, mk_716_2, mk_716_3, mk_716_4, mk_719_m2, mk_74_at, mk_572_at, mk_715_at, mk_717_at, mk_718_at, mk_4_at, mk_5_at, mk_11_at, mk_42_at, mk_O_k, mk_O_0, mk_O_1, mk_O_2, mk_O_3, mk_L_k, mk_L_0, mk_L_1, mk_L_2, mk_L_3, mk_L_4, mk_L_5, mk_L_6, mk_L_7, mk_L_8, mk_L_9, mk_L_10, mk_X_k, mk_X_0, mk_X_1, mk_X_2, mk_X_3, mk_X_4, mk_75_k, mk_573_k, r_1_6, r_73_1, r_73_2, r_716_1, r_716_2, r_716_3, r_715, r_717, r_718, s_O0, s_O1, s_O2, s_O3, s_L0, s_L1, s_L2, s_L3, s_L4, s_L5, s_L6, s_L7, s_L8, s_L9, s_L10, s_X0, s_X1, s_X2, s_X3, s_X4, s_2_4, s_2_5, s_2_6, s_2_7, s_2_8, s_2_9, s_2_10, s_3_1, s_3_2, s_3_3, s_3_4, s_3_5, s_4]
        · rw [hc] at g1
          simp only [to_bz, to_nz, to_cz, to_iz]
          simp (disch := omega) only [e1, e2, e3, e4, e5, e6, e7, e8, x1, dg, c12, dg2, c11, c13, s4, dg3, g1, ps, dg4, bz_t, nz_t, cz_T, cz_t, iz_T, iz_F, iz_y, iz_n, not_true_eq_false, not_false_eq_true, true_and, and_true, w32_e, w64_e, mset_e, mset_n, up_e, up_n, if_y, if_n, Int.add_zero, mk_1_m2, mk_1_0, mk_1_1, mk_1_2, mk_1_3, mk_1_4, mk_1_5, mk_1_6, mk_2_m2, mk_2_0, mk_2_1, mk_2_2, mk_2_3, mk_2_4, mk_2_5, mk_2_6, mk_2_7, mk_2_8, mk_2_9, mk_2_10, mk_3_m2, mk_3_0, mk_3_1, mk_3_2, mk_3_3, mk_3_4, mk_3_5, mk_4_m2, mk_4_m1, mk_5_m2, mk_5_m1, mk_11_m2, mk_11_m1, mk_42_m2, mk_42_m1, mk_73_m2, mk_73_0, mk_73_1, mk_73_2, mk_74_m2, mk_74_m1, mk_572_m2, mk_572_m1, mk_715_m2, mk_715_m1, mk_717_m2, mk_717_m1, mk_718_m2, mk_718_m1, mk_716_m2, mk_716_0, mk_716_1, mk_716_2, mk_716_3, mk_716_4, mk_719_m2, mk_74_at, mk_572_at, mk_715_at, mk_717_at, mk_718_at, mk_4_at, mk_5_at, mk_11_at, mk_42_at, mk_O_k, mk_O_0, mk_O_1, mk_O_2, mk_O_3, mk_L_k, mk_L_0, mk_L_1, mk_L_2, mk_L_3, mk_L_4, mk_L_5, mk_L_6, mk_L_7, mk_L_8, mk_L_9, mk_L_10, mk_X_k, mk_X_0, mk_X_1, mk_X_2, mk_X_3, mk_X_4, mk_75_k, mk_573_k, r_1_6, r_73_1, r_73_2, r_716_1, r_716_2, r_716_3, r_715, r_717, r_718, s_O0, s_O1, s_O2, s_O3, s_L0, s_L1, s_L2, s_L3, s_L4, s_L5, s_L6, s_L7, s_L8, s_L9, s_L10, s_X0, s_X1, s_X2, s_X3, s_X4, s_2_4, s_2_5, s_2_6, s_2_7, s_2_8, s_2_9, s_2_10, s_3_1, s_3_2, s_3_3, s_3_4, s_3_5, s_4]
      · rw [if_neg q6] at ek
        rcases hc with ⟨hx, hc⟩ | ⟨hx, hc⟩
        · rw [hc] at g1
          simp only [to_bz, to_nz, to_cz, to_iz]
          simp (disch := omega) only [e1, e2, e3, e4, e5, e6, e7, e8, x1, dg, c12, dg2, c11, c13, s4, dg3, g1, ps, dg4, bz_t, nz_t, cz_T, cz_t, iz_T, iz_F, iz_y, iz_n, not_true_eq_false, not_false_eq_true, true_and, and_true, w32_e, w64_e, mset_e, mset_n, up_e, up_n, if_y, if_n, Int.add_zero, mk_1_m2, mk_1_0, mk_1_1, mk_1_2, mk_1_3, mk_1_4, mk_1_5, mk_1_6, mk_2_m2, mk_2_0, mk_2_1, mk_2_2, mk_2_3, mk_2_4, mk_2_5, mk_2_6, mk_2_7, mk_2_8, mk_2_9, mk_2_10, mk_3_m2, mk_3_0, mk_3_1, mk_3_2, mk_3_3, mk_3_4, mk_3_5, mk_4_m2, mk_4_m1, mk_5_m2, mk_5_m1, mk_11_m2, mk_11_m1, mk_42_m2, mk_42_m1, mk_73_m2, mk_73_0, mk_73_1, mk_73_2, mk_74_m2, mk_74_m1, mk_572_m2, mk_572_m1, mk_715_m2, mk_715_m1, mk_717_m2, mk_717_m1, mk_718_m2, mk_718_m1, mk_716_m2, mk_716_0, mk_716_1, mk_716_2, mk_716_3, mk_716_4, mk_719_m2, mk_74_at, mk_572_at, mk_715_at, mk_717_at, mk_718_at, mk_4_at, mk_5_at, mk_11_at, mk_42_at, mk_O_k, mk_O_0, mk_O_1, mk_O_2, mk_O_3, mk_L_k, mk_L_0, mk_L_1, mk_L_2, mk_L_3, mk_L_4, mk_L_5, mk_L_6, mk_L_7, mk_L_8, mk_L_9, mk_L_10, mk_X_k, mk_X_0, mk_X_1, mk_X_2, mk_X_3, mk_X_4, mk_75_k, mk_573_k, r_1_6, r_73_1, r_73_2, r_716_1, r_716_2, r_716_3, r_715, r_717, r_718, s_O0, s_O1, s_O2, s_O3, s_L0, s_L1, s_L2, s_L3, s_L4, s_L5, s_L6, s_L7, s_L8, s_L9, s_L10, s_X0, s_X1, s_X2, s_X3, s_X4, s_2_4, s_2_5, s_2_6, s_2_7, s_2_8, s_2_9, s_2_10, s_3_1, s_3_2, s_3_3, s_3_4, s_3_5, s_4]
        · rw [hc] at g1
          simp only [to_bz, to_nz, to_cz, to_iz]
          simp (disch := omega) only [e1, e2, e3, e4, e5, e6, e7, e8, x1, dg, c12, dg2, c11, c13, s4, dg3, g1, ps, dg4, bz_t, nz_t, cz_T, cz_t, iz_T, iz_F, iz_y, iz_n, not_true_eq_false, not_false_eq_true, true_and, and_true, w32_e, w64_e, mset_e, mset_n, up_e, up_n, if_y, if_n, Int.add_zero, mk_1_m2, mk_1_0, mk_1_1, mk_1_2, mk_1_3, mk_1_4, mk_1_5, mk_1_6, mk_2_m2, mk_2_0, mk_2_1, mk_2_2, mk_2_3, mk_2_4, mk_2_5, mk_2_6, mk_2_7, mk_2_8, mk_2_9, mk_2_10, mk_3_m2, mk_3_0, mk_3_1, mk_3_2, mk_3_3, mk_3_4, mk_3_5, mk_4_m2, mk_4_m1, mk_5_m2, mk_5_m1, mk_11_m2, mk_11_m1, mk_42_m2, mk_42_m1, mk_73_m2, mk_73_0, mk_73_1, mk_73_2, mk_74_m2, mk_74_m1, mk_572_m2, mk_572_m1, mk_715_m2, mk_715_m1, mk_717_m2, mk_717_m1, mk_718_m2, mk_718_m1, mk_716_m2, mk_716_0, mk_716_1, mk_716_2, mk_716_3, mk_716_4, mk_719_m2, mk_74_at, mk_572_at, mk_715_at, mk_717_at, mk_718_at, mk_4_at, mk_5_at, mk_11_at, mk_42_at, mk_O_k, mk_O_0, mk_O_1, mk_O_2, mk_O_3, mk_L_k, mk_L_0, mk_L_1, mk_L_2, mk_L_3, mk_L_4, mk_L_5, mk_L_6, mk_L_7, mk_L_8, mk_L_9, mk_L_10, mk_X_k, mk_X_0, mk_X_1, mk_X_2, mk_X_3, mk_X_4, mk_75_k, mk_573_k, r_1_6, r_73_1, r_73_2, r_716_1, r_716_2, r_716_3, r_715, r_717, r_718, s_O0, s_O1, s_O2, s_O3, s_L0, s_L1, s_L2, s_L3, s_L4, s_L5, s_L6, s_L7, s_L8, s_L9, s_L10, s_X0, s_X1, s_X2, s_X3, s_X4, s_2_4, s_2_5, s_2_6, s_2_7, s_2_8, s_2_9, s_2_10, s_3_1, s_3_2, s_3_3, s_3_4, s_3_5, s_4]
    · rw [uc9 S4, uc9 s5]; exact q9
    · rw [apA_7, apA_7, ← hB, mset_n (by omega), apA_7]; exact w7
  · rw [if_neg qy] at x1 r6
    replace x1 : f_X7_runOrders N 1 (mk w c m a8) = some (0, mk w (uc c ((a8 73 1 + a8 73 2) % 7 + 1) w) m (apA A)) := x1
    replace r6 : A 1 6 = if 1 ≤ y then y else a8 1 6 := r6
    obtain ⟨s, s1, s2, s3, s4, s5⟩ := back_Q (N := N) m hN S (K' := K + 4) (by omega) (JV_mono S.1 (by omega)) q h7 zr
    generalize hc1 : uc c ((a8 73 1 + a8 73 2) % 7 + 1) w = c1 at *
    have dg2 := q_digest (N := N) (c := c1) m (a := apA A) hN S.1.1.1
    have c11 := q_count_11 (N := N) (c := c1) m (a := apA A) (w := w)
    rw [apA_16, r6] at c11
    have c13 := q_count_12 (N := N) (c := c1) m (a := apA A) (w := w)
    generalize hB : mset (apA A) 73 2 s = B at *
    have dg3 := q_digest (N := N) (c := c1) m (a := B) hN S.1.1.1
    have g1 := Cb qy _ c1 B s5
    have S4 := act_er s5 w (show y ≤ 6 by omega)
    have c15 := q_count_11 (N := N) (c := uc c1 ((B 73 1 + B 73 2) % 7 + 1) w) m (a := rb y B) (w := w)
    refine ⟨_, _, _, ?_, S4, ?_, ?_⟩
    · unfold f_L_orders_b182 f_L_orders_b302 f_L_orders_b344
      have key : (cd y = -100000003 ∧ 1 ≤ y ∧ rb y B 1 6 = y) ∨ (cd y = -100000001 ∧ ¬ 1 ≤ y) ∨ (cd y = -100000002 ∧ ¬ 1 ≤ y) := by
        rcases hy with hy | hy | hy
        · right; left; subst hy; exact ⟨rfl, by omega⟩
        · right; right; subst hy; exact ⟨rfl, by omega⟩
        · left
          refine ⟨?_, by omega, rb_16 (by omega)⟩
          unfold cd
          rw [if_neg qy, if_neg (by omega), if_neg (by omega)]
      by_cases q6 : a8 73 2 = 6
      · rw [if_pos q6] at ek
        rcases key with ⟨k1, k2, k3⟩ | ⟨k1, k2⟩ | ⟨k1, k2⟩
        · rw [k1] at g1
          rw [k3] at c15
          rw [if_pos k2] at c11
          rcases hc with ⟨hx, hc⟩ | ⟨hx, hc⟩ <;> rw [hc] at g1
          · simp only [to_bz, to_nz, to_cz, to_iz]
            simp (disch := omega) only [e1, e2, e3, e4, e5, e6, e7, e8, x1, dg, c12, dg2, c11, c13, s4, dg3, g1, c15, bz_t, nz_t, cz_T, cz_t, iz_T, iz_F, iz_y, iz_n, not_true_eq_false, not_false_eq_true, true_and, and_true, w32_e, w64_e, mset_e, mset_n, up_e, up_n, if_y, if_n, Int.add_zero, mk_1_m2, mk_1_0, mk_1_1, mk_1_2, mk_1_3, mk_1_4, mk_1_5, mk_1_6, mk_2_m2, mk_2_0, mk_2_1, mk_2_2, mk_2_3, mk_2_4, mk_2_5, mk_2_6, mk_2_7, mk_2_8, mk_2_9, mk_2_10, mk_3_m2, mk_3_0, mk_3_1, mk_3_2, mk_3_3, mk_3_4, mk_3_5, mk_4_m2, mk_4_m1, mk_5_m2, mk_5_m1, mk_11_m2, mk_11_m1, mk_42_m2, mk_42_m1, mk_73_m2, mk_73_0, mk_73_1, mk_73_2, mk_74_m2, mk_74_m1, mk_572_m2, mk_572_m1, mk_715_m2, mk_715_m1, mk_717_m2, mk_717_m1, mk_718_m2, mk_718_m1, mk_716_m2, mk_716_0, mk_716_1, mk_716_2, mk_716_3, mk_716_4, mk_719_m2, mk_74_at, mk_572_at, mk_715_at, mk_717_at, mk_718_at, mk_4_at, mk_5_at, mk_11_at, mk_42_at, mk_O_k, mk_O_0, mk_O_1, mk_O_2, mk_O_3, mk_L_k, mk_L_0, mk_L_1, mk_L_2, mk_L_3, mk_L_4, mk_L_5, mk_L_6, mk_L_7, mk_L_8, mk_L_9, mk_L_10, mk_X_k, mk_X_0, mk_X_1, mk_X_2, mk_X_3, mk_X_4, mk_75_k, mk_573_k, r_1_6, r_73_1, r_73_2, r_716_1, r_716_2, r_716_3, r_715, r_717, r_718, s_O0, s_O1, s_O2, s_O3, s_L0, s_L1, s_L2, s_L3, s_L4, s_L5, s_L6, s_L7, s_L8, s_L9, s_L10, s_X0, s_X1, s_X2, s_X3, s_X4, s_2_4, s_2_5, s_2_6, s_2_7, s_2_8, s_2_9, s_2_10, s_3_1, s_3_2, s_3_3, s_3_4, s_3_5, s_4]
          · simp only [to_bz, to_nz, to_cz, to_iz]
            simp (disch := omega) only [e1, e2, e3, e4, e5, e6, e7, e8, x1, dg, c12, dg2, c11, c13, s4, dg3, g1, c15, bz_t, nz_t, cz_T, cz_t, iz_T, iz_F, iz_y, iz_n, not_true_eq_false, not_false_eq_true, true_and, and_true, w32_e, w64_e, mset_e, mset_n, up_e, up_n, if_y, if_n, Int.add_zero, mk_1_m2, mk_1_0, mk_1_1, mk_1_2, mk_1_3, mk_1_4, mk_1_5, mk_1_6, mk_2_m2, mk_2_0, mk_2_1, mk_2_2, mk_2_3, mk_2_4, mk_2_5, mk_2_6, mk_2_7, mk_2_8, mk_2_9, mk_2_10, mk_3_m2, mk_3_0, mk_3_1, mk_3_2, mk_3_3, mk_3_4, mk_3_5, mk_4_m2, mk_4_m1, mk_5_m2, mk_5_m1, mk_11_m2, mk_11_m1, mk_42_m2, mk_42_m1, mk_73_m2, mk_73_0, mk_73_1, mk_73_2, mk_74_m2, mk_74_m1, mk_572_m2, mk_572_m1, mk_715_m2, mk_715_m1, mk_717_m2, mk_717_m1, mk_718_m2, mk_718_m1, mk_716_m2, mk_716_0, mk_716_1, mk_716_2, mk_716_3, mk_716_4, mk_719_m2, mk_74_at, mk_572_at, mk_715_at, mk_717_at, mk_718_at, mk_4_at, mk_5_at, mk_11_at, mk_42_at, mk_O_k, mk_O_0, mk_O_1, mk_O_2, mk_O_3, mk_L_k, mk_L_0, mk_L_1, mk_L_2, mk_L_3, mk_L_4, mk_L_5, mk_L_6, mk_L_7, mk_L_8, mk_L_9, mk_L_10, mk_X_k, mk_X_0, mk_X_1, mk_X_2, mk_X_3, mk_X_4, mk_75_k, mk_573_k, r_1_6, r_73_1, r_73_2, r_716_1, r_716_2, r_716_3, r_715, r_717, r_718, s_O0, s_O1, s_O2, s_O3, s_L0, s_L1, s_L2, s_L3, s_L4, s_L5, s_L6, s_L7, s_L8, s_L9, s_L10, s_X0, s_X1, s_X2, s_X3, s_X4, s_2_4, s_2_5, s_2_6, s_2_7, s_2_8, s_2_9, s_2_10, s_3_1, s_3_2, s_3_3, s_3_4, s_3_5, s_4]
        · rw [k1] at g1
          rw [if_neg k2] at c11
          rcases hc with ⟨hx, hc⟩ | ⟨hx, hc⟩ <;> rw [hc] at g1
          · simp only [to_bz, to_nz, to_cz, to_iz]
            simp (disch := omega) only [e1, e2, e3, e4, e5, e6, e7, e8, x1, dg, c12, dg2, c11, c13, s4, dg3, g1, bz_t, nz_t, cz_T, cz_t, iz_T, iz_F, iz_y, iz_n, not_true_eq_false, not_false_eq_true, true_and, and_true, w32_e, w64_e, mset_e, mset_n, up_e, up_n, if_y, if_n, Int.add_zero, mk_1_m2, mk_1_0, mk_1_1, mk_1_2, mk_1_3, mk_1_4, mk_1_5, mk_1_6, mk_2_m2, mk_2_0, mk_2_1, mk_2_2, mk_2_3, mk_2_4, mk_2_5, mk_2_6, mk_2_7, mk_2_8, mk_2_9, mk_2_10, mk_3_m2, mk_3_0, mk_3_1, mk_3_2, mk_3_3, mk_3_4, mk_3_5, mk_4_m2, mk_4_m1, mk_5_m2, mk_5_m1, mk_11_m2, mk_11_m1, mk_42_m2, mk_42_m1, mk_73_m2, mk_73_0, mk_73_1, mk_73_2, mk_74_m2, mk_74_m1, mk_572_m2, mk_572_m1, mk_715_m2, mk_715_m1, mk_717_m2, mk_717_m1, mk_718_m2, mk_718_m1, mk_716_m2, mk_716_0, mk_716_1, mk_716_2, mk_716_3, mk_716_4, mk_719_m2, mk_74_at, mk_572_at, mk_715_at, mk_717_at, mk_718_at, mk_4_at, mk_5_at, mk_11_at, mk_42_at, mk_O_k, mk_O_0, mk_O_1, mk_O_2, mk_O_3, mk_L_k, mk_L_0, mk_L_1, mk_L_2, mk_L_3, mk_L_4, mk_L_5, mk_L_6, mk_L_7, mk_L_8, mk_L_9, mk_L_10, mk_X_k, mk_X_0, mk_X_1, mk_X_2, mk_X_3, mk_X_4, mk_75_k, mk_573_k, r_1_6, r_73_1, r_73_2, r_716_1, r_716_2, r_716_3, r_715, r_717, r_718, s_O0, s_O1, s_O2, s_O3, s_L0, s_L1, s_L2, s_L3, s_L4, s_L5, s_L6, s_L7, s_L8, s_L9, s_L10, s_X0, s_X1, s_X2, s_X3, s_X4, s_2_4, s_2_5, s_2_6, s_2_7, s_2_8, s_2_9, s_2_10, s_3_1, s_3_2, s_3_3, s_3_4, s_3_5, s_4]
          · simp only [to_bz, to_nz, to_cz, to_iz]
            simp (disch := omega) only [e1, e2, e3, e4, e5, e6, e7, e8, x1, dg, c12, dg2, c11, c13, s4, dg3, g1, bz_t, nz_t, cz_T, cz_t, iz_T, iz_F, iz_y, iz_n, not_true_eq_false, not_false_eq_true, true_and, and_true, w32_e, w64_e, mset_e, mset_n, up_e, up_n, if_y, if_n, Int.add_zero, mk_1_m2, mk_1_0, mk_1_1, mk_1_2, mk_1_3, mk_1_4, mk_1_5, mk_1_6, mk_2_m2, mk_2_0, mk_2_1, mk_2_2, mk_2_3, mk_2_4, mk_2_5, mk_2_6, mk_2_7, mk_2_8, mk_2_9, mk_2_10, mk_3_m2, mk_3_0, mk_3_1, mk_3_2, mk_3_3, mk_3_4, mk_3_5, mk_4_m2, mk_4_m1, mk_5_m2, mk_5_m1, mk_11_m2, mk_11_m1, mk_42_m2, mk_42_m1, mk_73_m2, mk_73_0, mk_73_1, mk_73_2, mk_74_m2, mk_74_m1, mk_572_m2, mk_572_m1, mk_715_m2, mk_715_m1, mk_717_m2, mk_717_m1, mk_718_m2, mk_718_m1, mk_716_m2, mk_716_0, mk_716_1, mk_716_2, mk_716_3, mk_716_4, mk_719_m2, mk_74_at, mk_572_at, mk_715_at, mk_717_at, mk_718_at, mk_4_at, mk_5_at, mk_11_at, mk_42_at, mk_O_k, mk_O_0, mk_O_1, mk_O_2, mk_O_3, mk_L_k, mk_L_0, mk_L_1, mk_L_2, mk_L_3, mk_L_4, mk_L_5, mk_L_6, mk_L_7, mk_L_8, mk_L_9, mk_L_10, mk_X_k, mk_X_0, mk_X_1, mk_X_2, mk_X_3, mk_X_4, mk_75_k, mk_573_k, r_1_6, r_73_1, r_73_2, r_716_1, r_716_2, r_716_3, r_715, r_717, r_718, s_O0, s_O1, s_O2, s_O3, s_L0, s_L1, s_L2, s_L3, s_L4, s_L5, s_L6, s_L7, s_L8, s_L9, s_L10, s_X0, s_X1, s_X2, s_X3, s_X4, s_2_4, s_2_5, s_2_6, s_2_7, s_2_8, s_2_9, s_2_10, s_3_1, s_3_2, s_3_3, s_3_4, s_3_5, s_4]
        · rw [k1] at g1
          rw [if_neg k2] at c11
          rcases hc with ⟨hx, hc⟩ | ⟨hx, hc⟩ <;> rw [hc] at g1
          · simp only [to_bz, to_nz, to_cz, to_iz]
            simp (disch := omega) only [e1, e2, e3, e4, e5, e6, e7, e8, x1, dg, c12, dg2, c11, c13, s4, dg3, g1, bz_t, nz_t, cz_T, cz_t, iz_T, iz_F, iz_y, iz_n, not_true_eq_false, not_false_eq_true, true_and, and_true, w32_e, w64_e, mset_e, mset_n, up_e, up_n, if_y, if_n, Int.add_zero, mk_1_m2, mk_1_0, mk_1_1, mk_1_2, mk_1_3, mk_1_4, mk_1_5, mk_1_6, mk_2_m2, mk_2_0, mk_2_1, mk_2_2, mk_2_3, mk_2_4, mk_2_5, mk_2_6, mk_2_7, mk_2_8, mk_2_9, mk_2_10, mk_3_m2, mk_3_0, mk_3_1, mk_3_2, mk_3_3, mk_3_4, mk_3_5, mk_4_m2, mk_4_m1, mk_5_m2, mk_5_m1, mk_11_m2, mk_11_m1, mk_42_m2, mk_42_m1, mk_73_m2, mk_73_0, mk_73_1, mk_73_2, mk_74_m2, mk_74_m1, mk_572_m2, mk_572_m1, mk_715_m2, mk_715_m1, mk_717_m2, mk_717_m1, mk_718_m2, mk_718_m1, mk_716_m2, mk_716_0, mk_716_1, mk_716_2, mk_716_3, mk_716_4, mk_719_m2, mk_74_at, mk_572_at, mk_715_at, mk_717_at, mk_718_at, mk_4_at, mk_5_at, mk_11_at, mk_42_at, mk_O_k, mk_O_0, mk_O_1, mk_O_2, mk_O_3, mk_L_k, mk_L_0, mk_L_1, mk_L_2, mk_L_3, mk_L_4, mk_L_5, mk_L_6, mk_L_7, mk_L_8, mk_L_9, mk_L_10, mk_X_k, mk_X_0, mk_X_1, mk_X_2, mk_X_3, mk_X_4, mk_75_k, mk_573_k, r_1_6, r_73_1, r_73_2, r_716_1, r_716_2, r_716_3, r_715, r_717, r_718, s_O0, s_O1, s_O2, s_O3, s_L0, s_L1, s_L2, s_L3, s_L4, s_L5, s_L6, s_L7, s_L8, s_L9, s_L10, s_X0, s_X1, s_X2, s_X3, s_X4, s_2_4, s_2_5, s_2_6, s_2_7, s_2_8, s_2_9, s_2_10, s_3_1, s_3_2, s_3_3, s_3_4, s_3_5, s_4]
          · simp only [to_bz, to_nz, to_cz, to_iz]
            simp (disch := omega) only [e1, e2, e3, e4, e5, e6, e7, e8, x1, dg, c12, dg2, c11, c13, s4, dg3, g1, bz_t, nz_t, cz_T, cz_t, iz_T, iz_F, iz_y, iz_n, not_true_eq_false, not_false_eq_true, true_and, and_true, w32_e, w64_e, mset_e, mset_n, up_e, up_n, if_y, if_n, Int.add_zero, mk_1_m2, mk_1_0, mk_1_1, mk_1_2, mk_1_3, mk_1_4, mk_1_5, mk_1_6, mk_2_m2, mk_2_0, mk_2_1, mk_2_2, mk_2_3, mk_2_4, mk_2_5, mk_2_6, mk_2_7, mk_2_8, mk_2_9, mk_2_10, mk_3_m2, mk_3_0, mk_3_1, mk_3_2, mk_3_3, mk_3_4, mk_3_5, mk_4_m2, mk_4_m1, mk_5_m2, mk_5_m1, mk_11_m2, mk_11_m1, mk_42_m2, mk_42_m1, mk_73_m2, mk_73_0, mk_73_1, mk_73_2, mk_74_m2, mk_74_m1, mk_572_m2, mk_572_m1, mk_715_m2, mk_715_m1, mk_717_m2, mk_717_m1, mk_718_m2, mk_718_m1, mk_716_m2, mk_716_0, mk_716_1, mk_716_2, mk_716_3, mk_716_4, mk_719_m2, mk_74_at, mk_572_at, mk_715_at, mk_717_at, mk_718_at, mk_4_at, mk_5_at, mk_11_at, mk_42_at, mk_O_k, mk_O_0, mk_O_1, mk_O_2, mk_O_3, mk_L_k, mk_L_0, mk_L_1, mk_L_2, mk_L_3, mk_L_4, mk_L_5, mk_L_6, mk_L_7, mk_L_8, mk_L_9, mk_L_10, mk_X_k, mk_X_0, mk_X_1, mk_X_2, mk_X_3, mk_X_4, mk_75_k, mk_573_k, r_1_6, r_73_1, r_73_2, r_716_1, r_716_2, r_716_3, r_715, r_717, r_718, s_O0, s_O1, s_O2, s_O3, s_L0, s_L1, s_L2, s_L3, s_L4, s_L5, s_L6, s_L7, s_L8, s_L9, s_L10, s_X0, s_X1, s_X2, s_X3, s_X4, s_2_4, s_2_5, s_2_6, s_2_7, s_2_8, s_2_9, s_2_10, s_3_1, s_3_2, s_3_3, s_3_4, s_3_5, s_4]
      · rw [if_neg q6] at ek
        rcases key with ⟨k1, k2, k3⟩ | ⟨k1, k2⟩ | ⟨k1, k2⟩
        · rw [k1] at g1
          rw [k3] at c15
          rw [if_pos k2] at c11
          rcases hc with ⟨hx, hc⟩ | ⟨hx, hc⟩ <;> rw [hc] at g1
          · simp only [to_bz, to_nz, to_cz, to_iz]
            simp (disch := omega) only [e1, e2, e3, e4, e5, e6, e7, e8, x1, dg, c12, dg2, c11, c13, s4, dg3, g1, c15, bz_t, nz_t, cz_T, cz_t, iz_T, iz_F, iz_y, iz_n, not_true_eq_false, not_false_eq_true, true_and, and_true, w32_e, w64_e, mset_e, mset_n, up_e, up_n, if_y, if_n, Int.add_zero, mk_1_m2, mk_1_0, mk_1_1, mk_1_2, mk_1_3, mk_1_4, mk_1_5, mk_1_6, mk_2_m2, mk_2_0, mk_2_1, mk_2_2, mk_2_3, mk_2_4, mk_2_5, mk_2_6, mk_2_7, mk_2_8, mk_2_9, mk_2_10, mk_3_m2, mk_3_0, mk_3_1, mk_3_2, mk_3_3, mk_3_4, mk_3_5, mk_4_m2, mk_4_m1, mk_5_m2, mk_5_m1, mk_11_m2, mk_11_m1, mk_42_m2, mk_42_m1, mk_73_m2, mk_73_0, mk_73_1, mk_73_2, mk_74_m2, mk_74_m1, mk_572_m2, mk_572_m1, mk_715_m2, mk_715_m1, mk_717_m2, mk_717_m1, mk_718_m2, mk_718_m1, mk_716_m2, mk_716_0, mk_716_1, mk_716_2, mk_716_3, mk_716_4, mk_719_m2, mk_74_at, mk_572_at, mk_715_at, mk_717_at, mk_718_at, mk_4_at, mk_5_at, mk_11_at, mk_42_at, mk_O_k, mk_O_0, mk_O_1, mk_O_2, mk_O_3, mk_L_k, mk_L_0, mk_L_1, mk_L_2, mk_L_3, mk_L_4, mk_L_5, mk_L_6, mk_L_7, mk_L_8, mk_L_9, mk_L_10, mk_X_k, mk_X_0, mk_X_1, mk_X_2, mk_X_3, mk_X_4, mk_75_k, mk_573_k, r_1_6, r_73_1, r_73_2, r_716_1, r_716_2, r_716_3, r_715, r_717, r_718, s_O0, s_O1, s_O2, s_O3, s_L0, s_L1, s_L2, s_L3, s_L4, s_L5, s_L6, s_L7, s_L8, s_L9, s_L10, s_X0, s_X1, s_X2, s_X3, s_X4, s_2_4, s_2_5, s_2_6, s_2_7, s_2_8, s_2_9, s_2_10, s_3_1, s_3_2, s_3_3, s_3_4, s_3_5, s_4]
          · simp only [to_bz, to_nz, to_cz, to_iz]
            simp (disch := omega) only [e1, e2, e3, e4, e5, e6, e7, e8, x1, dg, c12, dg2, c11, c13, s4, dg3, g1, c15, bz_t, nz_t, cz_T, cz_t, iz_T, iz_F, iz_y, iz_n, not_true_eq_false, not_false_eq_true, true_and, and_true, w32_e, w64_e, mset_e, mset_n, up_e, up_n, if_y, if_n, Int.add_zero, mk_1_m2, mk_1_0, mk_1_1, mk_1_2, mk_1_3, mk_1_4, mk_1_5, mk_1_6, mk_2_m2, mk_2_0, mk_2_1, mk_2_2, mk_2_3, mk_2_4, mk_2_5, mk_2_6, mk_2_7, mk_2_8, mk_2_9, mk_2_10, mk_3_m2, mk_3_0, mk_3_1, mk_3_2, mk_3_3, mk_3_4, mk_3_5, mk_4_m2, mk_4_m1, mk_5_m2, mk_5_m1, mk_11_m2, mk_11_m1, mk_42_m2, mk_42_m1, mk_73_m2, mk_73_0, mk_73_1, mk_73_2, mk_74_m2, mk_74_m1, mk_572_m2, mk_572_m1, mk_715_m2, mk_715_m1, mk_717_m2, mk_717_m1, mk_718_m2, mk_718_m1, mk_716_m2, mk_716_0, mk_716_1, mk_716_2, mk_716_3, mk_716_4, mk_719_m2, mk_74_at, mk_572_at, mk_715_at, mk_717_at, mk_718_at, mk_4_at, mk_5_at, mk_11_at, mk_42_at, mk_O_k, mk_O_0, mk_O_1, mk_O_2, mk_O_3, mk_L_k, mk_L_0, mk_L_1, mk_L_2, mk_L_3, mk_L_4, mk_L_5, mk_L_6, mk_L_7, mk_L_8, mk_L_9, mk_L_10, mk_X_k, mk_X_0, mk_X_1, mk_X_2, mk_X_3, mk_X_4, mk_75_k, mk_573_k, r_1_6, r_73_1, r_73_2, r_716_1, r_716_2, r_716_3, r_715, r_717, r_718, s_O0, s_O1, s_O2, s_O3, s_L0, s_L1, s_L2, s_L3, s_L4, s_L5, s_L6, s_L7, s_L8, s_L9, s_L10, s_X0, s_X1, s_X2, s_X3, s_X4, s_2_4, s_2_5, s_2_6, s_2_7, s_2_8, s_2_9, s_2_10, s_3_1, s_3_2, s_3_3, s_3_4, s_3_5, s_4]
        · rw [k1] at g1
          rw [if_neg k2] at c11
          rcases hc with ⟨hx, hc⟩ | ⟨hx, hc⟩ <;> rw [hc] at g1
          · simp only [to_bz, to_nz, to_cz, to_iz]
            simp (disch := omega) only [e1, e2, e3, e4, e5, e6, e7, e8, x1, dg, c12, dg2, c11, c13, s4, dg3, g1, bz_t, nz_t, cz_T, cz_t, iz_T, iz_F, iz_y, iz_n, not_true_eq_false, not_false_eq_true, true_and, and_true, w32_e, w64_e, mset_e, mset_n, up_e, up_n, if_y, if_n, Int.add_zero, mk_1_m2, mk_1_0, mk_1_1, mk_1_2, mk_1_3, mk_1_4, mk_1_5, mk_1_6, mk_2_m2, mk_2_0, mk_2_1, mk_2_2, mk_2_3, mk_2_4, mk_2_5, mk_2_6, mk_2_7, mk_2_8, mk_2_9, mk_2_10, mk_3_m2, mk_3_0, mk_3_1, mk_3_2, mk_3_3, mk_3_4, mk_3_5, mk_4_m2, mk_4_m1, mk_5_m2, mk_5_m1, mk_11_m2, mk_11_m1, mk_42_m2, mk_42_m1, mk_73_m2, mk_73_0, mk_73_1, mk_73_2, mk_74_m2, mk_74_m1, mk_572_m2, mk_572_m1, mk_715_m2, mk_715_m1, mk_717_m2, mk_717_m1, mk_718_m2, mk_718_m1, mk_716_m2, mk_716_0, mk_716_1, mk_716_2, mk_716_3, mk_716_4, mk_719_m2, mk_74_at, mk_572_at, mk_715_at, mk_717_at, mk_718_at, mk_4_at, mk_5_at, mk_11_at, mk_42_at, mk_O_k, mk_O_0, mk_O_1, mk_O_2, mk_O_3, mk_L_k, mk_L_0, mk_L_1, mk_L_2, mk_L_3, mk_L_4, mk_L_5, mk_L_6, mk_L_7, mk_L_8, mk_L_9, mk_L_10, mk_X_k, mk_X_0, mk_X_1, mk_X_2, mk_X_3, mk_X_4, mk_75_k, mk_573_k, r_1_6, r_73_1, r_73_2, r_716_1, r_716_2, r_716_3, r_715, r_717, r_718, s_O0, s_O1, s_O2, s_O3, s_L0, s_L1, s_L2, s_L3, s_L4, s_L5, s_L6, s_L7, s_L8, s_L9, s_L10, s_X0, s_X1, s_X2, s_X3, s_X4, s_2_4, s_2_5, s_2_6, s_2_7, s_2_8, s_2_9, s_2_10, s_3_1, s_3_2, s_3_3, s_3_4, s_3_5, s_4]
          · simp only [to_bz, to_nz, to_cz, to_iz]
            simp (disch := omega) only [e1, e2, e3, e4, e5, e6, e7, e8, x1, dg, c12, dg2, c11, c13, s4, dg3, g1, bz_t, nz_t, cz_T, cz_t, iz_T, iz_F, iz_y, iz_n, not_true_eq_false, not_false_eq_true, true_and, and_true, w32_e, w64_e, mset_e, mset_n, up_e, up_n, if_y, if_n, Int.add_zero, mk_1_m2, mk_1_0, mk_1_1, mk_1_2, mk_1_3, mk_1_4, mk_1_5, mk_1_6, mk_2_m2, mk_2_0, mk_2_1, mk_2_2, mk_2_3, mk_2_4, mk_2_5, mk_2_6, mk_2_7, mk_2_8, mk_2_9, mk_2_10, mk_3_m2, mk_3_0, mk_3_1, mk_3_2, mk_3_3, mk_3_4, mk_3_5, mk_4_m2, mk_4_m1, mk_5_m2, mk_5_m1, mk_11_m2, mk_11_m1, mk_42_m2, mk_42_m1, mk_73_m2, mk_73_0, mk_73_1, mk_73_2, mk_74_m2, mk_74_m1, mk_572_m2, mk_572_m1, mk_715_m2, mk_715_m1, mk_717_m2, mk_717_m1, mk_718_m2, mk_718_m1, mk_716_m2, mk_716_0, mk_716_1, mk_716_2, mk_716_3, mk_716_4, mk_719_m2, mk_74_at, mk_572_at, mk_715_at, mk_717_at, mk_718_at, mk_4_at, mk_5_at, mk_11_at, mk_42_at, mk_O_k, mk_O_0, mk_O_1, mk_O_2, mk_O_3, mk_L_k, mk_L_0, mk_L_1, mk_L_2, mk_L_3, mk_L_4, mk_L_5, mk_L_6, mk_L_7, mk_L_8, mk_L_9, mk_L_10, mk_X_k, mk_X_0, mk_X_1, mk_X_2, mk_X_3, mk_X_4, mk_75_k, mk_573_k, r_1_6, r_73_1, r_73_2, r_716_1, r_716_2, r_716_3, r_715, r_717, r_718, s_O0, s_O1, s_O2, s_O3, s_L0, s_L1, s_L2, s_L3, s_L4, s_L5, s_L6, s_L7, s_L8, s_L9, s_L10, s_X0, s_X1, s_X2, s_X3, s_X4, s_2_4, s_2_5, s_2_6, s_2_7, s_2_8, s_2_9, s_2_10, s_3_1, s_3_2, s_3_3, s_3_4, s_3_5, s_4]
        · rw [k1] at g1
          rw [if_neg k2] at c11
          rcases hc with ⟨hx, hc⟩ | ⟨hx, hc⟩ <;> rw [hc] at g1
          · simp only [to_bz, to_nz, to_cz, to_iz]
            simp (disch := omega) only [e1, e2, e3, e4, e5, e6, e7, e8, x1, dg, c12, dg2, c11, c13, s4, dg3, g1, bz_t, nz_t, cz_T, cz_t, iz_T, iz_F, iz_y, iz_n, not_true_eq_false, not_false_eq_true, true_and, and_true, w32_e, w64_e, mset_e, mset_n, up_e, up_n, if_y, if_n, Int.add_zero, mk_1_m2, mk_1_0, mk_1_1, mk_1_2, mk_1_3, mk_1_4, mk_1_5, mk_1_6, mk_2_m2, mk_2_0, mk_2_1, mk_2_2, mk_2_3, mk_2_4, mk_2_5, mk_2_6, mk_2_7, mk_2_8, mk_2_9, mk_2_10, mk_3_m2, mk_3_0, mk_3_1, mk_3_2, mk_3_3, mk_3_4, mk_3_5, mk_4_m2, mk_4_m1, mk_5_m2, mk_5_m1, mk_11_m2, mk_11_m1, mk_42_m2, mk_42_m1, mk_73_m2, mk_73_0, mk_73_1, mk_73_2, mk_74_m2, mk_74_m1, mk_572_m2, mk_572_m1, mk_715_m2, mk_715_m1, mk_717_m2, mk_717_m1, mk_718_m2, mk_718_m1, mk_716_m2, mk_716_0, mk_716_1, mk_716_2, mk_716_3, mk_716_4, mk_719_m2, mk_74_at, mk_572_at, mk_715_at, mk_717_at, mk_718_at, mk_4_at, mk_5_at, mk_11_at, mk_42_at, mk_O_k, mk_O_0, mk_O_1, mk_O_2, mk_O_3, mk_L_k, mk_L_0, mk_L_1, mk_L_2, mk_L_3, mk_L_4, mk_L_5, mk_L_6, mk_L_7, mk_L_8, mk_L_9, mk_L_10, mk_X_k, mk_X_0, mk_X_1, mk_X_2, mk_X_3, mk_X_4, mk_75_k, mk_573_k, r_1_6, r_73_1, r_73_2, r_716_1, r_716_2, r_716_3, r_715, r_717, r_718, s_O0, s_O1, s_O2, s_O3, s_L0, s_L1, s_L2, s_L3, s_L4, s_L5, s_L6, s_L7, s_L8, s_L9, s_L10, s_X0, s_X1, s_X2, s_X3, s_X4, s_2_4, s_2_5, s_2_6, s_2_7, s_2_8, s_2_9, s_2_10, s_3_1, s_3_2, s_3_3, s_3_4, s_3_5, s_4]
          · simp only [to_bz, to_nz, to_cz, to_iz]
            simp (disch := omega) only [e1, e2, e3, e4, e5, e6, e7, e8, x1, dg, c12, dg2, c11, c13, s4, dg3, g1, bz_t, nz_t, cz_T, cz_t, iz_T, iz_F, iz_y, iz_n, not_true_eq_false, not_false_eq_true, true_and, and_true, w32_e, w64_e, mset_e, mset_n, up_e, up_n, if_y, if_n, Int.add_zero, mk_1_m2, mk_1_0, mk_1_1, mk_1_2, mk_1_3, mk_1_4, mk_1_5, mk_1_6, mk_2_m2, mk_2_0, mk_2_1, mk_2_2, mk_2_3, mk_2_4, mk_2_5, mk_2_6, mk_2_7, mk_2_8, mk_2_9, mk_2_10, mk_3_m2, mk_3_0, mk_3_1, mk_3_2, mk_3_3, mk_3_4, mk_3_5, mk_4_m2, mk_4_m1, mk_5_m2, mk_5_m1, mk_11_m2, mk_11_m1, mk_42_m2, mk_42_m1, mk_73_m2, mk_73_0, mk_73_1, mk_73_2, mk_74_m2, mk_74_m1, mk_572_m2, mk_572_m1, mk_715_m2, mk_715_m1, mk_717_m2, mk_717_m1, mk_718_m2, mk_718_m1, mk_716_m2, mk_716_0, mk_716_1, mk_716_2, mk_716_3, mk_716_4, mk_719_m2, mk_74_at, mk_572_at, mk_715_at, mk_717_at, mk_718_at, mk_4_at, mk_5_at, mk_11_at, mk_42_at, mk_O_k, mk_O_0, mk_O_1, mk_O_2, mk_O_3, mk_L_k, mk_L_0, mk_L_1, mk_L_2, mk_L_3, mk_L_4, mk_L_5, mk_L_6, mk_L_7, mk_L_8, mk_L_9, mk_L_10, mk_X_k, mk_X_0, mk_X_1, mk_X_2, mk_X_3, mk_X_4, mk_75_k, mk_573_k, r_1_6, r_73_1, r_73_2, r_716_1, r_716_2, r_716_3, r_715, r_717, r_718, s_O0, s_O1, s_O2, s_O3, s_L0, s_L1, s_L2, s_L3, s_L4, s_L5, s_L6, s_L7, s_L8, s_L9, s_L10, s_X0, s_X1, s_X2, s_X3, s_X4, s_2_4, s_2_5, s_2_6, s_2_7, s_2_8, s_2_9, s_2_10, s_3_1, s_3_2, s_3_3, s_3_4, s_3_5, s_4]
    · rw [uc9 s5]; exact q9
    · rw [rb_7, ← hB, mset_n (by omega), apA_7]; exact w7
end RUNS
