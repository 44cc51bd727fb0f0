/-! what one order is, and x's reading of it -/
def ch (T : Int → Int) (L : Int) : List (Int × Int) → Int → Int × Int
  | [], e => (if e = L ∨ T e = 59 then -1 else e, e)
  | z :: r, e => if nF T L e z.1 z.2 = -1 then ch T L r (te T L (e + 1)) else (nF T L e z.1 z.2, e)
def vls (T : Int → Int) (L : Int) : List (Int × Int) → Int → List Int
  | [], _ => []
  | z :: r, e => nb T (e + 1) (te T L (e + 1)) z.1 z.2 :: vls T L r (te T L (e + 1))
def plc (k : Int) : List (Int × Int) := if k = 0 then [(0, 4), (0, 5), (1, 1000000), (0, 10000000)] else if k = 4 then [(0, 29)] else if k = 6 then [(0, 29), (0, 4)] else if k = 7 then [(1, 100)] else [(0, 29), (1, 1000000)]
def oW (T : Int → Int) (L p : Int) : Int := wd0 T p (te T L p)
def oF (T : Int → Int) (L p : Int) : Int := if oW T L p = -1 then p else (ch T L (plc (oW T L p)) (te T L p)).1
def oE (T : Int → Int) (L p : Int) : Int := (ch T L (plc (oW T L p)) (te T L p)).2
def oN (T : Int → Int) (L p : Int) (j : Nat) : Int := (vls T L (plc (oW T L p)) (te T L p)).getD j 0
def fF (T : Int → Int) (L : Int) : Nat → Int → Int
  | 0, p => p
  | n + 1, p => if oF T L p = -1 then (if oE T L p = L then -1 else fF T L n (oE T L p + 1)) else oF T L p
/-- alike but for what x's reader writes -/
def xG (a a' : Mm) : Prop := ∀ r k, r ≠ 718 → ¬ (r = 716 ∧ (k = 2 ∨ k = 3)) → a' r k = a r k
section XREAD
variable {N : Nat} (v : Int → Int) (c : Int → Int → Int) (w : Int → Int) {T : Int → Int} {L : Int}
theorem wd_b {p e : Int} : wd0 T p e = -1 ∨ (0 ≤ wd0 T p e ∧ wd0 T p e ≤ 7 ∧ p + 4 ≤ e) := by
  unfold wd0 wd1 wd2 wd3 wd4 wd5 wd6 wd7
  (repeat' split) <;> first | (left; rfl) | (right; omega)
theorem nF_b {p lo hi : Int} (h : p ≤ L) : nF T L p lo hi = -1 ∨ (nF T L p lo hi ≠ -1 ∧ p ≤ nF T L p lo hi ∧ nF T L p lo hi ≤ L) ∨ p < 0 := by
  unfold nF
  by_cases h0 : p < 0
  · right; right; exact h0
  · (repeat' split) <;> first | (left; rfl) | (right; left; omega)
theorem nF_ok {p lo hi : Int} (h : nF T L p lo hi = -1) (h0 : 0 ≤ p) : p ≠ L ∧ T p = 32 ∧ nb T (p + 1) (te T L (p + 1)) lo hi ≠ -1 := by
  unfold nF at h
  by_cases e : p = L
  · rw [if_pos e] at h; omega
  · rw [if_neg e] at h
    by_cases q : T p = 32
    · rw [if_pos q] at h
      by_cases z : nb T (p + 1) (te T L (p + 1)) lo hi = -1
      · rw [if_pos z] at h; omega
      · exact ⟨e, q, z⟩
    · rw [if_neg q] at h; omega
theorem ch_b : ∀ (r : List (Int × Int)) (e : Int), 0 ≤ e → e ≤ L → e ≤ (ch T L r e).2 ∧ (ch T L r e).2 ≤ L ∧ (((ch T L r e).1 = -1 ∧ ((ch T L r e).2 = L ∨ T (ch T L r e).2 = 59)) ∨ (0 ≤ (ch T L r e).1 ∧ (ch T L r e).1 ≤ L)) := by
  intro r
  induction r with
  | nil =>
    intro e h0 h1
    unfold ch
    refine ⟨Int.le_refl _, h1, ?_⟩
    by_cases q : e = L ∨ T e = 59
    · rw [if_pos q]; exact Or.inl ⟨rfl, q⟩
    · rw [if_neg q]; exact Or.inr ⟨h0, h1⟩
  | cons z r ih =>
    intro e h0 h1
    unfold ch
    by_cases q : nF T L e z.1 z.2 = -1
    · rw [if_pos q]
      obtain ⟨n1, n2, n3⟩ := nF_ok q h0
      have b := te_b (T := T) (L := L) (i := e + 1) (by omega)
      obtain ⟨i1, i2, i3⟩ := ih (te T L (e + 1)) (by omega) (by omega)
      exact ⟨by omega, i2, i3⟩
    · rw [if_neg q]
      have b := nF_b (T := T) (L := L) (p := e) (lo := z.1) (hi := z.2) h1
      refine ⟨Int.le_refl _, h1, Or.inr ?_⟩
      show 0 ≤ nF T L e z.1 z.2 ∧ nF T L e z.1 z.2 ≤ L
      omega
theorem oF_b {p : Int} (h0 : 0 ≤ p) (h1 : p ≤ L) : (oF T L p = -1 ∧ 0 ≤ oW T L p ∧ oW T L p ≤ 7 ∧ p + 4 ≤ oE T L p ∧ oE T L p ≤ L ∧ (oE T L p = L ∨ T (oE T L p) = 59)) ∨ (oF T L p ≠ -1 ∧ 0 ≤ oF T L p ∧ oF T L p ≤ L) := by
  have b := te_b (T := T) (L := L) (i := p) h1
  have d : oW T L p = -1 ∨ (0 ≤ oW T L p ∧ oW T L p ≤ 7 ∧ p + 4 ≤ te T L p) := wd_b
  have cb := ch_b (T := T) (L := L) (plc (oW T L p)) (te T L p) (by omega) b.2
  unfold oF oE
  by_cases q : oW T L p = -1
  · rw [if_pos q]; right; omega
  · rw [if_neg q]
    rcases cb.2.2 with z | z
    · left; exact ⟨z.1, by omega, by omega, by omega, cb.2.1, z.2⟩
    · right; omega
theorem xG_i {a : Mm} : xG a a := fun _ _ _ _ => rfl
theorem xG_t {a b d : Mm} (h : xG a b) (g : xG b d) : xG a d := fun r k h1 h2 => (g r k h1 h2).trans (h r k h1 h2)
theorem xG_P {a b : Mm} {p q p' q' : Int} (h : ∀ r k, r ≠ 718 → b r k = a r k) : xG (xP a p q) (xP b p' q') := fun r k h1 h2 => by
  have e : r ≠ 716 ∨ (k ≠ 2 ∧ k ≠ 3) := by omega
  rw [xP_o e, xP_o e]; exact h r k h1
/-- one number of an order -/
theorem b47_ok (hN : 5000 ≤ N) {b : Mm} {s i m cc lo hi e q : Int} (hL : b 716 1 = L) (hr : 0 ≤ L ∧ L ≤ 80) (hT : ∀ i, 0 ≤ i ∧ i < L → b 717 i = T i) (hs : s < 0) (hk : m0 s (-2) = 11) (hl : ∀ a, f_J0_length_8abf5 N s (mk v c w a) = some (m, mk v c w a))
    (hc : ∀ a, f_J0_charAt_5068e N s i (mk v c w a) = some (cc, mk v c w a)) (lm : ∀ μ, f_X3_leastAt N cc μ = some (lo, μ) ∧ f_X3_mostAt N cc μ = some (hi, μ)) (hb : 0 ≤ lo ∧ hi ≤ 10000000) (hi' : 0 ≤ i ∧ i < m ∧ m ≤ 4) (he : 0 ≤ e ∧ e ≤ L) (n : Nat) (f : nF T L e lo hi = -1) :
    f_X3_readOrder_b47 N (n + 1) 716 s i (mk v c w (xP b e q)) = f_X3_readOrder_b47 N n 716 s (i + 1) (mk v c w (xP (mset b 718 i (nb T (e + 1) (te T L (e + 1)) lo hi)) (te T L (e + 1)) q)) := by
  obtain ⟨f1, f2, f3⟩ := nF_ok f he.1
  have t := hT e (by omega)
  have te1 := te_b (T := T) (L := L) (i := e + 1) (by omega)
  have g1 := A_eot v c w (N := N) (a := xP b (e + 1) q) (T := T) (L := L) hN (by rw [xP_o (by omega)]; exact hL) hr (fun i hi => by rw [xP_o (by omega)]; exact hT i hi) (i := e + 1) (by omega)
  have g2 := A_num v c w (N := N) (a := xP b (e + 1) q) (T := T) (L := L) (p := e + 1) (e := te T L (e + 1)) hN hr (fun i hi => by rw [xP_o (by omega)]; exact hT i hi) (by omega) te1.2 hb lm
  have g3 := hl (xP b e q)
  have g4 := hc (xP b (e + 1) q)
  rw [f_X3_readOrder_b47]
  unfold f_X3_atEnd
  simp only [to_bz, to_nz, to_cz, to_iz]
  simp (disch := omega) only [mk_neg, hk, hL, t, g1, g2, g3, g4, xP_2, xP_3, xP_o, xP_s2, xP_s3, xP_s, bz_t, nz_t, cz_T, cz_t, iz_T, iz_F, iz_y, iz_n, not_true_eq_false, not_false_eq_true, true_and, and_true, w32_e, w64_e, mset_e, mset_n, up_e, up_n, if_y, if_n, Int.add_zero, mk_1_m2, mk_1_0, mk_1_1, mk_1_2, mk_1_3, mk_1_4, mk_1_5, mk_1_6, mk_2_m2, mk_2_0, mk_2_1, mk_2_2, mk_2_3, mk_2_4, mk_2_5, mk_2_6, mk_2_7, mk_2_8, mk_2_9, mk_2_10, mk_3_m2, mk_3_0, mk_3_1, mk_3_2, mk_3_3, mk_3_4, mk_3_5, mk_4_m2, mk_4_m1, mk_5_m2, mk_5_m1, mk_11_m2, mk_11_m1, mk_42_m2, mk_42_m1, mk_73_m2, mk_73_0, mk_73_1, mk_73_2, mk_74_m2, mk_74_m1, mk_572_m2, mk_572_m1, mk_715_m2, mk_715_m1, mk_717_m2, mk_717_m1, mk_718_m2, mk_718_m1, mk_716_m2, mk_716_0, mk_716_1, mk_716_2, mk_716_3, mk_716_4, mk_719_m2, mk_74_at, mk_572_at, mk_715_at, mk_717_at, mk_718_at, mk_4_at, mk_5_at, mk_11_at, mk_42_at, mk_O_k, mk_O_0, mk_O_1, mk_O_2, mk_O_3, mk_L_k, mk_L_0, mk_L_1, mk_L_2, mk_L_3, mk_L_4, mk_L_5, mk_L_6, mk_L_7, mk_L_8, mk_L_9, mk_L_10, mk_X_k, mk_X_0, mk_X_1, mk_X_2, mk_X_3, mk_X_4, mk_75_k, mk_573_k, r_1_6, r_73_1, r_73_2, r_716_1, r_716_2, r_716_3, r_715, r_717, r_718, s_O0, s_O1, s_O2, s_O3, s_L0, s_L1, s_L2, s_L3, s_L4, s_L5, s_L6, s_L7, s_L8, s_L9, s_L10, s_X0, s_X1, s_X2, s_X3, s_X4, s_2_4, s_2_5, s_2_6, s_2_7, s_2_8, s_2_9, s_2_10, s_3_1, s_3_2, s_3_3, s_3_4, s_3_5, s_4]
theorem b47_no (hN : 5000 ≤ N) {b : Mm} {s i m cc lo hi e q : Int} (hL : b 716 1 = L) (hr : 0 ≤ L ∧ L ≤ 80) (hT : ∀ i, 0 ≤ i ∧ i < L → b 717 i = T i) (hs : s < 0) (hk : m0 s (-2) = 11) (hl : ∀ a, f_J0_length_8abf5 N s (mk v c w a) = some (m, mk v c w a))
    (hc : ∀ a, f_J0_charAt_5068e N s i (mk v c w a) = some (cc, mk v c w a)) (lm : ∀ μ, f_X3_leastAt N cc μ = some (lo, μ) ∧ f_X3_mostAt N cc μ = some (hi, μ)) (hb : 0 ≤ lo ∧ hi ≤ 10000000) (hi' : 0 ≤ i ∧ i < m ∧ m ≤ 4) (he : 0 ≤ e ∧ e ≤ L) (n : Nat) (f : nF T L e lo hi ≠ -1) :
    ∃ b', f_X3_readOrder_b47 N (n + 1) 716 s i (mk v c w (xP b e q)) = some (0, mk v c w (xP b' (nF T L e lo hi) q)) ∧ (∀ r k, r ≠ 718 → b' r k = b r k) ∧ (∀ j, j ≠ i → b' 718 j = b 718 j) := by
  have g3 := hl (xP b e q)
  by_cases e1 : e = L
  · refine ⟨b, ?_, fun _ _ _ => rfl, fun _ _ => rfl⟩
    rw [show nF T L e lo hi = e from if_pos e1, f_X3_readOrder_b47]
    unfold f_X3_atEnd
    simp only [to_bz, to_nz, to_cz, to_iz]
    simp (disch := omega) only [mk_neg, hk, hL, g3, xP_2, xP_3, xP_o, xP_s2, xP_s3, xP_s, bz_t, nz_t, cz_T, cz_t, iz_T, iz_F, iz_y, iz_n, not_true_eq_false, not_false_eq_true, true_and, and_true, w32_e, w64_e, mset_e, mset_n, up_e, up_n, if_y, if_n, Int.add_zero, mk_1_m2, mk_1_0, mk_1_1, mk_1_2, mk_1_3, mk_1_4, mk_1_5, mk_1_6, mk_2_m2, mk_2_0, mk_2_1, mk_2_2, mk_2_3, mk_2_4, mk_2_5, mk_2_6, mk_2_7, mk_2_8, mk_2_9, mk_2_10, mk_3_m2, mk_3_0, mk_3_1, mk_3_2, mk_3_3, mk_3_4, mk_3_5, mk_4_m2, mk_4_m1, mk_5_m2, mk_5_m1, mk_11_m2, mk_11_m1, mk_42_m2, mk_42_m1, mk_73_m2, mk_73_0, mk_73_1, mk_73_2, mk_74_m2, mk_74_m1, mk_572_m2, mk_572_m1, mk_715_m2, mk_715_m1, mk_717_m2, mk_717_m1, mk_718_m2, mk_718_m1, mk_716_m2, mk_716_0, mk_716_1, mk_716_2, mk_716_3, mk_716_4, mk_719_m2, mk_74_at, mk_572_at, mk_715_at, mk_717_at, mk_718_at, mk_4_at, mk_5_at, mk_11_at, mk_42_at, mk_O_k, mk_O_0, mk_O_1, mk_O_2, mk_O_3, mk_L_k, mk_L_0, mk_L_1, mk_L_2, mk_L_3, mk_L_4, mk_L_5, mk_L_6, mk_L_7, mk_L_8, mk_L_9, mk_L_10, mk_X_k, mk_X_0, mk_X_1, mk_X_2, mk_X_3, mk_X_4, mk_75_k, mk_573_k, r_1_6, r_73_1, r_73_2, r_716_1, r_716_2, r_716_3, r_715, r_717, r_718, s_O0, s_O1, s_O2, s_O3, s_L0, s_L1, s_L2, s_L3, s_L4, s_L5, s_L6, s_L7, s_L8, s_L9, s_L10, s_X0, s_X1, s_X2, s_X3, s_X4, s_2_4, s_2_5, s_2_6, s_2_7, s_2_8, s_2_9, s_2_10, s_3_1, s_3_2, s_3_3, s_3_4, s_3_5, s_4]
  · have t := hT e (by omega)
    by_cases e2 : T e = 32
    · have e3 : nb T (e + 1) (te T L (e + 1)) lo hi = -1 := by
        by_cases z : nb T (e + 1) (te T L (e + 1)) lo hi = -1
        · exact z
        · exact absurd (show nF T L e lo hi = -1 from by unfold nF; rw [if_neg e1, if_pos e2, if_neg z]) f
      have te1 := te_b (T := T) (L := L) (i := e + 1) (by omega)
      have g1 := A_eot v c w (N := N) (a := xP b (e + 1) q) (T := T) (L := L) hN (by rw [xP_o (by omega)]; exact hL) hr (fun i hi => by rw [xP_o (by omega)]; exact hT i hi) (i := e + 1) (by omega)
      have g2 := A_num v c w (N := N) (a := xP b (e + 1) q) (T := T) (L := L) (p := e + 1) (e := te T L (e + 1)) hN hr (fun i hi => by rw [xP_o (by omega)]; exact hT i hi) (by omega) te1.2 hb lm
      rw [e3] at g2
      have g4 := hc (xP b (e + 1) q)
      refine ⟨mset b 718 i (-1), ?_, fun r k h => mset_n (Or.inl h), fun j h => mset_n (Or.inr h)⟩
      rw [show nF T L e lo hi = e + 1 from by unfold nF; rw [if_neg e1, if_pos e2, if_pos e3], f_X3_readOrder_b47]
      unfold f_X3_atEnd
      simp only [to_bz, to_nz, to_cz, to_iz]
      simp (disch := omega) only [mk_neg, hk, hL, t, g1, g2, g3, g4, xP_2, xP_3, xP_o, xP_s2, xP_s3, xP_s, bz_t, nz_t, cz_T, cz_t, iz_T, iz_F, iz_y, iz_n, not_true_eq_false, not_false_eq_true, true_and, and_true, w32_e, w64_e, mset_e, mset_n, up_e, up_n, if_y, if_n, Int.add_zero, mk_1_m2, mk_1_0, mk_1_1, mk_1_2, mk_1_3, mk_1_4, mk_1_5, mk_1_6, mk_2_m2, mk_2_0, mk_2_1, mk_2_2, mk_2_3, mk_2_4, mk_2_5, mk_2_6, mk_2_7, mk_2_8, mk_2_9, mk_2_10, mk_3_m2, mk_3_0, mk_3_1, mk_3_2, mk_3_3, mk_3_4, mk_3_5, mk_4_m2, mk_4_m1, mk_5_m2, mk_5_m1, mk_11_m2, mk_11_m1, mk_42_m2, mk_42_m1, mk_73_m2, mk_73_0, mk_73_1, mk_73_2, mk_74_m2, mk_74_m1, mk_572_m2, mk_572_m1, mk_715_m2, mk_715_m1, mk_717_m2, mk_717_m1, mk_718_m2, mk_718_m1, mk_716_m2, mk_716_0, mk_716_1, mk_716_2, mk_716_3, mk_716_4, mk_719_m2, mk_74_at, mk_572_at, mk_715_at, mk_717_at, mk_718_at, mk_4_at, mk_5_at, mk_11_at, mk_42_at, mk_O_k, mk_O_0, mk_O_1, mk_O_2, mk_O_3, mk_L_k, mk_L_0, mk_L_1, mk_L_2, mk_L_3, mk_L_4, mk_L_5, mk_L_6, mk_L_7, mk_L_8, mk_L_9, mk_L_10, mk_X_k, mk_X_0, mk_X_1, mk_X_2, mk_X_3, mk_X_4, mk_75_k, mk_573_k, r_1_6, r_73_1, r_73_2, r_716_1, r_716_2, r_716_3, r_715, r_717, r_718, s_O0, s_O1, s_O2, s_O3, s_L0, s_L1, s_L2, s_L3, s_L4, s_L5, s_L6, s_L7, s_L8, s_L9, s_L10, s_X0, s_X1, s_X2, s_X3, s_X4, s_2_4, s_2_5, s_2_6, s_2_7, s_2_8, s_2_9, s_2_10, s_3_1, s_3_2, s_3_3, s_3_4, s_3_5, s_4]
    · refine ⟨b, ?_, fun _ _ _ => rfl, fun _ _ => rfl⟩
      rw [show nF T L e lo hi = e from by unfold nF; rw [if_neg e1, if_neg e2], f_X3_readOrder_b47]
      unfold f_X3_atEnd
      simp only [to_bz, to_nz, to_cz, to_iz]
      simp (disch := omega) only [mk_neg, hk, hL, t, g3, xP_2, xP_3, xP_o, xP_s2, xP_s3, xP_s, bz_t, nz_t, cz_T, cz_t, iz_T, iz_F, iz_y, iz_n, not_true_eq_false, not_false_eq_true, true_and, and_true, w32_e, w64_e, mset_e, mset_n, up_e, up_n, if_y, if_n, Int.add_zero, mk_1_m2, mk_1_0, mk_1_1, mk_1_2, mk_1_3, mk_1_4, mk_1_5, mk_1_6, mk_2_m2, mk_2_0, mk_2_1, mk_2_2, mk_2_3, mk_2_4, mk_2_5, mk_2_6, mk_2_7, mk_2_8, mk_2_9, mk_2_10, mk_3_m2, mk_3_0, mk_3_1, mk_3_2, mk_3_3, mk_3_4, mk_3_5, mk_4_m2, mk_4_m1, mk_5_m2, mk_5_m1, mk_11_m2, mk_11_m1, mk_42_m2, mk_42_m1, mk_73_m2, mk_73_0, mk_73_1, mk_73_2, mk_74_m2, mk_74_m1, mk_572_m2, mk_572_m1, mk_715_m2, mk_715_m1, mk_717_m2, mk_717_m1, mk_718_m2, mk_718_m1, mk_716_m2, mk_716_0, mk_716_1, mk_716_2, mk_716_3, mk_716_4, mk_719_m2, mk_74_at, mk_572_at, mk_715_at, mk_717_at, mk_718_at, mk_4_at, mk_5_at, mk_11_at, mk_42_at, mk_O_k, mk_O_0, mk_O_1, mk_O_2, mk_O_3, mk_L_k, mk_L_0, mk_L_1, mk_L_2, mk_L_3, mk_L_4, mk_L_5, mk_L_6, mk_L_7, mk_L_8, mk_L_9, mk_L_10, mk_X_k, mk_X_0, mk_X_1, mk_X_2, mk_X_3, mk_X_4, mk_75_k, mk_573_k, r_1_6, r_73_1, r_73_2, r_716_1, r_716_2, r_716_3, r_715, r_717, r_718, s_O0, s_O1, s_O2, s_O3, s_L0, s_L1, s_L2, s_L3, s_L4, s_L5, s_L6, s_L7, s_L8, s_L9, s_L10, s_X0, s_X1, s_X2, s_X3, s_X4, s_2_4, s_2_5, s_2_6, s_2_7, s_2_8, s_2_9, s_2_10, s_3_1, s_3_2, s_3_3, s_3_4, s_3_5, s_4]
theorem b47_e {b : Mm} {s m e q : Int} (hL : b 716 1 = L) (hr : 0 ≤ L ∧ L ≤ 80) (hT : ∀ i, 0 ≤ i ∧ i < L → b 717 i = T i) (hs : s < 0) (hk : m0 s (-2) = 11) (hl : ∀ a, f_J0_length_8abf5 N s (mk v c w a) = some (m, mk v c w a)) (he : 0 ≤ e ∧ e ≤ L) (n : Nat) :
    f_X3_readOrder_b47 N (n + 1) 716 s m (mk v c w (xP b e q)) = some (if e = L ∨ T e = 59 then 1 else 0, mk v c w (xP b e q)) := by
  have g3 := hl (xP b e q)
  by_cases e1 : e = L
  · rw [if_pos (Or.inl e1), f_X3_readOrder_b47]
    unfold f_X3_readOrder_b145 f_X3_atEnd
    simp only [to_bz, to_nz, to_cz, to_iz]
    simp (disch := omega) only [mk_neg, hk, hL, g3, xP_2, xP_3, xP_o, xP_s2, xP_s3, xP_s, bz_t, nz_t, cz_T, cz_t, iz_T, iz_F, iz_y, iz_n, not_true_eq_false, not_false_eq_true, true_and, and_true, w32_e, w64_e, mset_e, mset_n, up_e, up_n, if_y, if_n, Int.add_zero, mk_1_m2, mk_1_0, mk_1_1, mk_1_2, mk_1_3, mk_1_4, mk_1_5, mk_1_6, mk_2_m2, mk_2_0, mk_2_1, mk_2_2, mk_2_3, mk_2_4, mk_2_5, mk_2_6, mk_2_7, mk_2_8, mk_2_9, mk_2_10, mk_3_m2, mk_3_0, mk_3_1, mk_3_2, mk_3_3, mk_3_4, mk_3_5, mk_4_m2, mk_4_m1, mk_5_m2, mk_5_m1, mk_11_m2, mk_11_m1, mk_42_m2, mk_42_m1, mk_73_m2, mk_73_0, mk_73_1, mk_73_2, mk_74_m2, mk_74_m1, mk_572_m2, mk_572_m1, mk_715_m2, mk_715_m1, mk_717_m2, mk_717_m1, mk_718_m2, mk_718_m1, mk_716_m2, mk_716_0, mk_716_1, mk_716_2, mk_716_3, mk_716_4, mk_719_m2, mk_74_at, mk_572_at, mk_715_at, mk_717_at, mk_718_at, mk_4_at, mk_5_at, mk_11_at, mk_42_at, mk_O_k, mk_O_0, mk_O_1, mk_O_2, mk_O_3, mk_L_k, mk_L_0, mk_L_1, mk_L_2, mk_L_3, mk_L_4, mk_L_5, mk_L_6, mk_L_7, mk_L_8, mk_L_9, mk_L_10, mk_X_k, mk_X_0, mk_X_1, mk_X_2, mk_X_3, mk_X_4, mk_75_k, mk_573_k, r_1_6, r_73_1, r_73_2, r_716_1, r_716_2, r_716_3, r_715, r_717, r_718, s_O0, s_O1, s_O2, s_O3, s_L0, s_L1, s_L2, s_L3, s_L4, s_L5, s_L6, s_L7, s_L8, s_L9, s_L10, s_X0, s_X1, s_X2, s_X3, s_X4, s_2_4, s_2_5, s_2_6, s_2_7, s_2_8, s_2_9, s_2_10, s_3_1, s_3_2, s_3_3, s_3_4, s_3_5, s_4]
  · have t := hT e (by omega)
    by_cases e2 : T e = 59
    · rw [if_pos (Or.inr e2), f_X3_readOrder_b47]
      unfold f_X3_readOrder_b145 f_X3_atEnd
      simp only [to_bz, to_nz, to_cz, to_iz]
      simp (disch := omega) only [mk_neg, hk, hL, t, g3, xP_2, xP_3, xP_o, xP_s2, xP_s3, xP_s, bz_t, nz_t, cz_T, cz_t, iz_T, iz_F, iz_y, iz_n, not_true_eq_false, not_false_eq_true, true_and, and_true, w32_e, w64_e, mset_e, mset_n, up_e, up_n, if_y, if_n, Int.add_zero, mk_1_m2, mk_1_0, mk_1_1, mk_1_2, mk_1_3, mk_1_4, mk_1_5, mk_1_6, mk_2_m2, mk_2_0, mk_2_1, mk_2_2, mk_2_3, mk_2_4, mk_2_5, mk_2_6, mk_2_7, mk_2_8, mk_2_9, mk_2_10, mk_3_m2, mk_3_0, mk_3_1, mk_3_2, mk_3_3, mk_3_4, mk_3_5, mk_4_m2, mk_4_m1, mk_5_m2, mk_5_m1, mk_11_m2, mk_11_m1, mk_42_m2, mk_42_m1, mk_73_m2, mk_73_0, mk_73_1, mk_73_2, mk_74_m2, mk_74_m1, mk_572_m2, mk_572_m1, mk_715_m2, mk_715_m1, mk_717_m2, mk_717_m1, mk_718_m2, mk_718_m1, mk_716_m2, mk_716_0, mk_716_1, mk_716_2, mk_716_3, mk_716_4, mk_719_m2, mk_74_at, mk_572_at, mk_715_at, mk_717_at, mk_718_at, mk_4_at, mk_5_at, mk_11_at, mk_42_at, mk_O_k, mk_O_0, mk_O_1, mk_O_2, mk_O_3, mk_L_k, mk_L_0, mk_L_1, mk_L_2, mk_L_3, mk_L_4, mk_L_5, mk_L_6, mk_L_7, mk_L_8, mk_L_9, mk_L_10, mk_X_k, mk_X_0, mk_X_1, mk_X_2, mk_X_3, mk_X_4, mk_75_k, mk_573_k, r_1_6, r_73_1, r_73_2, r_716_1, r_716_2, r_716_3, r_715, r_717, r_718, s_O0, s_O1, s_O2, s_O3, s_L0, s_L1, s_L2, s_L3, s_L4, s_L5, s_L6, s_L7, s_L8, s_L9, s_L10, s_X0, s_X1, s_X2, s_X3, s_X4, s_2_4, s_2_5, s_2_6, s_2_7, s_2_8, s_2_9, s_2_10, s_3_1, s_3_2, s_3_3, s_3_4, s_3_5, s_4]
    · rw [if_neg (show ¬ (e = L ∨ T e = 59) by omega), f_X3_readOrder_b47]
      unfold f_X3_readOrder_b145 f_X3_atEnd
      simp only [to_bz, to_nz, to_cz, to_iz]
      simp (disch := omega) only [mk_neg, hk, hL, t, g3, xP_2, xP_3, xP_o, xP_s2, xP_s3, xP_s, bz_t, nz_t, cz_T, cz_t, iz_T, iz_F, iz_y, iz_n, not_true_eq_false, not_false_eq_true, true_and, and_true, w32_e, w64_e, mset_e, mset_n, up_e, up_n, if_y, if_n, Int.add_zero, mk_1_m2, mk_1_0, mk_1_1, mk_1_2, mk_1_3, mk_1_4, mk_1_5, mk_1_6, mk_2_m2, mk_2_0, mk_2_1, mk_2_2, mk_2_3, mk_2_4, mk_2_5, mk_2_6, mk_2_7, mk_2_8, mk_2_9, mk_2_10, mk_3_m2, mk_3_0, mk_3_1, mk_3_2, mk_3_3, mk_3_4, mk_3_5, mk_4_m2, mk_4_m1, mk_5_m2, mk_5_m1, mk_11_m2, mk_11_m1, mk_42_m2, mk_42_m1, mk_73_m2, mk_73_0, mk_73_1, mk_73_2, mk_74_m2, mk_74_m1, mk_572_m2, mk_572_m1, mk_715_m2, mk_715_m1, mk_717_m2, mk_717_m1, mk_718_m2, mk_718_m1, mk_716_m2, mk_716_0, mk_716_1, mk_716_2, mk_716_3, mk_716_4, mk_719_m2, mk_74_at, mk_572_at, mk_715_at, mk_717_at, mk_718_at, mk_4_at, mk_5_at, mk_11_at, mk_42_at, mk_O_k, mk_O_0, mk_O_1, mk_O_2, mk_O_3, mk_L_k, mk_L_0, mk_L_1, mk_L_2, mk_L_3, mk_L_4, mk_L_5, mk_L_6, mk_L_7, mk_L_8, mk_L_9, mk_L_10, mk_X_k, mk_X_0, mk_X_1, mk_X_2, mk_X_3, mk_X_4, mk_75_k, mk_573_k, r_1_6, r_73_1, r_73_2, r_716_1, r_716_2, r_716_3, r_715, r_717, r_718, s_O0, s_O1, s_O2, s_O3, s_L0, s_L1, s_L2, s_L3, s_L4, s_L5, s_L6, s_L7, s_L8, s_L9, s_L10, s_X0, s_X1, s_X2, s_X3, s_X4, s_2_4, s_2_5, s_2_6, s_2_7, s_2_8, s_2_9, s_2_10, s_3_1, s_3_2, s_3_3, s_3_4, s_3_5, s_4]
def po (z : Int × Int) : Int := if z.1 = -1 then z.2 else z.1
def bo (z : Int × Int) : Int := if z.1 = -1 then 1 else 0
theorem l_b47 (hN : 5000 ≤ N) {s m q : Int} (hr : 0 ≤ L ∧ L ≤ 80) (hs : s < 0) (hk : m0 s (-2) = 11) (hl : ∀ a, f_J0_length_8abf5 N s (mk v c w a) = some (m, mk v c w a)) (hm : m ≤ 4) (n : Nat) :
    ∀ (r : List (Int × Int)) (i : Int) (b : Mm) (e : Int), b 716 1 = L → (∀ i, 0 ≤ i ∧ i < L → b 717 i = T i) → 0 ≤ i → i + r.length = m → 0 ≤ e ∧ e ≤ L →
      (∀ j : Nat, j < r.length → ∃ cc, (∀ a, f_J0_charAt_5068e N s (i + j) (mk v c w a) = some (cc, mk v c w a)) ∧ (∀ μ, f_X3_leastAt N cc μ = some ((r.getD j (0, 0)).1, μ) ∧ f_X3_mostAt N cc μ = some ((r.getD j (0, 0)).2, μ)) ∧ 0 ≤ (r.getD j (0, 0)).1 ∧ (r.getD j (0, 0)).2 ≤ 10000000) →
      ∃ b', f_X3_readOrder_b47 N (n + r.length + 1) 716 s i (mk v c w (xP b e q)) = some (bo (ch T L r e), mk v c w (xP b' (po (ch T L r e)) q)) ∧ (∀ r k, r ≠ 718 → b' r k = b r k) ∧ (∀ j, j < i → b' 718 j = b 718 j) ∧
        ((ch T L r e).1 = -1 → ∀ j : Nat, j < r.length → b' 718 (i + j) = (vls T L r e).getD j 0) := by
  intro r
  induction r with
  | nil =>
    intro i b e hL hT h0 hi he _
    have hi2 : i = m := by
      have : ([] : List (Int × Int)).length = 0 := rfl
      omega
    subst hi2
    have x := b47_e v c w (N := N) (T := T) (q := q) hL hr hT hs hk hl he n
    refine ⟨b, ?_, fun _ _ _ => rfl, fun _ _ => rfl, fun _ j hj => absurd hj (Nat.not_lt_zero j)⟩
    show f_X3_readOrder_b47 N (n + 1) 716 s i (mk v c w (xP b e q)) = _
    rw [x]
    unfold ch bo po
    dsimp only
    by_cases z : e = L ∨ T e = 59
    · rw [if_pos z, if_pos z, if_pos rfl, if_pos rfl]
    · rw [if_neg z, if_neg z, if_neg (by omega), if_neg (by omega)]
  | cons z r ih =>
    intro i b e hL hT h0 hi he H
    have hlen : (z :: r).length = r.length + 1 := rfl
    obtain ⟨cc, H1, H2, H3⟩ := H 0 (by omega)
    rw [show (z :: r).getD 0 (0, 0) = z from rfl] at H2 H3
    rw [show i + ((0 : Nat) : Int) = i from by omega] at H1
    by_cases f : nF T L e z.1 z.2 = -1
    · obtain ⟨f1, f2, f3⟩ := nF_ok f he.1
      have te1 := te_b (T := T) (L := L) (i := e + 1) (by omega)
      have x := b47_ok v c w (N := N) (T := T) (q := q) hN hL hr hT hs hk hl H1 H2 H3 (i := i) (by omega) he (n + r.length + 1) f
      obtain ⟨b', y1, y2, y3, y4⟩ := ih (i + 1) (mset b 718 i (nb T (e + 1) (te T L (e + 1)) z.1 z.2)) (te T L (e + 1)) (by rw [mset_n (by omega)]; exact hL) (fun i hi => by rw [mset_n (by omega)]; exact hT i hi) (by omega) (by omega) (by omega)
        (fun j hj => by
          obtain ⟨d, G1, G2, G3⟩ := H (j + 1) (by omega)
          rw [show (z :: r).getD (j + 1) (0, 0) = r.getD j (0, 0) from rfl] at G2 G3
          rw [show i + ((j + 1 : Nat) : Int) = i + 1 + (j : Int) from by omega] at G1
          exact ⟨d, G1, G2, G3⟩)
      have ec : ch T L (z :: r) e = ch T L r (te T L (e + 1)) := if_pos f
      rw [ec]
      refine ⟨b', x.trans y1, fun r k h => (y2 r k h).trans (mset_n (Or.inl h)), fun j hj => (y3 j (by omega)).trans (mset_n (Or.inr (by omega))), fun g j hj => ?_⟩
      cases j with
      | zero =>
        rw [show i + ((0 : Nat) : Int) = i from by omega, y3 i (by omega), mset_e]; rfl
      | succ j =>
        rw [show i + ((j + 1 : Nat) : Int) = i + 1 + (j : Int) from by omega]
        exact y4 g j (by omega)
    · obtain ⟨b', x, x2, x3⟩ := b47_no v c w (N := N) (T := T) (q := q) hN hL hr hT hs hk hl H1 H2 H3 (i := i) (by omega) he (n + r.length + 1) f
      have ec : ch T L (z :: r) e = (nF T L e z.1 z.2, e) := if_neg f
      rw [ec]
      refine ⟨b', ?_, x2, fun j hj => x3 j (by omega), fun g => absurd g f⟩
      refine x.trans ?_
      unfold bo po
      dsimp only
      rw [if_neg f, if_neg f]
end XREAD
