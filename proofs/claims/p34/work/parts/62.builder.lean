/-! x's builder -/
def zB (a : Mm) : Prop := (a 719 0 = 720 ∨ 721 ≤ a 719 0) ∧ a 719 0 ≤ a 0 0 ∧ 720 ≤ a 0 0 ∧ a (a 719 0) (-2) = 21 ∧ (16 ≤ a (a 719 0) (-1) ∧ a (a 719 0) (-1) ≤ 100) ∧ a 719 1 = 0
def xC (a0 : Mm) (f : Int → Int) (n : Int) (a : Mm) : Prop := zB a ∧ a 719 3 = n ∧ (∀ i, 0 ≤ i ∧ i < n → a (a 719 0) i = f i) ∧ ∀ r k, r ≠ 719 → r ≠ 720 → r < 721 → r ≠ 0 → a r k = a0 r k
section BUILD
variable (N : Nat) (v : Int → Int) (c : Int → Int → Int) (w : Int → Int) {a0 a : Mm} {f : Int → Int} {n : Int}
theorem mk_719_at {k : Int} (h : 0 ≤ k) : mk v c w a 719 k = a 719 k := by
  show (if k = -2 then 1 else a 719 k) = a 719 k
  exact if_neg (by omega)
theorem mk_arr {r : Int} (h : r = 720 ∨ 721 ≤ r) (k : Int) : mk v c w a r k = a r k := by
  rcases h with h | h
  · subst h; rfl
  · unfold mk
    rw [if_neg (by omega), if_neg (by omega), if_neg (by omega), if_neg (by omega), if_neg (by omega), if_neg (by omega), if_neg (by omega), if_neg (by omega), if_neg (by omega), if_neg (by omega), if_neg (by omega), if_neg (by omega), if_neg (by omega), if_neg (by omega), if_neg (by omega)]
theorem mk_00 (k : Int) : mk v c w a 0 k = a 0 k := Eq.trans rfl rfl
theorem r_719 {k : Int} (h : 0 ≤ k) (x : Int) : mset (mk v c w a) 719 k x = mk v c w (mset a 719 k x) := set_raw v c w a x (fun b => mk_719_at v c w h)
theorem r_arr {r : Int} (h : r = 720 ∨ 721 ≤ r) (k x : Int) : mset (mk v c w a) r k x = mk v c w (mset a r k x) := set_raw v c w a x (fun b => mk_arr v c w h k)
theorem mk_new (h : 720 ≤ a 0 0) (s : Int) : mnew (mk v c w a) 21 s s = mk v c w (mnew a 21 s s) := by
  funext r k
  unfold mnew
  rw [mk_00, mk_00]
  by_cases e : r = 0
  · subst e
    simp only [mk_00, if_pos]
  · rw [if_neg e]
    by_cases q : r = a 0 0 + 1
    · rw [if_pos q, mk_arr v c w (by omega), if_neg e, if_pos q]
    · rw [if_neg q]
      exact (mk_a v c w a (r := r) (k := k) (by rw [if_neg e, if_neg q])).symm
theorem mk_cpy {s d : Int} (hs : s = 720 ∨ 721 ≤ s) (hd : d = 720 ∨ 721 ≤ d) (p q m : Int) : mcpy (mk v c w a) s p d q m = mk v c w (mcpy a s p d q m) := by
  funext r k
  unfold mcpy
  by_cases e : r = d ∧ q ≤ k ∧ k < q + m
  · rw [if_pos e, mk_arr v c w hs, e.1, mk_arr v c w hd, if_pos ⟨rfl, e.2⟩]
  · rw [if_neg e]
    exact (mk_a v c w a (r := r) (k := k) (if_neg e)).symm
theorem shl_f : ∀ b : Fin 128, o_shl b.val 0 = b.val := by decide +kernel
theorem shl_e {b : Int} (h : 0 ≤ b ∧ b < 128) : o_shl b 0 = b := by
  have q := shl_f ⟨b.toNat, by omega⟩
  have e : ((b.toNat : Nat) : Int) = b := by omega
  dsimp only at q
  rwa [e] at q
theorem i2b_f : ∀ b : Fin 128, o_i2b b.val = b.val := by decide +kernel
theorem i2b_e {b : Int} (h : 0 ≤ b ∧ b < 128) : o_i2b b = b := by
  have q := i2b_f ⟨b.toNat, by omega⟩
  have e : ((b.toNat : Nat) : Int) = b := by omega
  dsimp only at q
  rwa [e] at q
theorem x_ens {s : Int} (h : xC a0 f n a) (hn : 0 ≤ n ∧ n ≤ a (a 719 0) (-1)) (hs : 0 ≤ s ∧ s ≤ 40) : ∃ a', f_J5_ensureCapacityInternal_d00df N 719 s (mk v c w a) = some (0, mk v c w a') ∧ xC a0 f n a' ∧ s ≤ a' (a' 719 0) (-1) ∧ n ≤ a' (a' 719 0) (-1) := by
  have h' := h
  obtain ⟨⟨h1, h2, h3, h4, h5, h6⟩, h7, h8, h9⟩ := h
  generalize hR : a 719 0 = R at *
  generalize hC : a R (-1) = C at *
  have k1 : mk v c w a R (-2) = 21 := (mk_arr v c w h1 _).trans h4
  have k2 : mk v c w a R (-1) = C := (mk_arr v c w h1 _).trans hC
  have sh := shr_e (b := C) (by omega)
  by_cases q : s ≤ C
  · refine ⟨a, ?_, ⟨⟨by rw [hR]; exact h1, by rw [hR]; exact h2, h3, by rw [hR]; exact h4, by rw [hR, hC]; exact h5, h6⟩, h7, by rw [hR]; exact h8, h9⟩, by rw [hR, hC]; exact q, by rw [hR, hC]; omega⟩
    unfold f_J5_ensureCapacityInternal_d00df
    simp only [to_bz, to_nz, to_cz, to_iz]
    simp (disch := omega) only [hR, h6, k1, k2, sh, mk_719_at, mk_00, r_719, bz_t, nz_t, cz_T, cz_t, iz_T, iz_F, iz_y, iz_n, not_true_eq_false, not_false_eq_true, true_and, and_true, w32_e, w64_e, mset_e, mset_n, up_e, up_n, if_y, if_n, Int.add_zero, mk_1_m2, mk_1_0, mk_1_1, mk_1_2, mk_1_3, mk_1_4, mk_1_5, mk_1_6, mk_2_m2, mk_2_0, mk_2_1, mk_2_2, mk_2_3, mk_2_4, mk_2_5, mk_2_6, mk_2_7, mk_2_8, mk_2_9, mk_2_10, mk_3_m2, mk_3_0, mk_3_1, mk_3_2, mk_3_3, mk_3_4, mk_3_5, mk_4_m2, mk_4_m1, mk_5_m2, mk_5_m1, mk_11_m2, mk_11_m1, mk_42_m2, mk_42_m1, mk_73_m2, mk_73_0, mk_73_1, mk_73_2, mk_74_m2, mk_74_m1, mk_572_m2, mk_572_m1, mk_715_m2, mk_715_m1, mk_717_m2, mk_717_m1, mk_718_m2, mk_718_m1, mk_716_m2, mk_716_0, mk_716_1, mk_716_2, mk_716_3, mk_716_4, mk_719_m2, mk_74_at, mk_572_at, mk_715_at, mk_717_at, mk_718_at, mk_4_at, mk_5_at, mk_11_at, mk_42_at, mk_O_k, mk_O_0, mk_O_1, mk_O_2, mk_O_3, mk_L_k, mk_L_0, mk_L_1, mk_L_2, mk_L_3, mk_L_4, mk_L_5, mk_L_6, mk_L_7, mk_L_8, mk_L_9, mk_L_10, mk_X_k, mk_X_0, mk_X_1, mk_X_2, mk_X_3, mk_X_4, mk_75_k, mk_573_k, r_1_6, r_73_1, r_73_2, r_716_1, r_716_2, r_716_3, r_715, r_717, r_718, s_O0, s_O1, s_O2, s_O3, s_L0, s_L1, s_L2, s_L3, s_L4, s_L5, s_L6, s_L7, s_L8, s_L9, s_L10, s_X0, s_X1, s_X2, s_X3, s_X4, s_2_4, s_2_5, s_2_6, s_2_7, s_2_8, s_2_9, s_2_10, s_3_1, s_3_2, s_3_3, s_3_4, s_3_5, s_4]
  · have sl1 := shl_e (b := s) (by omega)
    have sl2 := shl_e (b := 2) (by omega)
    generalize hM : max (s - C) (C + 2) = M
    have sl3 := shr_e (b := C + M) (by omega)
    have sl4 := shl_e (b := C + M) (by omega)
    have mn := mk_new v c w (a := a) h3 (C + M)
    generalize hO : a 0 0 + 1 = o at *
    have oA : o = 720 ∨ 721 ≤ o := by omega
    generalize hA1 : mnew a 21 (C + M) (C + M) = A1 at *
    have n0 : A1 0 0 = o := by rw [← hA1]; unfold mnew; rw [if_pos rfl, if_pos rfl]; exact hO
    have no : ∀ k, A1 o k = if k = -2 then 21 else if k = -1 then C + M else 0 := fun k => by rw [← hA1]; unfold mnew; rw [if_neg (by omega), if_pos hO.symm]
    have nr : ∀ r k, r ≠ 0 → r ≠ o → A1 r k = a r k := fun r k g1 g2 => by rw [← hA1]; unfold mnew; rw [if_neg g1, if_neg (by omega)]
    have kk1 : mk v c w A1 R (-2) = 21 := (mk_arr v c w h1 _).trans ((nr R _ (by omega) (by omega)).trans h4)
    have kk2 : mk v c w A1 R (-1) = C := (mk_arr v c w h1 _).trans ((nr R _ (by omega) (by omega)).trans hC)
    have ko1 : mk v c w A1 o (-2) = 21 := (mk_arr v c w oA _).trans (no _)
    have ko2 : mk v c w A1 o (-1) = C + M := (mk_arr v c w oA _).trans (no _)
    have mc := mk_cpy v c w (a := A1) h1 oA 0 0 C
    have eM : max (C - C + (s - C)) (C + 2) = max (s - C) (C + 2) := by rw [show C - C + (s - C) = s - C from by omega]
    have em : min C (C + M) = C := by omega
    generalize hA2 : mcpy A1 R 0 o 0 C = A2 at *
    have p1 : ∀ r k, ¬ (r = o ∧ 0 ≤ k ∧ k < C) → A2 r k = A1 r k := fun r k g => by rw [← hA2]; unfold mcpy; rw [if_neg (by omega)]
    have p2 : ∀ k, 0 ≤ k ∧ k < C → A2 o k = a R k := fun k g => by
      rw [← hA2]; unfold mcpy; rw [if_pos (by omega), show 0 + (k - 0) = k from by omega]; exact nr R k (by omega) (by omega)
    refine ⟨mset A2 719 0 o, ?_, ⟨⟨?_, ?_, ?_, ?_, ?_, ?_⟩, ?_, fun i hi => ?_, fun r k g1 g2 g3 g4 => ?_⟩, ?_, ?_⟩
    · unfold f_J5_ensureCapacityInternal_d00df f_J5_newCapacity_0f7a4 f_J8_newLength_cabcc f_J7_copyOf_9075b
      simp only [to_bz, to_nz, to_cz, to_iz]
      simp (disch := omega) only [hR, h6, k1, k2, sh, sl1, sl2, sl3, sl4, hM, hO, mn, kk1, kk2, ko1, ko2, em, mc, mk_719_at, mk_00, r_719, bz_t, nz_t, cz_T, cz_t, iz_T, iz_F, iz_y, iz_n, not_true_eq_false, not_false_eq_true, true_and, and_true, w32_e, w64_e, mset_e, mset_n, up_e, up_n, if_y, if_n, Int.add_zero, mk_1_m2, mk_1_0, mk_1_1, mk_1_2, mk_1_3, mk_1_4, mk_1_5, mk_1_6, mk_2_m2, mk_2_0, mk_2_1, mk_2_2, mk_2_3, mk_2_4, mk_2_5, mk_2_6, mk_2_7, mk_2_8, mk_2_9, mk_2_10, mk_3_m2, mk_3_0, mk_3_1, mk_3_2, mk_3_3, mk_3_4, mk_3_5, mk_4_m2, mk_4_m1, mk_5_m2, mk_5_m1, mk_11_m2, mk_11_m1, mk_42_m2, mk_42_m1, mk_73_m2, mk_73_0, mk_73_1, mk_73_2, mk_74_m2, mk_74_m1, mk_572_m2, mk_572_m1, mk_715_m2, mk_715_m1, mk_717_m2, mk_717_m1, mk_718_m2, mk_718_m1, mk_716_m2, mk_716_0, mk_716_1, mk_716_2, mk_716_3, mk_716_4, mk_719_m2, mk_74_at, mk_572_at, mk_715_at, mk_717_at, mk_718_at, mk_4_at, mk_5_at, mk_11_at, mk_42_at, mk_O_k, mk_O_0, mk_O_1, mk_O_2, mk_O_3, mk_L_k, mk_L_0, mk_L_1, mk_L_2, mk_L_3, mk_L_4, mk_L_5, mk_L_6, mk_L_7, mk_L_8, mk_L_9, mk_L_10, mk_X_k, mk_X_0, mk_X_1, mk_X_2, mk_X_3, mk_X_4, mk_75_k, mk_573_k, r_1_6, r_73_1, r_73_2, r_716_1, r_716_2, r_716_3, r_715, r_717, r_718, s_O0, s_O1, s_O2, s_O3, s_L0, s_L1, s_L2, s_L3, s_L4, s_L5, s_L6, s_L7, s_L8, s_L9, s_L10, s_X0, s_X1, s_X2, s_X3, s_X4, s_2_4, s_2_5, s_2_6, s_2_7, s_2_8, s_2_9, s_2_10, s_3_1, s_3_2, s_3_3, s_3_4, s_3_5, s_4]
    · rw [mset_e]; exact oA
    · rw [mset_e, mset_n (by omega), p1 _ _ (by omega), n0]; exact Int.le_refl _
    · rw [mset_n (by omega), p1 _ _ (by omega), n0]; omega
    · rw [mset_e, mset_n (by omega), p1 _ _ (by omega), no]; rfl
    · rw [mset_e, mset_n (by omega), p1 _ _ (by omega), no]
      show 16 ≤ C + M ∧ C + M ≤ 100
      omega
    · rw [mset_n (by omega), p1 _ _ (by omega), nr _ _ (by omega) (by omega)]; exact h6
    · rw [mset_n (by omega), p1 _ _ (by omega), nr _ _ (by omega) (by omega)]; exact h7
    · rw [mset_e, mset_n (by omega), p2 _ (by omega)]; exact h8 i hi
    · rw [mset_n (by omega), p1 _ _ (by omega), nr _ _ (by omega) (by omega)]; exact h9 r k g1 g2 g3 g4
    · rw [mset_e, mset_n (by omega), p1 _ _ (by omega), no]; show s ≤ C + M; omega
    · rw [mset_e, mset_n (by omega), p1 _ _ (by omega), no]; show n ≤ C + M; omega
theorem x_char (h : xC a0 f n a) (hn : 0 ≤ n ∧ n ≤ a (a 719 0) (-1) ∧ n ≤ 38) {x : Int} (hx : 0 ≤ x ∧ x < 128) : ∃ a', f_J4_append_cf468 N 719 x (mk v c w a) = some (719, mk v c w a') ∧ xC a0 (up f n x) (n + 1) a' ∧ n + 1 ≤ a' (a' 719 0) (-1) := by
  have h7 := h.2.1
  obtain ⟨A, e1, e2, e3, e4⟩ := x_ens N v c w (s := n + 1) h (by omega) (by omega)
  obtain ⟨⟨g1, g2, g3, g4, g5, g6⟩, g7, g8, g9⟩ := e2
  have ib := i2b_e hx
  generalize hR : A 719 0 = R at *
  generalize hC : A R (-1) = C at *
  have k1 : ∀ b : Mm, (b R (-2) = 21) → mk v c w b R (-2) = 21 := fun b q => (mk_arr v c w g1 _).trans q
  have k2 : ∀ b : Mm, (b R (-1) = C) → mk v c w b R (-1) = C := fun b q => (mk_arr v c w g1 _).trans q
  have kk1 := k1 (mset A 719 3 (n + 1)) (by rw [mset_n (by omega)]; exact g4)
  have kk2 := k2 (mset A 719 3 (n + 1)) (by rw [mset_n (by omega)]; exact hC)
  have ra := fun (b : Mm) (k y : Int) => r_arr v c w (a := b) g1 k y
  refine ⟨mset (mset A 719 3 (n + 1)) R n x, ?_, ⟨⟨?_, ?_, ?_, ?_, ?_, ?_⟩, ?_, fun i hi => ?_, fun r k q1 q2 q3 q4 => ?_⟩, ?_⟩
  · unfold f_J4_append_cf468 f_J5_append_3fe6f f_J5_isLatin1_aae02 f_J1_canEncode_fc78d
    simp only [to_bz, to_nz, to_cz, to_iz]
    simp (disch := omega) only [h7, e1, hR, g6, g7, ib, kk1, kk2, ra, Int.reduceEq, mk_719_at, mk_00, r_719, bz_t, nz_t, cz_T, cz_t, iz_T, iz_F, iz_y, iz_n, not_true_eq_false, not_false_eq_true, true_and, and_true, w32_e, w64_e, mset_e, mset_n, up_e, up_n, if_y, if_n, Int.add_zero, mk_1_m2, mk_1_0, mk_1_1, mk_1_2, mk_1_3, mk_1_4, mk_1_5, mk_1_6, mk_2_m2, mk_2_0, mk_2_1, mk_2_2, mk_2_3, mk_2_4, mk_2_5, mk_2_6, mk_2_7, mk_2_8, mk_2_9, mk_2_10, mk_3_m2, mk_3_0, mk_3_1, mk_3_2, mk_3_3, mk_3_4, mk_3_5, mk_4_m2, mk_4_m1, mk_5_m2, mk_5_m1, mk_11_m2, mk_11_m1, mk_42_m2, mk_42_m1, mk_73_m2, mk_73_0, mk_73_1, mk_73_2, mk_74_m2, mk_74_m1, mk_572_m2, mk_572_m1, mk_715_m2, mk_715_m1, mk_717_m2, mk_717_m1, mk_718_m2, mk_718_m1, mk_716_m2, mk_716_0, mk_716_1, mk_716_2, mk_716_3, mk_716_4, mk_719_m2, mk_74_at, mk_572_at, mk_715_at, mk_717_at, mk_718_at, mk_4_at, mk_5_at, mk_11_at, mk_42_at, mk_O_k, mk_O_0, mk_O_1, mk_O_2, mk_O_3, mk_L_k, mk_L_0, mk_L_1, mk_L_2, mk_L_3, mk_L_4, mk_L_5, mk_L_6, mk_L_7, mk_L_8, mk_L_9, mk_L_10, mk_X_k, mk_X_0, mk_X_1, mk_X_2, mk_X_3, mk_X_4, mk_75_k, mk_573_k, r_1_6, r_73_1, r_73_2, r_716_1, r_716_2, r_716_3, r_715, r_717, r_718, s_O0, s_O1, s_O2, s_O3, s_L0, s_L1, s_L2, s_L3, s_L4, s_L5, s_L6, s_L7, s_L8, s_L9, s_L10, s_X0, s_X1, s_X2, s_X3, s_X4, s_2_4, s_2_5, s_2_6, s_2_7, s_2_8, s_2_9, s_2_10, s_3_1, s_3_2, s_3_3, s_3_4, s_3_5, s_4]
  · rw [mset_n (by omega), mset_n (by omega), hR]; exact g1
  · rw [mset_n (by omega), mset_n (by omega), mset_n (by omega), mset_n (by omega), hR]; exact g2
  · rw [mset_n (by omega), mset_n (by omega)]; exact g3
  · rw [mset_n (by omega), mset_n (by omega), mset_n (by omega), mset_n (by omega), hR]; exact g4
  · rw [mset_n (by omega), mset_n (by omega), mset_n (by omega), mset_n (by omega), hR, hC]; exact g5
  · rw [mset_n (by omega), mset_n (by omega)]; exact g6
  · rw [mset_n (by omega), mset_e]
  · rw [mset_n (a := mset A 719 3 (n + 1)) (r := R) (k := n) (x := x) (r' := 719) (k' := 0) (by omega), mset_n (a := A) (r := 719) (k := 3) (x := n + 1) (r' := 719) (k' := 0) (by omega), hR]
    by_cases z : i = n
    · rw [z, mset_e, up_e]
    · rw [mset_n (by omega), mset_n (by omega), up_n z]; exact g8 i (by omega)
  · rw [mset_n (by omega), mset_n (by omega)]; exact g9 r k q1 q2 q3 q4
  · rw [mset_n (by omega), mset_n (by omega), mset_n (by omega), mset_n (by omega), hR, hC]; exact e3
end BUILD
