/-! the state between calls: history, slots, reason, text, builder -/
def zH (K : Int) (c : Int → Int → Int) (a : Mm) : Prop := (0 ≤ a 73 1 ∧ a 73 1 < 7) ∧ (0 ≤ a 73 2 ∧ a 73 2 ≤ 6) ∧ a 721 2 = a 73 2 ∧
  ∀ k, 0 ≤ k ∧ k < a 73 2 → IV K (c ((a 73 1 + k) % 7 + 1)) ∧ ∀ i, 0 ≤ i ∧ i < 520 → a 723 (520 * k + i) = c ((a 73 1 + k) % 7 + 1) i
def zS (K : Int) (c : Int → Int → Int) (a : Mm) : Prop := ∀ s, 0 ≤ s ∧ s < 2 → a 715 s = a 725 s ∧ (0 ≤ a 715 s ∧ a 715 s ≤ 1) ∧
  (a 715 s ≠ 0 → IV K (c (8 + s)) ∧ ∀ i, 0 ≤ i ∧ i < 520 → a 724 (520 * s + i) = c (8 + s) i)
def zR (a : Mm) : Prop := a 1 6 = a 721 5 ∧ 0 ≤ a 1 6 ∧ a 1 6 ≤ 6
def zT (a : Mm) : Prop := a 716 1 = a 721 6 ∧ (0 ≤ a 716 1 ∧ a 716 1 ≤ 80) ∧ ∀ i, 0 ≤ i ∧ i < a 716 1 → a 717 i = a 726 i ∧ 0 ≤ a 717 i ∧ a 717 i ≤ 65535
def zD (a : Mm) : Prop := (a 719 0 = 720 ∨ 729 ≤ a 719 0) ∧ a 719 0 ≤ a 0 0 ∧ 728 ≤ a 0 0 ∧ a (a 719 0) (-2) = 21 ∧ (16 ≤ a (a 719 0) (-1) ∧ a (a 719 0) (-1) ≤ 100) ∧ a 719 1 = 0 ∧ 0 ≤ a 719 3 ∧ a 719 3 ≤ 100
def zST (K : Int) (w : Int → Int) (c : Int → Int → Int) (a : Mm) : Prop := IV K w ∧ zH K c a ∧ zS K c a ∧ zR a ∧ zT a ∧ zD a
/-- alike but for history and reason -/
def zF (a a' : Mm) : Prop := ∀ r k, r ≠ 73 → r ≠ 723 → ¬ (r = 721 ∧ (k = 2 ∨ k = 5)) → ¬ (r = 1 ∧ k = 6) → a' r k = a r k
def zOK (K : Int) (fx fm : Mm → Rs) (w : Int → Int) (c : Int → Int → Int) (a : Mm) : Prop :=
  ∃ r w' c' a1 a', fx (mk w c w a) = some (r, mk w' c' w a1) ∧ fm (mk w' c' w a1) = some (r, mk w' c' w' a') ∧ zST (K + 100) w' c' a'
section STATE
variable {K K' : Int} {w : Int → Int} {c : Int → Int → Int} {a a' : Mm}
theorem IA_mono (I : IA K w) (h : K ≤ K' ∧ K' ≤ 60000) : IA K' w := by
  have g := I.hd
  unfold HEAD at g
  refine ⟨?_, I.2.1, fun o ho => ?_, I.2.2.2⟩
  · unfold HEAD; omega
  · have q := I.own ho; unfold OWN at q
    unfold OWN; omega
theorem IV_mono (I : IV K w) (h : K ≤ K' ∧ K' ≤ 60000) : IV K' w := ⟨IA_mono I.1 h, I.2⟩
theorem zF_i : zF a a := fun _ _ _ _ _ _ => rfl
theorem zF_t {b : Mm} (h : zF a b) (g : zF b a') : zF a a' := fun r k h1 h2 h3 h4 => (g r k h1 h2 h3 h4).trans (h r k h1 h2 h3 h4)
theorem zF_73 (k x : Int) : zF a (mset a 73 k x) := fun r j h1 h2 h3 h4 => mset_n (Or.inl h1)
theorem zF_7212 (x : Int) : zF a (mset a 721 2 x) := fun r j h1 h2 h3 h4 => if_neg (fun z => h3 ⟨z.1, Or.inl z.2⟩)
theorem zF_7215 (x : Int) : zF a (mset a 721 5 x) := fun r j h1 h2 h3 h4 => if_neg (fun z => h3 ⟨z.1, Or.inr z.2⟩)
theorem zF_16 (x : Int) : zF a (mset a 1 6 x) := fun r j h1 h2 h3 h4 => if_neg (fun z => h4 z)
theorem zF_sa (f : Int → Int) : zF a (sa 723 f a) := fun r j h1 h2 h3 h4 => if_neg h2
theorem zF_ap : zF a (apA a) := by unfold apA; split; exact zF_73 _ _; exact zF_73 _ _
theorem zF_rec (w : Int → Int) : zF a (recA w a) := by
  unfold recA
  split
  · refine zF_t ?_ (zF_7212 _)
    intro r k h1 h2 h3 h4
    rw [sa_n h2]
    exact zF_7212 _ r k h1 h2 h3 h4
  · exact zF_t (zF_sa _) (zF_7212 _)
theorem zT_f (h : zT a) (f : zF a a') : zT a' := by
  unfold zT at *
  have e1 := f 716 1 (by omega) (by omega) (by omega) (by omega)
  have e2 := f 721 6 (by omega) (by omega) (by omega) (by omega)
  have e3 : ∀ i, a' 717 i = a 717 i := fun i => f 717 i (by omega) (by omega) (by omega) (by omega)
  have e4 : ∀ i, a' 726 i = a 726 i := fun i => f 726 i (by omega) (by omega) (by omega) (by omega)
  simp only [e1, e2, e3, e4]
  exact h
theorem zD_f (h : zD a) (f : zF a a') : zD a' := by
  unfold zD at *
  have e1 : ∀ i, a' 719 i = a 719 i := fun i => f 719 i (by omega) (by omega) (by omega) (by omega)
  have e2 := f 0 0 (by omega) (by omega) (by omega) (by omega)
  have e3 : ∀ i, a' (a 719 0) i = a (a 719 0) i := fun i => f _ i (by omega) (by omega) (by omega) (by omega)
  simp only [e1, e2, e3]
  exact h
theorem zS_f {c' : Int → Int → Int} (h : zS K c a) (f : zF a a') (hc : ∀ s, 0 ≤ s ∧ s < 2 → c' (8 + s) = c (8 + s)) (hK : K ≤ K' ∧ K' ≤ 60000) : zS K' c' a' := by
  intro s hs
  obtain ⟨q1, q2, q3⟩ := h s hs
  have e1 : ∀ i, a' 715 i = a 715 i := fun i => f 715 i (by omega) (by omega) (by omega) (by omega)
  have e2 : ∀ i, a' 725 i = a 725 i := fun i => f 725 i (by omega) (by omega) (by omega) (by omega)
  have e3 : ∀ i, a' 724 i = a 724 i := fun i => f 724 i (by omega) (by omega) (by omega) (by omega)
  rw [e1, e2, hc s hs]
  refine ⟨q1, q2, fun z => ⟨IV_mono (q3 z).1 hK, fun i hi => ?_⟩⟩
  rw [e3]
  exact (q3 z).2 i hi
theorem uc_s {j s : Int} (u : Int → Int) (h : j ≤ 7) (hs : 0 ≤ s ∧ s < 2) : uc c j u (8 + s) = c (8 + s) := by unfold uc; rw [if_neg (by omega)]
theorem zR_i (h : zR a) (h1 : a' 1 6 = a 1 6) (h2 : a' 721 5 = a 721 5) : zR a' := by unfold zR at *; rw [h1, h2]; exact h
theorem ap_1 : apA a 1 6 = a 1 6 ∧ apA a 721 5 = a 721 5 := by
  unfold apA; split <;> exact ⟨mset_n (by omega), mset_n (by omega)⟩
theorem rec_1 (w : Int → Int) : recA w a 1 6 = a 1 6 ∧ recA w a 721 5 = a 721 5 := by
  unfold recA
  split
  · exact ⟨by rw [mset_n (by omega), sa_n (by omega), mset_n (by omega)], by rw [mset_n (by omega), sa_n (by omega), mset_n (by omega)]⟩
  · exact ⟨by rw [mset_n (by omega), sa_n (by omega)], by rw [mset_n (by omega), sa_n (by omega)]⟩
/-- the history, where the row aside is written and nothing counted -/
theorem zH_sp (h : zH K c a) (h1 : a' 73 1 = a 73 1) (h2 : a' 73 2 = a 73 2) (h3 : a' 721 2 = a 721 2) (h4 : ∀ i, a' 723 i = a 723 i) (hK : K ≤ K' ∧ K' ≤ 60000) (u : Int → Int) : zH K' (uc c ((a 73 1 + a 73 2) % 7 + 1) u) a' := by
  obtain ⟨q1, q2, q3, q4⟩ := h
  unfold zH
  rw [h1, h2, h3]
  refine ⟨q1, q2, q3, fun k hk => ?_⟩
  have e : uc c ((a 73 1 + a 73 2) % 7 + 1) u ((a 73 1 + k) % 7 + 1) = c ((a 73 1 + k) % 7 + 1) := by unfold uc; rw [if_neg (by omega)]
  rw [e]
  exact ⟨IV_mono (q4 k hk).1 hK, fun i hi => by rw [h4]; exact (q4 k hk).2 i hi⟩
theorem zH_i (h : zH K c a) (h1 : a' 73 1 = a 73 1) (h2 : a' 73 2 = a 73 2) (h3 : a' 721 2 = a 721 2) (h4 : ∀ i, a' 723 i = a 723 i) (hK : K ≤ K' ∧ K' ≤ 60000) : zH K' c a' := by
  obtain ⟨q1, q2, q3, q4⟩ := h
  unfold zH
  rw [h1, h2, h3]
  exact ⟨q1, q2, q3, fun k hk => ⟨IV_mono (q4 k hk).1 hK, fun i hi => by rw [h4]; exact (q4 k hk).2 i hi⟩⟩
/-- the history, one state more -/
theorem zH_rec (h : zH K c a) (I : IV K w) (hK : K ≤ K' ∧ K' ≤ 60000) : zH K' (uc c ((a 73 1 + a 73 2) % 7 + 1) w) (recA w (apA a)) := by
  obtain ⟨q1, q2, q3, q4⟩ := h
  by_cases z : 6 ≤ a 73 2
  · have z6 : a 73 2 = 6 := by omega
    have e1 : apA a = mset a 73 1 ((a 73 1 + 1) % 7) := if_pos z
    have f0 : mset a 73 1 ((a 73 1 + 1) % 7) 721 2 = 6 := by rw [mset_n (by omega)]; omega
    have f1 : recA w (apA a) 73 1 = (a 73 1 + 1) % 7 := by rw [e1]; unfold recA; rw [if_pos f0, mset_n (by omega), sa_n (by omega), mset_n (by omega), mset_e]
    have f2 : recA w (apA a) 73 2 = 6 := by rw [e1]; unfold recA; rw [if_pos f0, mset_n (by omega), sa_n (by omega), mset_n (by omega), mset_n (by omega)]; omega
    have f3 : recA w (apA a) 721 2 = 6 := by rw [e1]; unfold recA; rw [if_pos f0, mset_e]
    have f4 : ∀ i, recA w (apA a) 723 i = cpy (520 * 5) (520 * 5 + 520) (fun j => w (j - 520 * 5)) (cpy 0 2600 (fun j => a 723 (j + 520)) (a 723)) i := fun i => by
      have g : ∀ j, mset a 73 1 ((a 73 1 + 1) % 7) 723 j = a 723 j := fun j => mset_n (by omega)
      rw [e1]; unfold recA; rw [if_pos f0, mset_n (by omega), sa_e]
      rw [show mset a 73 1 ((a 73 1 + 1) % 7) 723 = a 723 from funext g]
    generalize recA w (apA a) = b at *
    unfold zH
    rw [f1, f2, f3]
    refine ⟨by omega, by omega, rfl, fun k hk => ?_⟩
    by_cases k5 : k = 5
    · have e : uc c ((a 73 1 + a 73 2) % 7 + 1) w (((a 73 1 + 1) % 7 + k) % 7 + 1) = w := by unfold uc; rw [if_pos (by omega)]
      rw [e]
      refine ⟨IV_mono I hK, fun i hi => ?_⟩
      rw [f4]
      unfold cpy
      rw [if_pos (by omega)]
      dsimp only
      rw [show 520 * k + i - 520 * 5 = i from by omega]
    · have e : uc c ((a 73 1 + a 73 2) % 7 + 1) w (((a 73 1 + 1) % 7 + k) % 7 + 1) = c ((a 73 1 + (k + 1)) % 7 + 1) := by
        unfold uc; rw [if_neg (by omega), show ((a 73 1 + 1) % 7 + k) % 7 + 1 = (a 73 1 + (k + 1)) % 7 + 1 from by omega]
      rw [e]
      refine ⟨IV_mono (q4 (k + 1) (by omega)).1 hK, fun i hi => ?_⟩
      rw [f4]
      unfold cpy
      rw [if_neg (by omega), if_pos (by omega)]
      dsimp only
      rw [show 520 * k + i + 520 = 520 * (k + 1) + i from by omega]
      exact (q4 (k + 1) (by omega)).2 i hi
  · have e1 : apA a = mset a 73 2 (a 73 2 + 1) := if_neg z
    have f0 : mset a 73 2 (a 73 2 + 1) 721 2 = a 73 2 := by rw [mset_n (by omega)]; omega
    have f00 : ¬ mset a 73 2 (a 73 2 + 1) 721 2 = 6 := by omega
    have f1 : recA w (apA a) 73 1 = a 73 1 := by rw [e1]; unfold recA; rw [if_neg f00, mset_n (by omega), sa_n (by omega), mset_n (by omega)]
    have f2 : recA w (apA a) 73 2 = a 73 2 + 1 := by rw [e1]; unfold recA; rw [if_neg f00, mset_n (by omega), sa_n (by omega), mset_e]
    have f3 : recA w (apA a) 721 2 = a 73 2 + 1 := by rw [e1]; unfold recA; rw [if_neg f00, mset_e, f0]
    have f4 : ∀ i, recA w (apA a) 723 i = cpy (520 * a 73 2) (520 * a 73 2 + 520) (fun j => w (j - 520 * a 73 2)) (a 723) i := fun i => by
      have g : ∀ j, mset a 73 2 (a 73 2 + 1) 723 j = a 723 j := fun j => mset_n (by omega)
      rw [e1]; unfold recA; rw [if_neg f00, mset_n (by omega), sa_e, f0]
      rw [show mset a 73 2 (a 73 2 + 1) 723 = a 723 from funext g]
    generalize recA w (apA a) = b at *
    unfold zH
    rw [f1, f2, f3]
    refine ⟨by omega, by omega, rfl, fun k hk => ?_⟩
    by_cases k5 : k = a 73 2
    · have e : uc c ((a 73 1 + a 73 2) % 7 + 1) w ((a 73 1 + k) % 7 + 1) = w := by unfold uc; rw [if_pos (by rw [k5])]
      rw [e]
      refine ⟨IV_mono I hK, fun i hi => ?_⟩
      rw [f4]
      unfold cpy
      rw [if_pos (by omega)]
      dsimp only
      rw [show 520 * k + i - 520 * a 73 2 = i from by omega]
    · have e : uc c ((a 73 1 + a 73 2) % 7 + 1) w ((a 73 1 + k) % 7 + 1) = c ((a 73 1 + k) % 7 + 1) := by
        unfold uc; rw [if_neg (by omega)]
      rw [e]
      refine ⟨IV_mono (q4 k (by omega)).1 hK, fun i hi => ?_⟩
      rw [f4]
      unfold cpy
      rw [if_neg (by omega)]
      exact (q4 k (by omega)).2 i hi
theorem zST_K (S : zST K w c a) : 0 ≤ K ∧ K ≤ 60000 := by have g := S.1.1.hd; unfold HEAD at g; omega
/-- nothing changes -/
theorem OK_same {fx fm : Mm → Rs} {e : Int} (S : zST K w c a) (hK : K + 100 ≤ 60000) (X : fx (mk w c w a) = some (e, mk w c w a)) (M : fm (mk w c w a) = some (e, mk w c w a)) : zOK K fx fm w c a := by
  have hk := zST_K S
  obtain ⟨S1, S2, S3, S4, S5, S6⟩ := S
  exact ⟨e, w, c, a, a, X, M, IV_mono S1 (by omega), zH_i S2 rfl rfl rfl (fun _ => rfl) (by omega), zS_f S3 zF_i (fun _ _ => rfl) (by omega), S4, S5, S6⟩
/-- an error of an act -/
theorem OK_err {fx fm : Mm → Rs} {e : Int} (S : zST K w c a) (hK : K + 100 ≤ 60000) (X : fx (mk w c w a) = some (e, mk w (uc c ((a 73 1 + a 73 2) % 7 + 1) w) w a)) (M : ∀ v c, fm (mk v c w a) = some (e, mk v c w a)) : zOK K fx fm w c a := by
  have hk := zST_K S
  obtain ⟨S1, S2, S3, S4, S5, S6⟩ := S
  exact ⟨e, w, _, a, a, X, M _ _, IV_mono S1 (by omega), zH_sp S2 rfl rfl rfl (fun _ => rfl) (by omega) w, zS_f S3 zF_i (fun s hs => uc_s w (by omega) hs) (by omega), S4, S5, S6⟩
theorem zST_ref {y : Int} (hy : 1 ≤ y ∧ y ≤ 6) (S : zR a ∧ zT a ∧ zD a) : zR (mset (mset a 1 6 y) 721 5 y) ∧ zT (mset (mset a 1 6 y) 721 5 y) ∧ zD (mset (mset a 1 6 y) 721 5 y) := by
  refine ⟨?_, zT_f S.2.1 (zF_t (zF_16 _) (zF_7215 _)), zD_f S.2.2 (zF_t (zF_16 _) (zF_7215 _))⟩
  unfold zR
  rw [mset_e, mset_n (by omega), mset_e]
  omega
theorem OK_ref {fx fm : Mm → Rs} {e y : Int} (S : zST K w c a) (hK : K + 100 ≤ 60000) (hy : 1 ≤ y ∧ y ≤ 6) (X : fx (mk w c w a) = some (e, mk w (uc c ((a 73 1 + a 73 2) % 7 + 1) w) w (mset a 1 6 y))) (M : ∀ v c a, fm (mk v c w a) = some (e, mk v c w (mset a 721 5 y))) : zOK K fx fm w c a := by
  have hk := zST_K S
  obtain ⟨S1, S2, S3, S4⟩ := S
  have n : ∀ r k, r ≠ 1 → r ≠ 721 → mset (mset a 1 6 y) 721 5 y r k = a r k := fun r k h1 h2 => by rw [mset_n (Or.inl h2), mset_n (Or.inl h1)]
  exact ⟨e, w, _, _, _, X, M _ _ _, IV_mono S1 (by omega), zH_sp S2 (n _ _ (by omega) (by omega)) (n _ _ (by omega) (by omega)) (by rw [mset_n (by omega), mset_n (by omega)]) (fun _ => n _ _ (by omega) (by omega)) (by omega) w, zS_f S3 (zF_t (zF_16 _) (zF_7215 _)) (fun s hs => uc_s w (by omega) hs) (by omega), zST_ref hy S4⟩
theorem OK_ref0 {fx fm : Mm → Rs} {e y : Int} (S : zST K w c a) (hK : K + 100 ≤ 60000) (hy : 1 ≤ y ∧ y ≤ 6) (X : fx (mk w c w a) = some (e, mk w c w (mset a 1 6 y))) (M : ∀ v c a, fm (mk v c w a) = some (e, mk v c w (mset a 721 5 y))) : zOK K fx fm w c a := by
  have hk := zST_K S
  obtain ⟨S1, S2, S3, S4⟩ := S
  have n : ∀ r k, r ≠ 1 → r ≠ 721 → mset (mset a 1 6 y) 721 5 y r k = a r k := fun r k h1 h2 => by rw [mset_n (Or.inl h2), mset_n (Or.inl h1)]
  exact ⟨e, w, _, _, _, X, M _ _ _, IV_mono S1 (by omega), zH_i S2 (n _ _ (by omega) (by omega)) (n _ _ (by omega) (by omega)) (by rw [mset_n (by omega), mset_n (by omega)]) (fun _ => n _ _ (by omega) (by omega)) (by omega), zS_f S3 (zF_t (zF_16 _) (zF_7215 _)) (fun _ _ => rfl) (by omega), zST_ref hy S4⟩
/-- an act that is done -/
theorem OK_good {fx fm : Mm → Rs} {r : Int} {u : Int → Int} (S : zST K w c a) (hK : K + 100 ≤ 60000) (X : fx (mk w c w a) = some (r, mk u (uc c ((a 73 1 + a 73 2) % 7 + 1) w) w (apA a)))
    (M : ∀ v c a, 0 ≤ a 721 2 ∧ a 721 2 ≤ 6 → fm (mk v c w a) = some (r, mk v c u (recA w a))) (hu : IV (K + 100) u) : zOK K fx fm w c a := by
  have hk := zST_K S
  obtain ⟨S1, S2, S3, S4, S5, S6⟩ := S
  have e : apA a 721 2 = a 721 2 := by unfold apA; split <;> exact mset_n (by omega)
  have b := S2.2.1
  have b2 := S2.2.2.1
  have f : zF a (recA w (apA a)) := zF_t zF_ap (zF_rec w)
  exact ⟨r, u, _, _, _, X, M _ _ _ (by rw [e]; omega), hu, zH_rec S2 S1 (by omega), zS_f S3 f (fun s hs => uc_s w (by omega) hs) (by omega), zR_i S4 ((rec_1 w).1.trans ap_1.1) ((rec_1 w).2.trans ap_1.2), zT_f S5 f, zD_f S6 f⟩
theorem cd_n {y : Int} (h : y ≠ 0) : cd y < 0 := by unfold cd; rw [if_neg h]; split <;> (try split) <;> omega
theorem OK_act {fx fm : Mm → Rs} {y r : Int} {u : Int → Int} (S : zST K w c a) (hK : K + 100 ≤ 60000)
    (X : fx (mk w c w a) = some (an y r, mk (rw0 y u w) (uc c ((a 73 1 + a 73 2) % 7 + 1) w) w (if an y r < 0 then rb y a else apA (rb y a))))
    (M : ∀ v c a, 0 ≤ a 721 2 ∧ a 721 2 ≤ 6 → fm (mk v c w a) = if y = 0 then some (r, mk v c u (recA w a)) else some (cd y, mk v c w (ra y a)))
    (hr : y = 0 → 0 ≤ r) (hu : y = 0 → IV (K + 1) u) (hy : y ≤ 6) : zOK K fx fm w c a := by
  have hk := zST_K S
  have b := S.2.1.2.1
  have b2 := S.2.1.2.2.1
  by_cases y0 : y = 0
  · subst y0
    have r0 := hr rfl
    have e : an 0 r = r := rfl
    have e2 : rb 0 a = a := rfl
    have e3 : rw0 0 u w = u := rfl
    rw [e, e2, e3, if_neg (by omega)] at X
    exact OK_good S hK X (fun v c a h => by have q := M v c a h; rwa [if_pos rfl] at q) (IV_mono (hu rfl) (by omega))
  · have e : an y r = cd y := if_neg y0
    have e3 : rw0 y u w = w := if_neg y0
    have cn := cd_n y0
    rw [e, e3, if_pos cn] at X
    by_cases y1 : 1 ≤ y
    · have e2 : rb y a = mset a 1 6 y := if_pos y1
      rw [e2] at X
      have hk := zST_K S
      obtain ⟨S1, S2, S3, S4⟩ := S
      have n : ∀ r k, r ≠ 1 → r ≠ 721 → mset (mset a 1 6 y) 721 5 y r k = a r k := fun r k h1 h2 => by rw [mset_n (Or.inl h2), mset_n (Or.inl h1)]
      have M1 := M w (uc c ((a 73 1 + a 73 2) % 7 + 1) w) (mset a 1 6 y) (by rw [mset_n (by omega)]; omega)
      rw [if_neg y0, show ra y (mset a 1 6 y) = mset (mset a 1 6 y) 721 5 y from if_pos y1] at M1
      exact ⟨cd y, w, _, _, _, X, M1, IV_mono S1 (by omega), zH_sp S2 (n _ _ (by omega) (by omega)) (n _ _ (by omega) (by omega)) (by rw [mset_n (by omega), mset_n (by omega)]) (fun _ => n _ _ (by omega) (by omega)) (by omega) w, zS_f S3 (zF_t (zF_16 _) (zF_7215 _)) (fun s hs => uc_s w (by omega) hs) (by omega), zST_ref (by omega) S4⟩
    · have e2 : rb y a = a := if_neg y1
      rw [e2] at X
      exact OK_err S hK X (fun v c => by have q := M v c a (by omega); rwa [if_neg y0, show ra y a = a from if_neg y1] at q)
end STATE
