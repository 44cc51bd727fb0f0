/-! the state between calls: history, slots, reason, text, builder -/
/-- nothing that is left has ended -/
def IC (w : Int → Int) : Prop := (∀ l, 0 ≤ l ∧ l < w 2 → 0 < un w l → w 0 ≤ w (40 + 11 * l + 5)) ∧ (∀ e, 0 ≤ e ∧ e < w 3 → w (370 + 5 * e + 4) = 0 → w 0 ≤ w (370 + 5 * e + 3)) ∧ ∀ l, 0 ≤ l ∧ l < w 2 → w (40 + 11 * l + 2) ≤ 999999
def JV (K : Int) (w : Int → Int) : Prop := IV K w ∧ IC w
def zH (K : Int) (c : Int → Int → Int) (a : Mm) : Prop := (0 ≤ a 73 1 ∧ a 73 1 < 7) ∧ (0 ≤ a 73 2 ∧ a 73 2 ≤ 6) ∧
  ∀ k, 0 ≤ k ∧ k < a 73 2 → JV K (c ((a 73 1 + k) % 7 + 1))
def zS (K : Int) (c : Int → Int → Int) (a : Mm) : Prop := ∀ s, 0 ≤ s ∧ s < 2 → (0 ≤ a 715 s ∧ a 715 s ≤ 1) ∧ (a 715 s ≠ 0 → JV K (c (8 + s)))
def zR (a : Mm) : Prop := 0 ≤ a 1 6 ∧ a 1 6 ≤ 6
def zT (a : Mm) : Prop := 0 ≤ a 716 1 ∧ a 716 1 ≤ 80
def zD (a : Mm) : Prop := (a 719 0 = 720 ∨ 721 ≤ a 719 0) ∧ a 719 0 ≤ a 0 0 ∧ 720 ≤ a 0 0 ∧ a (a 719 0) (-2) = 21 ∧ (16 ≤ a (a 719 0) (-1) ∧ a (a 719 0) (-1) ≤ 100) ∧ a 719 1 = 0 ∧ 0 ≤ a 719 3 ∧ a 719 3 ≤ 100
def zST (K : Int) (w : Int → Int) (c : Int → Int → Int) (a : Mm) : Prop := JV K w ∧ zH K c a ∧ zS K c a ∧ zR a ∧ zT a ∧ zD a
/-- alike but for history and reason -/
def zF (a a' : Mm) : Prop := ∀ r k, r ≠ 73 → ¬ (r = 1 ∧ k = 6) → a' r k = a r k
section STATE
variable {K K' : Int} {w : Int → Int} {c : Int → Int → Int} {a a' : Mm}
theorem IA_mono (I : IA K w) (h : K ≤ K' ∧ K' ≤ 60000) : IA K' w := by
  have g := I.hd
  unfold HEAD at g
  refine ⟨?_, I.2.1, fun o ho => ?_, I.2.2.2⟩
  · unfold HEAD; omega
  · have q := I.own ho; unfold OWN at q
    unfold OWN; omega
theorem IV_mono (I : IV K w) (h : K ≤ K' ∧ K' ≤ 60000) : IV K' w := ⟨IA_mono I.1 h, I.2⟩
theorem JV_mono (I : JV K w) (h : K ≤ K' ∧ K' ≤ 60000) : JV K' w := ⟨IV_mono I.1 h, I.2⟩
theorem zF_i : zF a a := fun _ _ _ _ => rfl
theorem zF_t {b : Mm} (h : zF a b) (g : zF b a') : zF a a' := fun r k h1 h2 => (g r k h1 h2).trans (h r k h1 h2)
theorem zF_73 (k x : Int) : zF a (mset a 73 k x) := fun r j h1 h2 => mset_n (Or.inl h1)
theorem zF_16 (x : Int) : zF a (mset a 1 6 x) := fun r j h1 h2 => if_neg (fun z => h2 z)
theorem zF_ap : zF a (apA a) := by unfold apA; split; exact zF_73 _ _; exact zF_73 _ _
theorem zT_f (h : zT a) (f : zF a a') : zT a' := by
  unfold zT at *
  rw [f 716 1 (by omega) (by omega)]
  exact h
theorem zD_f (h : zD a) (f : zF a a') : zD a' := by
  unfold zD at *
  have e1 : ∀ i, a' 719 i = a 719 i := fun i => f 719 i (by omega) (by omega)
  have e2 := f 0 0 (by omega) (by omega)
  have e3 : ∀ i, a' (a 719 0) i = a (a 719 0) i := fun i => f _ i (by omega) (by omega)
  simp only [e1, e2, e3]
  exact h
theorem zS_f {c' : Int → Int → Int} (h : zS K c a) (f : zF a a') (hc : ∀ s, 0 ≤ s ∧ s < 2 → c' (8 + s) = c (8 + s)) (hK : K ≤ K' ∧ K' ≤ 60000) : zS K' c' a' := by
  intro s hs
  obtain ⟨q1, q2⟩ := h s hs
  rw [f 715 s (by omega) (by omega), hc s hs]
  exact ⟨q1, fun z => JV_mono (q2 z) hK⟩
theorem uc_s {j s : Int} (u : Int → Int) (h : j ≤ 7) (hs : 0 ≤ s ∧ s < 2) : uc c j u (8 + s) = c (8 + s) := by unfold uc; rw [if_neg (by omega)]
theorem uc_9 {j : Int} (u : Int → Int) (h : j ≤ 7) : uc c j u 9 = c 9 := by unfold uc; rw [if_neg (by omega)]
theorem uc_e (j : Int) (u : Int → Int) : uc c j u j = u := by unfold uc; rw [if_pos rfl]
/-- the history, where the row aside is written and nothing counted -/
theorem zH_sp (h : zH K c a) (h1 : a' 73 1 = a 73 1) (h2 : a' 73 2 = a 73 2) (hK : K ≤ K' ∧ K' ≤ 60000) (u : Int → Int) : zH K' (uc c ((a 73 1 + a 73 2) % 7 + 1) u) a' := by
  obtain ⟨q1, q2, q4⟩ := h
  unfold zH
  rw [h1, h2]
  refine ⟨q1, q2, fun k hk => ?_⟩
  have e : uc c ((a 73 1 + a 73 2) % 7 + 1) u ((a 73 1 + k) % 7 + 1) = c ((a 73 1 + k) % 7 + 1) := by unfold uc; rw [if_neg (by omega)]
  rw [e]
  exact JV_mono (q4 k hk) hK
theorem zH_i (h : zH K c a) (h1 : a' 73 1 = a 73 1) (h2 : a' 73 2 = a 73 2) (hK : K ≤ K' ∧ K' ≤ 60000) : zH K' c a' := by
  obtain ⟨q1, q2, q4⟩ := h
  unfold zH
  rw [h1, h2]
  exact ⟨q1, q2, fun k hk => JV_mono (q4 k hk) hK⟩
theorem zST_K (S : zST K w c a) : 0 ≤ K ∧ K ≤ 60000 := by have g := S.1.1.1.hd; unfold HEAD at g; omega
theorem cd_n {y : Int} (h : y ≠ 0) : cd y < 0 := by unfold cd; rw [if_neg h]; split <;> (try split) <;> omega
/-- the history counts one more -/
theorem apA_73 (h1 : 0 ≤ a 73 1 ∧ a 73 1 < 7) (h2 : 0 ≤ a 73 2 ∧ a 73 2 ≤ 6) :
    (a 73 2 = 6 ∧ apA a 73 1 = (a 73 1 + 1) % 7 ∧ apA a 73 2 = 6) ∨ (a 73 2 < 6 ∧ apA a 73 1 = a 73 1 ∧ apA a 73 2 = a 73 2 + 1) := by
  unfold apA
  by_cases z : 6 ≤ a 73 2
  · rw [if_pos z]
    left
    exact ⟨by omega, mset_e _ _ _ _, (mset_n (by omega)).trans (by omega)⟩
  · rw [if_neg z]
    right
    exact ⟨by omega, mset_n (by omega), mset_e _ _ _ _⟩
theorem zH_ap (h : zH K c a) (J : JV K w) (hK : K ≤ K' ∧ K' ≤ 60000) {A : Mm} (e1 : A 73 1 = apA a 73 1) (e2 : A 73 2 = apA a 73 2) : zH K' (uc c ((a 73 1 + a 73 2) % 7 + 1) w) A := by
  obtain ⟨q1, q2, q4⟩ := h
  unfold zH
  rw [e1, e2]
  rcases apA_73 q1 q2 with ⟨g1, g2, g3⟩ | ⟨g1, g2, g3⟩
  · rw [g2, g3]
    refine ⟨by omega, by omega, fun k hk => ?_⟩
    by_cases y : k = 5
    · rw [show ((a 73 1 + 1) % 7 + k) % 7 + 1 = (a 73 1 + a 73 2) % 7 + 1 by omega, uc_e]
      exact JV_mono J hK
    · have e : uc c ((a 73 1 + a 73 2) % 7 + 1) w (((a 73 1 + 1) % 7 + k) % 7 + 1) = c ((a 73 1 + (k + 1)) % 7 + 1) := by
        unfold uc
        rw [if_neg (by omega), show ((a 73 1 + 1) % 7 + k) % 7 = (a 73 1 + (k + 1)) % 7 by omega]
      rw [e]
      exact JV_mono (q4 (k + 1) (by omega)) hK
  · rw [g2, g3]
    refine ⟨q1, by omega, fun k hk => ?_⟩
    by_cases y : k = a 73 2
    · rw [y, uc_e]
      exact JV_mono J hK
    · have e : uc c ((a 73 1 + a 73 2) % 7 + 1) w ((a 73 1 + k) % 7 + 1) = c ((a 73 1 + k) % 7 + 1) := by unfold uc; rw [if_neg (by omega)]
      rw [e]
      exact JV_mono (q4 k (by omega)) hK
/-- an act that is done -/
theorem zST_act {u : Int → Int} {A : Mm} (S : zST K w c a) (hK : K ≤ K' ∧ K' ≤ 60000) (J : JV K' u) (f : zF a A) (e1 : A 73 1 = apA a 73 1) (e2 : A 73 2 = apA a 73 2) (R : zR A) : zST K' u (uc c ((a 73 1 + a 73 2) % 7 + 1) w) A :=
  ⟨J, zH_ap S.2.1 S.1 hK e1 e2, zS_f S.2.2.1 f (fun s hs => uc_s w (by omega) hs) hK, R, zT_f S.2.2.2.2.1 f, zD_f S.2.2.2.2.2 f⟩
theorem apA_16 : apA a 1 6 = a 1 6 := by unfold apA; split <;> exact mset_n (by omega)
theorem zST_ok {u : Int → Int} (S : zST K w c a) (hK : K ≤ K' ∧ K' ≤ 60000) (J : JV K' u) : zST K' u (uc c ((a 73 1 + a 73 2) % 7 + 1) w) (apA a) :=
  zST_act S hK J zF_ap rfl rfl (by have r := S.2.2.2.1; unfold zR at *; rw [apA_16]; exact r)
/-- an act that is refused, or wrong -/
theorem zST_er (S : zST K w c a) (u : Int → Int) : zST K w (uc c ((a 73 1 + a 73 2) % 7 + 1) u) a := by
  have hk := zST_K S
  exact ⟨S.1, zH_sp S.2.1 rfl rfl (by omega) u, zS_f S.2.2.1 zF_i (fun s hs => uc_s u (by omega) hs) (by omega), S.2.2.2.1, S.2.2.2.2.1, S.2.2.2.2.2⟩
theorem zST_y {y : Int} (S : zST K w c a) (hy : 1 ≤ y ∧ y ≤ 6) : zST K w c (mset a 1 6 y) := by
  have hk := zST_K S
  exact ⟨S.1, zH_i S.2.1 (mset_n (by omega)) (mset_n (by omega)) (by omega), zS_f S.2.2.1 (zF_16 y) (fun _ _ => rfl) (by omega), by unfold zR; rw [mset_e]; omega, zT_f S.2.2.2.2.1 (zF_16 y), zD_f S.2.2.2.2.2 (zF_16 y)⟩
theorem zST_mono (S : zST K w c a) (h : K ≤ K' ∧ K' ≤ 60000) : zST K' w c a :=
  ⟨JV_mono S.1 h, zH_i S.2.1 rfl rfl h, zS_f S.2.2.1 zF_i (fun _ _ => rfl) h, S.2.2.2⟩
/-- acts leave the ends of what is left -/
theorem IC_c {u : Int → Int} (B : IC w) (h0 : u 0 = w 0) (h2 : u 2 = w 2) (h3 : u 3 = w 3) (hl : ∀ l, 0 ≤ l ∧ l < w 2 → u (40 + 11 * l + 5) = w (40 + 11 * l + 5) ∧ (0 < un u l → 0 < un w l) ∧ u (40 + 11 * l + 2) = w (40 + 11 * l + 2)) (hx : ∀ e, 0 ≤ e ∧ e < w 3 → u (370 + 5 * e + 3) = w (370 + 5 * e + 3) ∧ (u (370 + 5 * e + 4) = 0 → w (370 + 5 * e + 4) = 0)) : IC u := by
  refine ⟨fun l q z => ?_, fun e q z => ?_, fun l q => ?_⟩
  · rw [h2] at q
    have x := hl l q
    rw [h0, x.1]
    exact B.1 l q (x.2.1 z)
  · rw [h3] at q
    have x := hx e q
    rw [h0, x.1]
    exact B.2.1 e q (x.2 z)
  · rw [h2] at q
    rw [(hl l q).2.2]
    exact B.2.2 l q
end STATE
