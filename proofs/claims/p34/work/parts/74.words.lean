/-! the texts that the law types -/
def tl (xs : List Int) : Int → Int := fun i => xs.getD i.toNat 0
/-- the digits of a number below 100 -/
def dgs (v : Int) : List Int := if v < 10 then [48 + v] else [48 + v / 10, 48 + v % 10]
/-- a number stands there -/
def dgt (T : Int → Int) (p d x : Int) : Prop := (d = 1 ∧ (0 ≤ x ∧ x ≤ 9) ∧ T p = 48 + x) ∨ (d = 2 ∧ (10 ≤ x ∧ x ≤ 99) ∧ T p = 48 + x / 10 ∧ T (p + 1) = 48 + x % 10)
section WORDS
variable {T : Int → Int} {L : Int}
theorem te_tok : ∀ (k : Nat) (p e : Int), p + k = e → e ≤ L → (∀ i, p ≤ i → i < e → T i ≠ 32 ∧ T i ≠ 59) → (e = L ∨ T e = 32 ∨ T e = 59) → te T L p = e := by
  intro k
  induction k with
  | zero =>
    intro p e h h1 h2 h3
    have pe : p = e := by omega
    subst pe
    rw [te_u h1]
    by_cases q : L ≤ p
    · rw [if_pos q]
    · rw [if_neg q, if_pos (by rcases h3 with h3 | h3; omega; exact h3)]
  | succ k ih =>
    intro p e h h1 h2 h3
    have q := h2 p (by omega) (by omega)
    rw [te_u (by omega), if_neg (by omega), if_neg (fun z => z.elim q.1 q.2)]
    exact ih (p + 1) e (by omega) h1 (fun i hi hj => h2 i (by omega) hj) h3
theorem nb_dg {p d x lo hi : Int} (h : dgt T p d x) (hx : lo ≤ x ∧ x ≤ hi) : nb T p (p + d) lo hi = x := by
  rcases h with ⟨h1, h2, h3⟩ | ⟨h1, h2, h3, h4⟩
  · subst h1
    unfold nb
    rw [if_pos (by omega), show (p + 1 - p).toNat = 0 + 1 by omega]
    unfold nbl
    rw [if_pos (by omega), h3]
    unfold nbl
    rw [show (0 : Int) * 10 + (48 + x - 48) = x by omega, if_pos hx]
  · subst h1
    unfold nb
    rw [if_pos (by omega), show (p + 2 - p).toNat = 0 + 1 + 1 by omega]
    unfold nbl
    rw [if_pos (by omega), h3]
    unfold nbl
    rw [if_pos (by omega), h4]
    unfold nbl
    rw [show ((0 : Int) * 10 + (48 + x / 10 - 48)) * 10 + (48 + x % 10 - 48) = x by omega, if_pos hx]
theorem te_dg {p d x : Int} (h : dgt T p d x) (h1 : p + d ≤ L) (h2 : p + d = L ∨ T (p + d) = 32 ∨ T (p + d) = 59) : te T L p = p + d := by
  rcases h with ⟨g1, g2, g3⟩ | ⟨g1, g2, g3, g4⟩
  · subst g1
    refine te_tok 1 p (p + 1) (by omega) h1 (fun i hi hj => ?_) h2
    rw [show i = p by omega, g3]; omega
  · subst g1
    refine te_tok 2 p (p + 2) (by omega) h1 (fun i hi hj => ?_) h2
    by_cases q : i = p
    · rw [q, g3]; omega
    · rw [show i = p + 1 by omega, g4]; omega
theorem dg_d {p d x : Int} (h : dgt T p d x) : (d = 1 ∨ d = 2) ∧ 0 ≤ x ∧ x ≤ 99 := by
  rcases h with ⟨g1, g2, g3⟩ | ⟨g1, g2, g3, g4⟩ <;> omega
/-- the number behind a blank -/
theorem nF_dg {p d x lo hi : Int} (h0 : T p = 32) (h : dgt T (p + 1) d x) (hx : lo ≤ x ∧ x ≤ hi) (h1 : p + 1 + d ≤ L) (h2 : p + 1 + d = L ∨ T (p + 1 + d) = 32 ∨ T (p + 1 + d) = 59) : nF T L p lo hi = -1 := by
  have b := dg_d h
  unfold nF
  rw [if_neg (by omega), if_pos h0, te_dg h h1 h2, nb_dg h hx, if_neg (by omega)]
theorem give_w (h0 : T 0 = 103) (h1 : T 1 = 105) (h2 : T 2 = 118) (h3 : T 3 = 101) (h4 : T 4 = 32) (hL : 5 ≤ L) : te T L 0 = 4 ∧ oW T L 0 = 6 := by
  have e : te T L 0 = 4 := te_tok 4 0 4 (by omega) (by omega) (fun i hi hj => by
    rcases (show i = 0 ∨ i = 1 ∨ i = 2 ∨ i = 3 by omega) with q | q | q | q <;> subst q <;> omega) (Or.inr (Or.inl h4))
  refine ⟨e, ?_⟩
  unfold oW
  rw [e]
  unfold wd0 wd1 wd2 wd3 wd4 wd5 wd6
  rw [if_neg (by omega), if_neg (by omega), if_neg (by omega), if_neg (by omega), if_neg (by omega), if_neg (by omega), if_pos ⟨by omega, h0, h1, h2, h3⟩]
theorem prove_w (h0 : T 0 = 112) (h1 : T 1 = 114) (h2 : T 2 = 111) (h3 : T 3 = 118) (h4 : T 4 = 101) (h5 : T 5 = 32) (hL : 6 ≤ L) : te T L 0 = 5 ∧ oW T L 0 = 4 := by
  have e : te T L 0 = 5 := te_tok 5 0 5 (by omega) (by omega) (fun i hi hj => by
    rcases (show i = 0 ∨ i = 1 ∨ i = 2 ∨ i = 3 ∨ i = 4 by omega) with q | q | q | q | q <;> subst q <;> omega) (Or.inr (Or.inl h5))
  refine ⟨e, ?_⟩
  unfold oW
  rw [e]
  unfold wd0 wd1 wd2 wd3 wd4
  rw [if_neg (by omega), if_neg (by omega), if_neg (by omega), if_neg (by omega), if_pos ⟨by omega, h0, h1, h2, h3, h4⟩]
theorem days_w {p : Int} (h0 : T p = 100) (h1 : T (p + 1) = 97) (h2 : T (p + 2) = 121) (h3 : T (p + 3) = 115) (h4 : T (p + 4) = 32) (hL : p + 5 ≤ L) : te T L p = p + 4 ∧ oW T L p = 7 := by
  have e : te T L p = p + 4 := te_tok 4 p (p + 4) (by omega) (by omega) (fun i hi hj => by
    rcases (show i = p ∨ i = p + 1 ∨ i = p + 2 ∨ i = p + 3 by omega) with q | q | q | q <;> subst q <;> omega) (Or.inr (Or.inl h4))
  refine ⟨e, ?_⟩
  unfold oW
  rw [e]
  unfold wd0 wd1 wd2 wd3 wd4 wd5 wd6 wd7
  rw [if_neg (by omega), if_neg (by omega), if_neg (by omega), if_neg (by omega), if_neg (by omega), if_neg (by omega), if_neg (by omega), if_pos ⟨by omega, h0, h1, h2, h3⟩]
/-- one number, and the end -/
theorem ch_1 {e d x lo hi : Int} (h0 : T e = 32) (h : dgt T (e + 1) d x) (hx : lo ≤ x ∧ x ≤ hi) (h1 : e + 1 + d ≤ L) (h2 : e + 1 + d = L ∨ T (e + 1 + d) = 59) : ch T L [(lo, hi)] e = (-1, e + 1 + d) ∧ vls T L [(lo, hi)] e = [x] := by
  have t := te_dg h h1 (by omega)
  have n := nF_dg h0 h hx h1 (by omega)
  refine ⟨?_, ?_⟩
  · show (if nF T L e lo hi = -1 then ch T L [] (te T L (e + 1)) else (nF T L e lo hi, e)) = _
    rw [if_pos n, t]
    show (if e + 1 + d = L ∨ T (e + 1 + d) = 59 then (-1 : Int) else e + 1 + d, e + 1 + d) = _
    rw [if_pos h2]
  · show [nb T (e + 1) (te T L (e + 1)) lo hi] = _
    rw [t, nb_dg h hx]
theorem ch_2 {e d x y : Int} (h0 : T e = 32) (h : dgt T (e + 1) d x) (hx : 0 ≤ x ∧ x ≤ 29) (h5 : T (e + 1 + d) = 32) {f : Int} (k : dgt T (e + 1 + d + 1) f y) (hy : 0 ≤ y ∧ y ≤ 4) (h1 : e + 1 + d + 1 + f ≤ L) (h2 : e + 1 + d + 1 + f = L ∨ T (e + 1 + d + 1 + f) = 59) : ch T L [(0, 29), (0, 4)] e = (-1, e + 1 + d + 1 + f) ∧ vls T L [(0, 29), (0, 4)] e = [x, y] := by
  have b := dg_d k
  have t := te_dg h (L := L) (by omega) (Or.inr (Or.inl h5))
  have n := nF_dg h0 h hx (L := L) (by omega) (Or.inr (Or.inl h5))
  have c := ch_1 (L := L) h5 k hy h1 h2
  refine ⟨?_, ?_⟩
  · show (if nF T L e 0 29 = -1 then ch T L [(0, 4)] (te T L (e + 1)) else (nF T L e 0 29, e)) = _
    rw [if_pos n, t]; exact c.1
  · show nb T (e + 1) (te T L (e + 1)) 0 29 :: vls T L [(0, 4)] (te T L (e + 1)) = _
    rw [t, nb_dg h hx, c.2]
theorem give_o {d l a f : Int} (h0 : T 0 = 103) (h1 : T 1 = 105) (h2 : T 2 = 118) (h3 : T 3 = 101) (h4 : T 4 = 32) (h : dgt T 5 d l) (hx : 0 ≤ l ∧ l ≤ 29) (h5 : T (5 + d) = 32) (k : dgt T (5 + d + 1) f a) (hy : 0 ≤ a ∧ a ≤ 4) (g1 : 5 + d + 1 + f ≤ L) (g2 : 5 + d + 1 + f = L ∨ T (5 + d + 1 + f) = 59) :
    oW T L 0 = 6 ∧ oF T L 0 = -1 ∧ oE T L 0 = 5 + d + 1 + f ∧ oN T L 0 0 = l ∧ oN T L 0 1 = a := by
  have b := dg_d h
  have b2 := dg_d k
  obtain ⟨w1, w2⟩ := give_w h0 h1 h2 h3 h4 (L := L) (by omega)
  obtain ⟨c1, c2⟩ := ch_2 (L := L) (e := 4) h4 h hx h5 k hy g1 g2
  unfold oF oE oN
  rw [w2, w1, show plc 6 = [(0, 29), (0, 4)] from rfl, c1, c2]
  exact ⟨rfl, rfl, rfl, rfl, rfl⟩
theorem prove_o {d l : Int} (h0 : T 0 = 112) (h1 : T 1 = 114) (h2 : T 2 = 111) (h3 : T 3 = 118) (h4 : T 4 = 101) (h5 : T 5 = 32) (h : dgt T 6 d l) (hx : 0 ≤ l ∧ l ≤ 29) (g1 : 6 + d ≤ L) (g2 : 6 + d = L ∨ T (6 + d) = 59) :
    oW T L 0 = 4 ∧ oF T L 0 = -1 ∧ oE T L 0 = 6 + d ∧ oN T L 0 0 = l := by
  have b := dg_d h
  obtain ⟨w1, w2⟩ := prove_w h0 h1 h2 h3 h4 h5 (L := L) (by omega)
  obtain ⟨c1, c2⟩ := ch_1 (L := L) (e := 5) h5 h hx g1 g2
  unfold oF oE oN
  rw [w2, w1, show plc 4 = [(0, 29)] from rfl, c1, c2]
  exact ⟨rfl, rfl, rfl, rfl⟩
theorem days_o {p d n : Int} (h0 : T p = 100) (h1 : T (p + 1) = 97) (h2 : T (p + 2) = 121) (h3 : T (p + 3) = 115) (h4 : T (p + 4) = 32) (h : dgt T (p + 4 + 1) d n) (hx : 1 ≤ n ∧ n ≤ 100) (g : p + 4 + 1 + d = L) :
    oW T L p = 7 ∧ oF T L p = -1 ∧ oE T L p = L ∧ oN T L p 0 = n := by
  have b := dg_d h
  obtain ⟨w1, w2⟩ := days_w h0 h1 h2 h3 h4 (L := L) (by omega)
  obtain ⟨c1, c2⟩ := ch_1 (L := L) (e := p + 4) h4 h hx (by omega) (Or.inl g)
  unfold oF oE oN
  rw [w2, w1, show plc 7 = [(1, 100)] from rfl, c1, c2]
  exact ⟨rfl, rfl, g, rfl⟩
/-- the text ends where a word is awaited -/
theorem end_o (h : 0 ≤ L) : oF T L L = L := by
  have e : te T L L = L := te_tok 0 L L (by omega) (by omega) (fun i hi hj => by omega) (Or.inl rfl)
  have w : oW T L L = -1 := by
    unfold oW
    rw [e]
    unfold wd0 wd1 wd2 wd3 wd4 wd5 wd6 wd7
    rw [if_neg (by omega), if_neg (by omega), if_neg (by omega), if_neg (by omega), if_neg (by omega), if_neg (by omega), if_neg (by omega), if_neg (by omega)]
  unfold oF
  rw [if_pos w]
/-- the text ends where a number is awaited -/
theorem num_o {p : Int} {k : Int} {r : List (Int × Int)} (w1 : te T L 0 = p) (w2 : oW T L 0 = k) (hk : k ≠ -1) {lo hi : Int} (hp : plc k = (lo, hi) :: r) (h0 : T p = 32) (hL : p + 1 = L) (h9 : 0 ≤ p) : oF T L 0 = L := by
  have e : te T L L = L := te_tok 0 L L (by omega) (by omega) (fun i hi hj => by omega) (Or.inl rfl)
  have n : nF T L p lo hi = L := by
    unfold nF
    rw [if_neg (by omega), if_pos h0, hL, e, show nb T L L lo hi = -1 from by unfold nb; rw [if_neg (by omega)], if_pos rfl]
  unfold oF
  rw [w2, if_neg hk, w1, hp]
  show (if nF T L p lo hi = -1 then ch T L r (te T L (p + 1)) else (nF T L p lo hi, p)).1 = L
  rw [n, if_neg (by omega)]
end WORDS
/-! what the typed texts mean -/
section TYPED
theorem tl_e (xs : List Int) (n : Int) : tl xs n = xs.getD n.toNat 0 := rfl
theorem dgs_dg (pre post : List Int) {v : Int} (hv : 0 ≤ v ∧ v ≤ 99) : dgt (tl (pre ++ (dgs v ++ post))) pre.length (dgs v).length v := by
  unfold dgs dgt
  by_cases q : v < 10
  · rw [if_pos q]
    left
    refine ⟨rfl, by omega, ?_⟩
    rw [tl_e, show ((pre.length : Int)).toNat = pre.length by omega]
    simp
  · rw [if_neg q]
    right
    refine ⟨rfl, by omega, ?_, ?_⟩
    · rw [tl_e, show ((pre.length : Int)).toNat = pre.length by omega]
      simp
    · rw [tl_e, show ((pre.length : Int) + 1).toNat = pre.length + 1 by omega]
      simp
theorem tl_at (pre post : List Int) (x : Int) {n : Int} (h : n = pre.length) : tl (pre ++ (x :: post)) n = x := by
  subst h
  rw [tl_e, show ((pre.length : Int)).toNat = pre.length by omega]
  simp
end TYPED
