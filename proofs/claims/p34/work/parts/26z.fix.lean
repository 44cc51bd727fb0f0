/-! the same steps, with what comes after held fast: nothing is rewritten there before its turn -/
def PK {α : Type} (_ : α) : Type := Unit
def bz (o : Rs) (k : Int → Mm → Rs) (_ : PK k) : Rs := bd o k
def nz {α : Type} (x : α) (k : α → Rs) (_ : PK k) : Rs := k x
def cz (P : Prop) [Decidable P] (k : Rs) (_ : PK k) : Rs := ck P k
def iz (P : Prop) [Decidable P] (x y : Rs) (_ : PK (x, y)) : Rs := if P then x else y
def pk {α : Type} (x : α) : PK x := ()
theorem to_bz (o : Rs) (k : Int → Mm → Rs) : bd o k = bz o k (pk k) := Eq.trans rfl rfl
theorem to_nz {α : Type} (x : α) (k : α → Rs) : nm x k = nz x k (pk k) := Eq.trans rfl rfl
theorem to_cz (P : Prop) [Decidable P] (k : Rs) : ck P k = cz P k (pk k) := Eq.trans rfl rfl
theorem to_iz (P : Prop) [Decidable P] (x y : Rs) : (if P then x else y) = iz P x y (pk (x, y)) := Eq.trans rfl rfl
theorem bz_t (r : Int) (μ : Mm) (k : Int → Mm → Rs) (t : PK k) : bz (some (r, μ)) k t = k r μ := Eq.trans rfl rfl
theorem nz_t {α : Type} (x : α) (k : α → Rs) (t : PK k) : nz x k t = k x := Eq.trans rfl rfl
theorem cz_t {P : Prop} [Decidable P] {k : Rs} {t : PK k} (h : P) : cz P k t = k := if_pos h
theorem cz_T {k : Rs} {t : PK k} (i : Decidable True) : @cz True i k t = k := if_pos trivial
theorem iz_y {P : Prop} [Decidable P] {x y : Rs} {t : PK (x, y)} (h : P) : iz P x y t = x := if_pos h
theorem iz_n {P : Prop} [Decidable P] {x y : Rs} {t : PK (x, y)} (h : ¬ P) : iz P x y t = y := if_neg h
theorem iz_T {x y : Rs} {t : PK (x, y)} (i : Decidable True) : @iz True i x y t = x := if_pos trivial
theorem iz_F {x y : Rs} {t : PK (x, y)} (i : Decidable False) : @iz False i x y t = y := if_neg not_false
theorem eq_bd {o : Rs} {r : Int} {μ : Mm} (h : ∀ k : Int → Mm → Rs, bd o k = k r μ) : o = some (r, μ) := by
  have e := h (fun r μ => some (r, μ))
  cases o with
  | none => cases e
  | some q => exact e
