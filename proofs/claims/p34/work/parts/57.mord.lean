/-! m reads all orders -/
def oC (T : Int → Int) (L : Int) : Nat → Int → Nat
  | 0, _ => 0
  | m + 1, p => if oE T L p = L then 1 else oC T L m (oE T L p + 1) + 1
def oPos (T : Int → Int) (L : Int) : Nat → Int → Int
  | 0, p => p
  | i + 1, p => oPos T L i (oE T L p + 1)
theorem fF_s (T : Int → Int) (L : Int) (m : Nat) (p : Int) : fF T L (m + 1) p = if oF T L p = -1 then (if oE T L p = L then -1 else fF T L m (oE T L p + 1)) else oF T L p := Eq.trans rfl rfl
theorem oC_s (T : Int → Int) (L : Int) (m : Nat) (p : Int) : oC T L (m + 1) p = if oE T L p = L then 1 else oC T L m (oE T L p + 1) + 1 := Eq.trans rfl rfl
theorem oPos_s (T : Int → Int) (L : Int) (i : Nat) (p : Int) : oPos T L (i + 1) p = oPos T L i (oE T L p + 1) := Eq.trans rfl rfl
section MALL
variable {N : Nat} (v : Int → Int) (c : Int → Int → Int) (w : Int → Int) {T : Int → Int} {L : Int}
end MALL
