theorem lpF_used {F : Nat → Nat → (Nat → Nat) → SrO} {pos sz b t : Nat} {od : Nat → Nat} (hb : b < sz) (h : ¬ fre od pos b) : lpF F pos (sz - b) b t od = lpF F pos (sz - (b + 1)) (b + 1) t od := by
  rw [show sz - b = (sz - (b + 1)) + 1 by omega]
  show (if fre od pos b then _ else _) = _
  rw [if_neg h]
theorem lpF_spent {F : Nat → Nat → (Nat → Nat) → SrO} {pos sz b t : Nat} {od : Nat → Nat} (hb : b < sz) (h : fre od pos b) (ht : ¬ t < 100000) : lpF F pos (sz - b) b t od = (2, t, od) := by
  rw [show sz - b = (sz - (b + 1)) + 1 by omega]
  show (if fre od pos b then _ else _) = _
  rw [if_pos h, if_neg ht]
theorem lpF_try {F : Nat → Nat → (Nat → Nat) → SrO} {pos sz b t : Nat} {od : Nat → Nat} (hb : b < sz) (h : fre od pos b) (ht : t < 100000) : lpF F pos (sz - b) b t od = if (F b (t + 1) (va_up od pos b)).1 = 0 then lpF F pos (sz - (b + 1)) (b + 1) (F b (t + 1) (va_up od pos b)).2.1 (F b (t + 1) (va_up od pos b)).2.2 else F b (t + 1) (va_up od pos b) := by
  rw [show sz - b = (sz - (b + 1)) + 1 by omega]
  show (if fre od pos b then _ else _) = _
  rw [if_pos h, if_pos ht]
theorem lpF_end {F : Nat → Nat → (Nat → Nat) → SrO} {pos sz b t : Nat} {od : Nat → Nat} (hb : sz ≤ b) : lpF F pos (sz - b) b t od = (0, t, od) := by
  rw [show sz - b = 0 by omega]
  rfl
abbrev zrS (d : Nat) : Room := { frames := d + 20, cells := 0, slots := 0, locals := 30 * d + 300 }
/-- what the search leaves behind -/
def srP (X : Cx) (ad : Nat → Nat) (sz n lo hh lay pos : Nat) (od : Nat → Nat) (o : SrO) (g : PF) (r : Int32) (g' : PF) : Prop := r = bI (o.1 = 1) ∧ (∃ ho : Nat → Nat, g' 33 = .inr (4, [.int (nI sz), .int (nI lay), .int (nI o.2.1), .int (nI n), .int (nI lo), .int (nI hh), .int (nI (if o.1 = 2 then 1 else 0)), .ref (ad 34), .ref (ad 35)]) ∧ g' 35 = arr X 12 ho ∧ (∀ j, j < pos → ho j = od j) ∧ (o.1 = 1 → ∀ j, j < sz → ho j = o.2.2 j)) ∧ ∀ j, j ≠ 33 → j ≠ 35 → g' j = g j
