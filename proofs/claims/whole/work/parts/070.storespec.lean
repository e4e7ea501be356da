abbrev StS : Type := Nat × (Nat → Nat) × Nat × Nat × (Nat → Nat) × Nat
/-- BALES: how many, their NUMBERS, LAYDOWNS of THE PLAN, BALES of each, THE PLAN, TRIES -/
def storeOk (B : StS) : Prop := B.1 ≤ 12 ∧ (∀ j, j < B.1 → B.2.1 j ≤ 10000) ∧ (0 < B.2.2.1 → (1 ≤ B.2.2.2.1 ∧ B.2.2.2.1 ≤ 6)) ∧ B.2.2.1 * B.2.2.2.1 ≤ 12 ∧ (∀ j, j < B.2.2.1 * B.2.2.2.1 → B.2.2.2.2.1 j ≤ 12) ∧ B.2.2.2.2.2 ≤ 100000 ∧ B.2.2.1 ≤ 12
def rStore (X : Cx) (ad : Nat → Nat) (B : StS) (g : PF) : Prop := ∃ (ec lsu msu spn : Nat) (hn ho : Nat → Nat), g 33 = .inr (4, [.int (nI B.1), .int (nI B.2.2.1), .int (nI B.2.2.2.2.2), .int (nI ec), .int (nI lsu), .int (nI msu), .int (nI spn), .ref (ad 34), .ref (ad 35)]) ∧ g 34 = arr X 12 hn ∧ g 35 = arr X 12 ho ∧ (∀ j, j < B.1 → hn j = B.2.1 j) ∧ (0 < B.2.2.1 → ec = B.2.2.2.1) ∧ (∀ j, j < B.2.2.1 * B.2.2.2.1 → ho j = B.2.2.2.2.1 j) ∧ (1 ≤ ec ∧ ec ≤ 6) ∧ storeOk B
def frS (g g' : PF) : Prop := ∀ j, (j < 33 ∨ 35 < j) → g' j = g j
theorem rStore.same {X : Cx} {ad : Nat → Nat} {B : StS} {g g' : PF} (h : rStore X ad B g) (hs : ∀ r, 33 ≤ r → r < 36 → g' r = g r) : rStore X ad B g' := by
  obtain ⟨ec, lsu, msu, spn, hn, ho, q1, q2, q3, q4⟩ := h
  exact ⟨ec, lsu, msu, spn, hn, ho, (hs _ (by omega) (by omega)).trans q1, (hs _ (by omega) (by omega)).trans q2, (hs _ (by omega) (by omega)).trans q3, q4⟩
theorem postS {X : Cx} {ad : Nat → Nat} {g g' : PF} {S : Int32 × StS} {r : Int32} {B' : StS} (e : S = (r, B')) (h : rStore X ad B' g') (f : frS g g') : r = S.1 ∧ rStore X ad S.2 g' ∧ frS g g' := by
  subst e
  exact ⟨rfl, h, f⟩
def sp_bale (p : Int32) (B : StS) : Int32 × StS := if rng p 0 10000 then (if 12 ≤ B.1 then (-4, B) else (nI B.1, B.1 + 1, va_up B.2.1 B.1 (tN p), 0, B.2.2.2)) else (-2, B)
def sp_clearBales (B : StS) : Int32 × StS := (nI B.1, 0, B.2.1, 0, B.2.2.2)
def sp_planAt (p q : Int32) (B : StS) : Int32 := if rngS p B.2.2.1 ∧ rngS q B.2.2.2.1 then nI (B.2.2.2.2.1 (tN p * B.2.2.2.1 + tN q)) else -1
