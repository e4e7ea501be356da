/-- a ROW of the class: its object at role k, its cells at role k + 1 -/
def rRow (X : Cx) (ad : Nat → Nat) (k n : Nat) (a : Nat → Nat) (g : PF) : Prop := ∃ x : Nat → Nat, g k = .inr (3, [.int (nI n), .ref (ad (k + 1))]) ∧ g (k + 1) = arr X 400 x ∧ (∀ j, j < n → x j = a j) ∧ n ≤ 400 ∧ ∀ j, j < n → a j ≤ 1000000
def fr2 (k : Nat) (g g' : PF) : Prop := ∀ j, j ≠ k → j ≠ k + 1 → g' j = g j
theorem rRow.same {X : Cx} {ad : Nat → Nat} {k n : Nat} {a : Nat → Nat} {g g' : PF} (h : rRow X ad k n a g) (h1 : g' k = g k) (h2 : g' (k + 1) = g (k + 1)) : rRow X ad k n a g' := by
  obtain ⟨x, q1, q2, q3⟩ := h
  exact ⟨x, h1.trans q1, h2.trans q2, q3⟩
theorem post3 {X : Cx} {ad : Nat → Nat} {k : Nat} {g g' : PF} {S : Int32 × Nat × (Nat → Nat)} {r : Int32} {n' : Nat} {a' : Nat → Nat} (e : S = (r, n', a')) (h : rRow X ad k n' a' g') (f : fr2 k g g') : r = S.1 ∧ rRow X ad k S.2.1 S.2.2 g' ∧ fr2 k g g' := by
  subst e
  exact ⟨rfl, h, f⟩
/-- the sum of k CELLS from f on -/
def sg (a : Nat → Nat) (f k : Nat) : Nat := sm (fun i => a (f + i)) k
theorem sg_step {a : Nat → Nat} {f i : Nat} (h : f ≤ i) : sg a f (i + 1 - f) = sg a f (i - f) + a i := by
  have e : i + 1 - f = (i - f) + 1 := by omega
  have e2 : f + (i - f) = i := by omega
  rw [e]
  show sm _ (i - f) + a (f + (i - f)) = _
  rw [e2]
  rfl
theorem sg_le {a : Nat → Nat} {f k b : Nat} (h : ∀ j, j < k → a (f + j) ≤ b) : sg a f k ≤ k * b := sm_le h
theorem sg_0 (a : Nat → Nat) (k : Nat) : sg a 0 k = sm a k := by
  unfold sg
  exact sm_cong (fun j _ => by rw [Nat.zero_add])
def sp_at (i : Int32) (n : Nat) (a : Nat → Nat) : Int32 := if rngS i n then nI (a (tN i)) else -1
def sp_cell (v : Int32) (n : Nat) (a : Nat → Nat) : Int32 × Nat × (Nat → Nat) := if rng v 0 1000000 then (if 400 ≤ n then (-4, n, a) else (nI (n + 1), n + 1, va_up a n (tN v))) else (-2, n, a)
def sp_empty (n : Nat) (a : Nat → Nat) : Int32 × Nat × (Nat → Nat) := (nI n, 0, a)
