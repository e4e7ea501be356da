/-- Fibonacci's numbers, two by two -/
def fbp : Nat → Nat × Nat
  | 0 => (0, 1)
  | k + 1 => match fbp k with
    | (a, b) => (b, a + b)
theorem fbp_s (k : Nat) : (fbp (k + 1)).1 = (fbp k).2 ∧ (fbp (k + 1)).2 = (fbp k).1 + (fbp k).2 := ⟨rfl, rfl⟩
theorem fbp_98 : 9223372036854775808 ≤ (fbp 99).1 := by decide +kernel
/-- Euclid's steps: at most k more -/
def euc (k x y : Nat) : Prop := y < x ∧ (y < (fbp k).1 ∨ x < (fbp k).2)
theorem euc_step {k x y : Nat} (h : euc (k + 1) x y) (hy : 0 < y) : euc k y (x % y) := by
  obtain ⟨h1, h2⟩ := h
  obtain ⟨e1, e2⟩ := fbp_s k
  rw [e1, e2] at h2
  have h3 := Nat.mod_lt x hy
  have h4 : x % y ≤ x - y := by
    rw [Nat.mod_eq_sub_mod (by omega)]
    exact Nat.mod_le _ _
  refine ⟨h3, ?_⟩
  rcases Nat.lt_or_ge y (fbp k).2 with q | q
  · exact Or.inr q
  · left; omega
theorem euc_0 {x y : Nat} (h : euc 0 x y) : False := by
  obtain ⟨h1, h2⟩ := h
  have e : fbp 0 = (0, 1) := rfl
  rw [e] at h2
  simp only at h2
  omega
/-- lowest terms -/
def lt2 (a b : Nat) : Nat × Nat := (a / Nat.gcd a b, b / Nat.gcd a b)
theorem lt2_pos {a b : Nat} (ha : 0 < a) (hb : 0 < b) : 0 < (lt2 a b).1 ∧ 0 < (lt2 a b).2 := by
  have h := Nat.gcd_pos_of_pos_left b ha
  exact ⟨Nat.div_pos (Nat.gcd_le_left b ha) h, Nat.div_pos (Nat.gcd_le_right a hb) h⟩
theorem lt2_le (a b : Nat) : (lt2 a b).1 ≤ a ∧ (lt2 a b).2 ≤ b := ⟨Nat.div_le_self _ _, Nat.div_le_self _ _⟩
theorem lt2_one {a b : Nat} (h : Nat.gcd a b = 1) : lt2 a b = (a, b) := by unfold lt2; rw [h, Nat.div_one, Nat.div_one]
def frac (ad : Nat → Nat) (k a b : Nat) (g : PF) : Prop := g k = .inr (0, [.long (lN a), .long (lN b)])
def fr1 (k : Nat) (g g' : PF) : Prop := ∀ j, j ≠ k → g' j = g j
