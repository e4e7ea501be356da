def sp_join (n2 : Nat) (b : Nat → Nat) (n : Nat) (a : Nat → Nat) : Int32 × Nat × (Nat → Nat) :=
  if n2 = n then (if ∀ j, j < n → a j + b j ≤ 1000000 then (nI n, n, fun j => a j + b j) else (-6, n, a)) else (-3, n, a)
/-- a row of numbers with one place written -/
theorem up_lt {x o : Nat → Nat} {i v : Nat} (h : ∀ j, j < i → x j = o j) : ∀ j, j < i + 1 → va_up x i v j = va_up o i v j := by
  intro j hj
  by_cases q : j = i
  · subst q; rw [va_up_self, va_up_self]
  · rw [va_up_ne _ _ q, va_up_ne _ _ q]; exact h j (by omega)
theorem up_le {x : Nat → Nat} {n i v B : Nat} (h : ∀ j, j < n → x j ≤ B) (hv : v ≤ B) : ∀ j, j < n → va_up x i v j ≤ B := by
  intro j hj
  by_cases q : j = i
  · subst q; rw [va_up_self]; exact hv
  · rw [va_up_ne _ _ q]; exact h j hj
theorem up_ge {x a : Nat → Nat} {n i i' k v : Nat} (h : ∀ j, i ≤ j → j < n → x j = a j) (h1 : i ≤ i') (h2 : k < i') : ∀ j, i' ≤ j → j < n → va_up x k v j = a j := by
  intro j h3 h4
  rw [va_up_ne _ _ (by omega)]
  exact h j (by omega) h4
theorem mean_le {a : Nat → Nat} {n : Nat} (hn : n ≤ 400) (hab : ∀ j, j < n → a j ≤ 1000000) : sp_mean n a ≤ 400000000 := by
  have h := sm_le hab
  have h2 := Nat.div_le_self (sm a n) n
  unfold sp_mean
  omega
theorem mean_up {a : Nat → Nat} {n t : Nat} (hn : n ≤ 400) (hab : ∀ j, j < n → a j ≤ 1000000) (ht : t ≤ 1100) : sp_mean n a * t < 2 ^ 62 := by
  have h := Nat.mul_le_mul (mean_le hn hab) ht
  omega
