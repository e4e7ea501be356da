theorem flt_step {n w z q t u : Nat} {a x : Nat → Nat} (ht : t = q * w) (hq : q < n / w) (h1 : t ≤ u) (h2 : u < t + w / 2) (h : ∀ j, j < n → x j = if j < t then flt n a w z j else if j < u ∨ (t + w / 2 ≤ j ∧ j < u + w / 2) then flt n a w z j else a j) : ∀ j, j < n → va_up (va_up x u (a u - a u * z / 1000)) (u + w / 2) (a (u + w / 2) + a u * z / 1000) j = if j < t then flt n a w z j else if j < u + 1 ∨ (t + w / 2 ≤ j ∧ j < u + 1 + w / 2) then flt n a w z j else a j := by
  intro j hj
  have e : q * w + (u - t) = u := by omega
  by_cases c1 : j = u + w / 2
  · rw [c1, va_up_self, if_neg (by omega), if_pos (by omega)]
    have := flt_hi (n := n) (w := w) (z := z) (q := q) (i := u - t) (a := a) hq (by omega)
    rw [e] at this
    rw [this]
    rfl
  · rw [va_up_ne _ _ c1]
    by_cases c2 : j = u
    · rw [c2, va_up_self, if_neg (by omega), if_pos (by omega)]
      have := flt_lo (n := n) (w := w) (z := z) (q := q) (i := u - t) (a := a) hq (by omega)
      rw [e] at this
      rw [this]
      rfl
    · rw [va_up_ne _ _ c2, h j hj]
      by_cases c3 : j < t
      · rw [if_pos c3, if_pos c3]
      · rw [if_neg c3, if_neg c3]
        by_cases c4 : j < u ∨ (t + w / 2 ≤ j ∧ j < u + w / 2)
        · rw [if_pos c4, if_pos (by omega)]
        · rw [if_neg c4, if_neg (by omega)]
theorem flt_next {n w z q t u : Nat} {a x : Nat → Nat} (ht : t = q * w) (hu : u = t + w / 2) (h : ∀ j, j < n → x j = if j < t then flt n a w z j else if j < u ∨ (t + w / 2 ≤ j ∧ j < u + w / 2) then flt n a w z j else a j) : ∀ j, j < n → x j = if j < t + w then flt n a w z j else a j := by
  intro j hj
  rw [h j hj]
  by_cases c3 : j < t
  · rw [if_pos c3, if_pos (by omega)]
  · rw [if_neg c3]
    by_cases c4 : j < u ∨ (t + w / 2 ≤ j ∧ j < u + w / 2)
    · rw [if_pos c4, if_pos (by omega)]
    · rw [if_neg c4]
      by_cases c5 : j < t + w
      · rw [if_pos c5]
        have := flt_mid (n := n) (w := w) (z := z) (q := q) (i := j - t) (a := a) (by omega) (by omega)
        rw [show q * w + (j - t) = j by omega] at this
        exact this.symm
      · rw [if_neg c5]
theorem sm_up {f : Nat → Nat} {t u : Nat} (h : t ≤ u) : sm f (u + 1 - t) = sm f (u - t) + f (u - t) := by
  rw [show u + 1 - t = (u - t) + 1 by omega]
  rfl
