theorem va_up_id {α : Type} (f : Nat → α) (k : Nat) : va_up f k (f k) = f := by
  funext j
  by_cases h : j = k
  · rw [h, va_up_self]
  · rw [va_up_ne _ _ h]
theorem relR_up {nr : Nat → Nat} {ar : Nat → Nat → Nat} {cn ms cn' ms' : Nat → Nat} {rv n1 : Nat} {a1 : Nat → Nat} (h : relR nr ar cn ms) (hok : rowsOk nr ar) (hrv : rv ≤ 7) (h1 : ∀ r, r < 8 → cn' r = va_up nr rv n1 r) (h2 : ∀ j, j < n1 → ms' (400 * rv + j) = a1 j) (h3 : ∀ i, (i < 400 * rv ∨ 400 * rv + 400 ≤ i) → ms' i = ms i) : relR (va_up nr rv n1) (va_up ar rv a1) cn' ms' := by
  refine ⟨h1, fun r hr j hj => ?_⟩
  by_cases q : r = rv
  · subst q; rw [va_up_self] at hj ⊢; exact h2 j hj
  · rw [va_up_ne _ _ q] at hj ⊢
    have := (hok r hr).1
    rw [h3 _ (by omega)]
    exact h.2 r hr j hj
theorem rowsOk_up {nr : Nat → Nat} {ar : Nat → Nat → Nat} {rv n1 : Nat} {a1 : Nat → Nat} (hok : rowsOk nr ar) (h1 : n1 ≤ 400) (h2 : ∀ j, j < n1 → a1 j ≤ 1000000) : rowsOk (va_up nr rv n1) (va_up ar rv a1) := by
  intro r hr
  by_cases q : r = rv
  · subst q; rw [va_up_self, va_up_self]; exact ⟨h1, h2⟩
  · rw [va_up_ne _ _ q, va_up_ne _ _ q]; exact hok r hr
theorem mod_row {X : Cx} {ad : Nat → Nat} {f : Nat → (Nat → Nat) → Int32 × Nat × (Nat → Nat)} {C : ClS} {rv n1 : Nat} {a1 : Nat → Nat} {g g' : PF} {r : Int32} (hrv : rv ≤ 7) (e : f (C.2.1 rv) (C.2.2.1 rv) = (r, n1, a1)) (h : rMod X ad (C.1, va_up C.2.1 rv n1, va_up C.2.2.1 rv a1, C.2.2.2) g') (hf : frM g g') : r = (rowOp f (nI rv) C).1 ∧ rMod X ad (rowOp f (nI rv) C).2 g' ∧ frM g g' := by
  have e2 : rowOp f (nI rv) C = (r, C.1, va_up C.2.1 rv n1, va_up C.2.2.1 rv a1, C.2.2.2) := by
    unfold rowOp
    rw [if_pos ((rng_iff (by omega)).mpr (by omega)), tN_nI (by omega), e]
  rw [e2]
  exact ⟨rfl, h, hf⟩
theorem mod_same {X : Cx} {ad : Nat → Nat} {f : Nat → (Nat → Nat) → Int32 × Nat × (Nat → Nat)} {C : ClS} {rv : Nat} {g g' : PF} {r : Int32} (hrv : rv ≤ 7) (e : f (C.2.1 rv) (C.2.2.1 rv) = (r, C.2.1 rv, C.2.2.1 rv)) (h : rMod X ad C g') (hf : frM g g') : r = (rowOp f (nI rv) C).1 ∧ rMod X ad (rowOp f (nI rv) C).2 g' ∧ frM g g' :=
  mod_row hrv e (by rw [va_up_id, va_up_id]; exact h) hf
theorem mod_bad {X : Cx} {ad : Nat → Nat} {f : Nat → (Nat → Nat) → Int32 × Nat × (Nat → Nat)} {C : ClS} {p : Int32} {g : PF} (hp : ¬ rng p 0 7) (h : rMod X ad C g) : (-2 : Int32) = (rowOp f p C).1 ∧ rMod X ad (rowOp f p C).2 g ∧ frM g g := by
  unfold rowOp
  rw [if_neg hp]
  exact ⟨rfl, h, fun _ _ => rfl⟩
