theorem lfr_used (od : Nat → Nat) (pos : Nat) : ∀ k b j, b ≤ j → j < lfr od pos k b → ¬ fre od pos j
  | 0, b, j, h1, h2 => absurd h2 (by show ¬ j < b; omega)
  | k + 1, b, j, h1, h2 => by
    have h2 : j < (if fre od pos b then b else lfr od pos k (b + 1)) := h2
    by_cases q : fre od pos b
    · rw [if_pos q] at h2; omega
    · rw [if_neg q] at h2
      by_cases z : j = b
      · rw [z]; exact q
      · exact lfr_used od pos k (b + 1) j (by omega) h2
theorem lfr_free (od : Nat → Nat) (pos : Nat) : ∀ k b, lfr od pos k b < b + k → fre od pos (lfr od pos k b)
  | 0, b, h => absurd h (by show ¬ b < b + 0; omega)
  | k + 1, b, h => by
    have h : (if fre od pos b then b else lfr od pos k (b + 1)) < b + (k + 1) := h
    show fre od pos (if fre od pos b then b else lfr od pos k (b + 1))
    by_cases q : fre od pos b
    · rw [if_pos q]; exact q
    · rw [if_neg q] at h ⊢
      exact lfr_free od pos k (b + 1) (by omega)
theorem lfr_cong {od pl : Nat → Nat} {pos : Nat} (h : ∀ j, j < pos → pl j = od j) : ∀ k b, lfr pl pos k b = lfr od pos k b
  | 0, _ => rfl
  | k + 1, b => by
    show (if fre pl pos b then b else lfr pl pos k (b + 1)) = (if fre od pos b then b else lfr od pos k (b + 1))
    rw [lfr_cong h k (b + 1)]
    by_cases q : fre od pos b
    · rw [if_pos q, if_pos ((fre_cong h).mpr q)]
    · rw [if_neg q, if_neg (fun z => q ((fre_cong h).mp z))]
theorem lfr_less (od : Nat → Nat) (pos : Nat) : ∀ k b, lfr od pos (k + 1) b < b + (k + 1) → lfr od pos k b = lfr od pos (k + 1) b
  | 0, b, h => by
    have h : (if fre od pos b then b else b + 1) < b + 1 := h
    show b = (if fre od pos b then b else b + 1)
    by_cases q : fre od pos b
    · rw [if_pos q]
    · rw [if_neg q] at h; omega
  | k + 1, b, h => by
    have h : (if fre od pos b then b else lfr od pos (k + 1) (b + 1)) < b + (k + 1 + 1) := h
    show (if fre od pos b then b else lfr od pos k (b + 1)) = (if fre od pos b then b else lfr od pos (k + 1) (b + 1))
    by_cases q : fre od pos b
    · rw [if_pos q, if_pos q]
    · rw [if_neg q] at h
      rw [if_neg q, if_neg q]
      exact lfr_less od pos k (b + 1) (by omega)
theorem holes : ∀ (s sz : Nat) (od : Nat → Nat), (∀ b, b < sz → ∃ j, j < s ∧ od j = b) → sz ≤ s
  | 0, sz, od, h => by
    rcases Nat.eq_zero_or_pos sz with q | q
    · omega
    · obtain ⟨j, hj, -⟩ := h 0 q
      omega
  | s + 1, 0, od, h => Nat.zero_le _
  | s + 1, k + 1, od, h => by
    have h1 := holes s k (fun j => if od j = k then od s else od j) (fun b hb => by
      obtain ⟨j, hj, e⟩ := h b (by omega)
      by_cases q : j = s
      · obtain ⟨j2, hj2, e2⟩ := h k (by omega)
        refine ⟨j2, ?_, ?_⟩
        · have : j2 ≠ s := fun z => by rw [z, ← q, e] at e2; omega
          omega
        · show (if od j2 = k then od s else od j2) = b
          rw [if_pos e2, ← q, e]
      · refine ⟨j, by omega, ?_⟩
        show (if od j = k then od s else od j) = b
        rw [if_neg (by omega), e])
    omega
theorem lfr_in {od : Nat → Nat} {s sz : Nat} (h : s < sz) : lfr od s sz 0 < sz := by
  refine Nat.lt_of_not_le (fun z => ?_)
  have := holes s sz od (fun b hb => by
    have hu := lfr_used od s sz 0 b (by omega) (by omega)
    refine Classical.byContradiction (fun q => hu (fun j hj e => q ⟨j, hj, e⟩)))
  omega
theorem lpF_skip {F : Nat → Nat → (Nat → Nat) → SrO} {pos sz t : Nat} {od : Nat → Nat} : ∀ (k f : Nat), f + k ≤ sz → (∀ j, f ≤ j → j < f + k → ¬ fre od pos j) → lpF F pos (sz - f) f t od = lpF F pos (sz - (f + k)) (f + k) t od
  | 0, f, _, _ => rfl
  | k + 1, f, h, hu => by
    rw [lpF_used (by omega) (hu f (by omega) (by omega)), lpF_skip k (f + 1) (by omega) (fun j h1 h2 => hu j (by omega) (by omega)), show f + 1 + k = f + (k + 1) by omega]
def wsum (num pl : Nat → Nat) (p n : Nat) : Nat := sm (fun j => num (pl (p + 1 - n + j))) n
def psm (num od : Nat → Nat) (s k : Nat) : Nat := sm (fun j => num (od (s + j))) k
def bnx (sz n : Nat) (pl : Nat → Nat) (p f : Nat) : Nat := if p % n = 0 ∧ 0 < f then sz else lfr pl p (sz - (if p % n = 0 then 0 else f)) (if p % n = 0 then 0 else f)
/-- what one turn of the reference's loop does, backwards -/
def Rul (sz n : Nat) (num : Nat → Nat) (lo hh : Nat) (G : Nat → Nat → Nat → (Nat → Nat) → Prop) (Sp : Nat → (Nat → Nat) → Prop) : Prop :=
  (∀ p f t pl, p < sz → bnx sz n pl p f = sz → G p (if p = 0 then 0 else pl (p - 1) + 1) t pl → G (p + 1) f t pl) ∧
  (∀ p f t pl, p < sz → bnx sz n pl p f < sz → p % n ≠ 0 → t = 100000 → Sp t pl → G (p + 1) f t pl) ∧
  (∀ p f t pl, p < sz → bnx sz n pl p f < sz → (p % n = 0 ∨ t < 100000) → (if p % n < n - 1 ∨ (lo ≤ wsum num (va_up pl p (bnx sz n pl p f)) p n ∧ wsum num (va_up pl p (bnx sz n pl p f)) p n ≤ hh) then G (p + 2) (if p % n = n - 1 then 0 else bnx sz n pl p f + 1) (if p % n = 0 then t else t + 1) (va_up pl p (bnx sz n pl p f)) else G (p + 1) (bnx sz n pl p f + 1) (if p % n = 0 then t else t + 1) (va_up pl p (bnx sz n pl p f))) → G (p + 1) f t pl)
def Cnt (sz : Nat) (G : Nat → Nat → Nat → (Nat → Nat) → Prop) (Sp : Nat → (Nat → Nat) → Prop) (pos : Nat) (od : Nat → Nat) (o : SrO) : Prop :=
  (o.1 = 1 → ∀ pl : Nat → Nat, (∀ j, j < sz → pl j = o.2.2 j) → G (sz + 1) 0 o.2.1 pl) ∧ (o.1 = 2 → ∀ pl, Sp o.2.1 pl) ∧ (o.1 = 0 → ∀ pl : Nat → Nat, (∀ j, j < pos → pl j = od j) → G pos (if pos = 0 then 0 else pl (pos - 1) + 1) o.2.1 pl)
theorem psm_up {num od pl : Nat → Nat} {s k b : Nat} (h : ∀ j, j < s + k → pl j = od j) : psm num (va_up pl (s + k) b) s (k + 1) = psm num od s k + num b := by
  show sm (fun j => num (va_up pl (s + k) b (s + j))) k + num (va_up pl (s + k) b (s + k)) = _
  rw [va_up_self, sm_cong (b := fun j => num (od (s + j))) (fun j hj => by rw [va_up_ne _ _ (by omega), h _ (by omega)])]
  rfl
theorem mod_s {s n k : Nat} (h : s % n = 0) (hk : k < n) : (s + k) % n = k := by
  rw [Nat.add_mod, h, Nat.zero_add, Nat.mod_mod, Nat.mod_eq_of_lt hk]
