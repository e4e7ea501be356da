abbrev zr0 : Room := { frames := 2, cells := 0, slots := 0, locals := 40 }
abbrev zr1 : Room := { frames := 12, cells := 0, slots := 0, locals := 240 }
abbrev zr2 : Room := { frames := 24, cells := 0, slots := 0, locals := 480 }
abbrev zr3 : Room := { frames := 36, cells := 0, slots := 0, locals := 720 }
abbrev zr4 : Room := { frames := 48, cells := 0, slots := 0, locals := 960 }
abbrev zr5 : Room := { frames := 60, cells := 0, slots := 0, locals := 1200 }
theorem bI_congr {P Q : Prop} [Decidable P] [Decidable Q] (h : P ↔ Q) : bI P = bI Q := by
  unfold bI
  by_cases q : P
  · rw [if_pos q, if_pos (h.mp q)]
  · rw [if_neg q, if_neg (fun z => q (h.mpr z))]
theorem bI_t {P : Prop} [Decidable P] (h : P) : bI P = nI 1 := by unfold bI; rw [if_pos h]; rfl
theorem bI_f {P : Prop} [Decidable P] (h : ¬ P) : bI P = nI 0 := by unfold bI; rw [if_neg h]; rfl
abbrev rng (p : Int32) (lo hi : Nat) : Prop := (lo : Int) ≤ p.toInt ∧ p.toInt ≤ (hi : Int)
abbrev rngS (p : Int32) (n : Nat) : Prop := (0 : Int) ≤ p.toInt ∧ p.toInt < (n : Int)
def tN (p : Int32) : Nat := p.toNatClampNeg
theorem tN_nI {n : Nat} (h : n < 2 ^ 31) : tN (nI n) = n := nI_clamp h
theorem i32_rng (p : Int32) : -2147483648 ≤ p.toInt ∧ p.toInt < 2147483648 := by
  have h1 := Int32.le_toInt p
  have h2 := Int32.toInt_lt p
  omega
theorem nI_ofI {p : Int32} (h : 0 ≤ p.toInt) : ∃ n : Nat, p = nI n ∧ (n : Int) = p.toInt := by
  obtain ⟨n, h1, h2⟩ := nI_of (x := p) (fun q => by
    have := Int32.lt_iff_toInt_lt.mp q
    have e : (0 : Int32).toInt = 0 := by decide
    omega)
  refine ⟨n, h2, ?_⟩
  rw [h2, nI_toInt h1]
theorem rng_nI {p : Int32} {lo hi : Nat} (h : rng p lo hi) : ∃ n : Nat, p = nI n ∧ lo ≤ n ∧ n ≤ hi ∧ n < 2147483648 := by
  obtain ⟨n, h1, h2⟩ := nI_ofI (p := p) (by omega)
  have := i32_rng p
  exact ⟨n, h1, by omega, by omega, by omega⟩
theorem rngS_nI {p : Int32} {n : Nat} (h : rngS p n) : ∃ k : Nat, p = nI k ∧ k < n ∧ k < 2147483648 := by
  obtain ⟨k, h1, h2⟩ := nI_ofI (p := p) (by omega)
  have := i32_rng p
  exact ⟨k, h1, by omega, by omega⟩
theorem rng_iff {n lo hi : Nat} (h : n < 2147483648) : rng (nI n) lo hi ↔ lo ≤ n ∧ n ≤ hi := by
  have e : (nI n).toInt = (n : Int) := nI_toInt (by omega)
  unfold rng
  rw [e]
  omega
theorem rngS_iff {n k : Nat} (h : k < 2147483648) : rngS (nI k) n ↔ k < n := by
  have e : (nI k).toInt = (k : Int) := nI_toInt (by omega)
  unfold rngS
  rw [e]
  omega
theorem w_rng {p : Int32} {lo hi : Nat} (h1 : lo < 2 ^ 63) (h2 : hi < 2 ^ 63) : (lN lo ≤ p.toInt64 ∧ p.toInt64 ≤ lN hi) ↔ rng p lo hi := by
  rw [Int64.le_iff_toInt_le, Int64.le_iff_toInt_le, pk_lT h1, pk_lT h2, Int32.toInt_toInt64]
theorem w_nat {v lo hi : Nat} (h0 : v < 2 ^ 63) (h1 : lo < 2 ^ 63) (h2 : hi < 2 ^ 63) : (lN lo ≤ lN v ∧ lN v ≤ lN hi) ↔ (lo ≤ v ∧ v ≤ hi) := by
  rw [pk_lLE h1 h0, pk_lLE h0 h2]
theorem m1_toInt {n : Nat} (h : n < 1073741824) : (nI n - nI 1).toInt = (n : Int) - 1 := pk_sub_toInt (b := 1) (by omega) (by omega)
theorem w_rngS {p : Int32} {n : Nat} (h : n < 1073741824) : (lN 0 ≤ p.toInt64 ∧ p.toInt64 ≤ (nI n - nI 1).toInt64) ↔ rngS p n := by
  rw [Int64.le_iff_toInt_le, Int64.le_iff_toInt_le, pk_lT (show 0 < 2 ^ 63 by omega), Int32.toInt_toInt64, Int32.toInt_toInt64, m1_toInt h]
  unfold rngS
  omega
theorem w_natS {v n : Nat} (h0 : v < 2 ^ 63) (h : n < 1073741824) : (lN 0 ≤ lN v ∧ lN v ≤ (nI n - nI 1).toInt64) ↔ v < n := by
  rw [Int64.le_iff_toInt_le, Int64.le_iff_toInt_le, pk_lT (show 0 < 2 ^ 63 by omega), Int32.toInt_toInt64, m1_toInt h, pk_lT h0]
  omega
/-- sums -/
def sm (a : Nat → Nat) : Nat → Nat
  | 0 => 0
  | n + 1 => sm a n + a n
theorem sm_le {a : Nat → Nat} {b : Nat} : ∀ {n : Nat}, (∀ j, j < n → a j ≤ b) → sm a n ≤ n * b
  | 0, _ => Nat.zero_le _
  | n + 1, h => by
    have h1 := sm_le (n := n) (fun j hj => h j (by omega))
    have h2 := h n (by omega)
    rw [Nat.succ_mul]
    show sm a n + a n ≤ _
    omega
theorem sm_cong {a b : Nat → Nat} : ∀ {n : Nat}, (∀ j, j < n → a j = b j) → sm a n = sm b n
  | 0, _ => rfl
  | n + 1, h => by
    show sm a n + a n = sm b n + b n
    rw [sm_cong (n := n) (fun j hj => h j (by omega)), h n (by omega)]
