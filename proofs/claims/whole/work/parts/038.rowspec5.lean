theorem ge0_nI {p : Int32} (h : 0 ≤ p) : ∃ n : Nat, p = nI n ∧ n < 2147483648 := by
  have h1 := Int32.le_iff_toInt_le.mp h
  have e : (0 : Int32).toInt = 0 := by decide
  rw [e] at h1
  obtain ⟨n, h2, h3⟩ := nI_ofI h1
  have := i32_rng p
  exact ⟨n, h2, by omega⟩
theorem m1_neg {n : Nat} (h : n < 1073741824) : nI n - nI 1 < 0 ↔ n = 0 := by
  rw [Int32.lt_iff_toInt_lt, m1_toInt h, show (0 : Int32).toInt = 0 by decide]
  omega
theorem ni_pred (n : Nat) : nI (n + 1) - nI 1 = nI n := by rw [pk_sub (by omega)]; rfl
/-- STRETCHED -/
def stf (d : Nat) (a : Nat → Nat) (j : Nat) : Nat := a (j / d) / d + if j % d < a (j / d) % d then 1 else 0
theorem stf_at {d q i : Nat} (a : Nat → Nat) (h : i < d) : stf d a (q * d + i) = a q / d + if i < a q % d then 1 else 0 := by
  have e1 : (q * d + i) / d = q := by rw [Nat.mul_comm, Nat.mul_add_div (by omega), Nat.div_eq_of_lt h, Nat.add_zero]
  have e2 : (q * d + i) % d = i := by rw [Nat.mul_comm, Nat.mul_add_mod, Nat.mod_eq_of_lt h]
  unfold stf
  rw [e1, e2]
def sp_stretch (q : Int32) (n : Nat) (a : Nat → Nat) : Int32 × Nat × (Nat → Nat) :=
  if rng q 2 8 then (if 400 < n * tN q then (-4, n, a) else (nI (n * tN q), n * tN q, stf (tN q) a)) else (-2, n, a)
theorem stf_le {a : Nat → Nat} {n d : Nat} (hab : ∀ j, j < n → a j ≤ 1000000) (hd : 2 ≤ d) : ∀ j, j < n * d → stf d a j ≤ 1000000 := by
  intro j hj
  have h1 : j / d < n := Nat.div_lt_of_lt_mul (by rw [Nat.mul_comm]; exact hj)
  have h2 := hab _ h1
  have h3 : a (j / d) / d ≤ a (j / d) / 2 := Nat.div_le_div_left hd (by omega)
  unfold stf
  split <;> omega
/-- GATHERED -/
def gsm (n : Nat) (a : Nat → Nat) (d i : Nat) : Nat := sg a (i * d) (min (i * d + d) n - i * d)
theorem ceil_lt {n d q : Nat} (hd : 0 < d) : q < (n + d - 1) / d ↔ q * d < n := by
  rw [Nat.lt_iff_add_one_le, Nat.le_div_iff_mul_le hd, Nat.succ_mul]
  omega
def sp_gather (q : Int32) (n : Nat) (a : Nat → Nat) : Int32 × Nat × (Nat → Nat) :=
  if rng q 2 20 then (if ∀ i, i < (n + tN q - 1) / tN q → gsm n a (tN q) i ≤ 1000000 then (nI ((n + tN q - 1) / tN q), (n + tN q - 1) / tN q, gsm n a (tN q)) else (-6, n, a)) else (-2, n, a)
/-- drawn -/
def lcg (z : Nat) : Nat → Nat
  | 0 => z
  | k + 1 => (lcg z k * 1103515245 + 12345) % 2147483648
theorem lcg_lt {z : Nat} (h : z < 2147483648) : ∀ k, lcg z k < 2147483648
  | 0 => h
  | k + 1 => Nat.mod_lt _ (by omega)
def dr (mv wv z j : Nat) : Nat := mv + lcg z (j + 1) / 65536 % (2 * wv + 1) - wv
def sp_draw (nn mm ww sd : Int32) (n : Nat) (a : Nat → Nat) : Int32 × Nat × (Nat → Nat) :=
  if rng nn 1 100 ∧ rng mm 0 10000 ∧ rng ww 0 (tN mm) ∧ 0 ≤ sd then (if 400 < n + tN nn then (-4, n, a) else (nI (n + tN nn), n + tN nn, fun j => if j < n then a j else dr (tN mm) (tN ww) (tN sd) (j - n))) else (-2, n, a)
/-- a FAULT -/
def gvn (a : Nat → Nat) (z j : Nat) : Nat := a j * z / 1000
def flt (n : Nat) (a : Nat → Nat) (w z j : Nat) : Nat :=
  if j / w < n / w then (if j % w < w / 2 then a j - gvn a z j else if j % w < 2 * (w / 2) then a j + gvn a z (j - w / 2) else a j) else a j
abbrev fltC (n : Nat) (a : Nat → Nat) (w z : Nat) : Prop := ∀ q, q < n / w → ∀ i, i < w / 2 → a (q * w + i + w / 2) + gvn a z (q * w + i) ≤ 1000000
def fltS (n : Nat) (a : Nat → Nat) (w z q : Nat) : Nat := sm (fun q => sm (fun i => gvn a z (q * w + i)) (w / 2)) q
theorem gvn_le {a : Nat → Nat} {z j : Nat} (h : z ≤ 1000) : gvn a z j ≤ a j := by
  unfold gvn
  have := Nat.mul_le_mul_left (a j) h
  omega
theorem qd_at {w q i : Nat} (h : i < w) : (q * w + i) / w = q ∧ (q * w + i) % w = i :=
  ⟨by rw [Nat.mul_comm, Nat.mul_add_div (by omega), Nat.div_eq_of_lt h, Nat.add_zero], by rw [Nat.mul_comm, Nat.mul_add_mod, Nat.mod_eq_of_lt h]⟩
theorem flt_lo {n w z q i : Nat} {a : Nat → Nat} (hq : q < n / w) (hi : i < w / 2) : flt n a w z (q * w + i) = a (q * w + i) - gvn a z (q * w + i) := by
  obtain ⟨e1, e2⟩ := qd_at (w := w) (q := q) (i := i) (by omega)
  unfold flt
  rw [e1, e2, if_pos hq, if_pos hi]
theorem flt_hi {n w z q i : Nat} {a : Nat → Nat} (hq : q < n / w) (hi : i < w / 2) : flt n a w z (q * w + i + w / 2) = a (q * w + i + w / 2) + gvn a z (q * w + i) := by
  obtain ⟨e1, e2⟩ := qd_at (w := w) (q := q) (i := i + w / 2) (by omega)
  rw [← Nat.add_assoc] at e1 e2
  unfold flt
  rw [e1, e2, if_pos hq, if_neg (by omega), if_pos (by omega), show q * w + i + w / 2 - w / 2 = q * w + i by omega]
theorem flt_mid {n w z q i : Nat} {a : Nat → Nat} (hi : i < w) (h2 : 2 * (w / 2) ≤ i) : flt n a w z (q * w + i) = a (q * w + i) := by
  obtain ⟨e1, e2⟩ := qd_at (w := w) (q := q) (i := i) (by omega)
  unfold flt
  rw [e1, e2]
  by_cases hq : q < n / w
  · rw [if_pos hq, if_neg (show ¬ i < w / 2 by omega), if_neg (show ¬ i < 2 * (w / 2) by omega)]
  · rw [if_neg hq]
theorem flt_out {n w z j : Nat} {a : Nat → Nat} (hw : 0 < w) (h : n / w * w ≤ j) : flt n a w z j = a j := by
  unfold flt
  rw [if_neg (fun q => by have := Nat.div_lt_iff_lt_mul hw |>.mp q; omega)]
theorem flt_le {n w z : Nat} {a : Nat → Nat} (hw : 0 < w) (hC : fltC n a w z) (hab : ∀ j, j < n → a j ≤ 1000000) : ∀ j, j < n → flt n a w z j ≤ 1000000 := by
  intro j hj
  have h0 := hab j hj
  unfold flt
  split
  · split
    · omega
    · split
      · rename_i h1 h2 h3
        have e := Nat.div_add_mod j w
        have h5 := hC (j / w) h1 (j % w - w / 2) (by omega)
        rw [show j / w * w + (j % w - w / 2) + w / 2 = j by rw [Nat.mul_comm]; omega, show j / w * w + (j % w - w / 2) = j - w / 2 by rw [Nat.mul_comm]; omega] at h5
        exact h5
      · omega
  · omega
def sp_fault (q z : Int32) (n : Nat) (a : Nat → Nat) : Int32 × Nat × (Nat → Nat) :=
  if rng q 2 400 ∧ rng z 0 1000 then (if fltC n a (tN q) (tN z) then (nI (fltS n a (tN q) (tN z) (n / tN q)), n, flt n a (tN q) (tN z)) else (-6, n, a)) else (-2, n, a)
