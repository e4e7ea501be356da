theorem tb_out {x : Int32} (h0 : ¬ x = nI 0) (h1 : ¬ x = nI 1) (h2 : ¬ x = nI 2) : x.toInt < 0 ∨ 2 < x.toInt := by
  rcases Int.lt_or_le x.toInt 0 with q | q
  · exact Or.inl q
  · obtain ⟨n, e, hn⟩ := nI_ofI q
    refine Or.inr ?_
    have a0 : n ≠ 0 := fun z => h0 (by rw [e, z])
    have a1 : n ≠ 1 := fun z => h1 (by rw [e, z])
    have a2 : n ≠ 2 := fun z => h2 (by rw [e, z])
    omega
def sp_mean (n : Nat) (a : Nat → Nat) : Nat := sm a n / n
def sp_unev (n : Nat) (a : Nat → Nat) : Int64 := lN (n * sm (fun j => a j * a j) n) - lN (sm a n * sm a n)
def sp_about (w : Int32) (n : Nat) (a : Nat → Nat) : Int64 := if w = nI 0 then lN n else if w = nI 1 then lN (sm a n) else if w = nI 2 then sp_unev n a else -1
def mx (h : Int64) (a : Nat → Nat) : Nat → Int64
  | 0 => h
  | i + 1 => lN 31 * mx h a i + lN (a i)
theorem mx_cong {a b : Nat → Nat} {h : Int64} : ∀ {n : Nat}, (∀ j, j < n → a j = b j) → mx h a n = mx h b n
  | 0, _ => rfl
  | n + 1, q => by
    show lN 31 * mx h a n + lN (a n) = lN 31 * mx h b n + lN (b n)
    rw [mx_cong (n := n) (fun j hj => q j (by omega)), q n (by omega)]
abbrev lawP (th tn lq : Int32) : Prop := rng th 1 1000 ∧ rng tn 0 100 ∧ rng lq 1 50
theorem div_cmp {a b c d : Nat} (hb : 0 < b) (hd : 0 < d) : (if a / b = c / d then c % d * b < a % b * d else c / d < a / b) ↔ c * b < a * d := by
  have ea := Nat.div_add_mod a b
  have ec := Nat.div_add_mod c d
  have ma := Nat.mod_lt a hb
  have mc := Nat.mod_lt c hd
  generalize a / b = q at *
  generalize c / d = r at *
  generalize a % b = x at *
  generalize c % d = y at *
  subst ea
  subst ec
  by_cases h : q = r
  · subst h
    rw [if_pos rfl, Nat.add_mul, Nat.add_mul]
    have e : d * q * b = b * q * d := by rw [Nat.mul_right_comm, Nat.mul_comm d b, Nat.mul_right_comm b d q]
    omega
  · rw [if_neg h]
    constructor
    · intro h2
      have h3 : (d * r + y) * b < (d * q) * b := Nat.mul_lt_mul_of_pos_right (by
        have := Nat.mul_le_mul_left d (show r + 1 ≤ q by omega)
        rw [Nat.mul_add, Nat.mul_one] at this
        omega) hb
      have e : d * q * b = b * q * d := by rw [Nat.mul_right_comm, Nat.mul_comm d b, Nat.mul_right_comm b d q]
      have h4 : b * q * d ≤ (b * q + x) * d := Nat.mul_le_mul_right d (by omega)
      omega
    · intro h2
      refine Nat.lt_of_not_le (fun h3 => ?_)
      have h5 : q + 1 ≤ r := by omega
      have h6 : (b * q + x) * d ≤ (b * r) * d := Nat.mul_le_mul_right d (by
        have := Nat.mul_le_mul_left b h5
        rw [Nat.mul_add, Nat.mul_one] at this
        omega)
      have e : d * r * b = b * r * d := by rw [Nat.mul_right_comm, Nat.mul_comm d b, Nat.mul_right_comm b d r]
      have h4 : d * r * b ≤ (d * r + y) * b := Nat.mul_le_mul_right b (by omega)
      omega
/-- how long the run is that begins at i: up to k CELLS -/
def rn (q : Nat → Prop) [DecidablePred q] : Nat → Nat → Nat
  | 0, _ => 0
  | k + 1, i => if q i then rn q k (i + 1) + 1 else 0
theorem rn_le (q : Nat → Prop) [DecidablePred q] : ∀ k i, rn q k i ≤ k
  | 0, _ => Nat.le_refl _
  | k + 1, i => by
    unfold rn
    by_cases h : q i
    · rw [if_pos h]; exact Nat.succ_le_succ (rn_le q k (i + 1))
    · rw [if_neg h]; exact Nat.zero_le _
theorem rn_yes {q : Nat → Prop} [DecidablePred q] {n i : Nat} (h : i < n) (hq : q i) : rn q (n - i) i = rn q (n - (i + 1)) (i + 1) + 1 := by
  have e : n - i = (n - (i + 1)) + 1 := by omega
  rw [e]
  show (if q i then _ else _) = _
  rw [if_pos hq]
theorem rn_no {q : Nat → Prop} [DecidablePred q] {n i : Nat} (hq : ¬ q i) : rn q (n - i) i = 0 := by
  cases n - i with
  | zero => rfl
  | succ k => show (if q i then _ else _) = _; rw [if_neg hq]
theorem rn_end {q : Nat → Prop} [DecidablePred q] {n i : Nat} (h : n ≤ i) : rn q (n - i) i = 0 := by
  rw [Nat.sub_eq_zero_of_le h]; rfl
abbrev qt (t : Nat) (a : Nat → Nat) (B : Nat) (i : Nat) : Prop := if t = 0 then a i * 100 ≤ B else B ≤ a i * 100
def run (t : Nat) (n : Nat) (a : Nat → Nat) (B i : Nat) : Nat := rn (qt t a B) (n - i) i
theorem run_le (t n : Nat) (a : Nat → Nat) (B i : Nat) : run t n a B i ≤ n - i := rn_le _ _ _
def plc (n : Nat) (a : Nat → Nat) (B C lq i : Nat) : Nat := if lq ≤ run 1 n a B i then run 1 n a B i else if lq ≤ run 0 n a C i then run 0 n a C i else 0
theorem plc_le (n : Nat) (a : Nat → Nat) (B C lq i : Nat) : plc n a B C lq i ≤ n - i := by
  have h1 := run_le 1 n a B i
  have h2 := run_le 0 n a C i
  unfold plc
  split
  · exact h1
  · split
    · exact h2
    · omega
/-- the WAVE -/
def zs (a : Nat → Nat) (w i k : Nat) : Nat := sm (fun j => a (i + j * w)) k
def wS (n : Nat) (a : Nat → Nat) (w i : Nat) : Nat := sm (fun j => zs a w j (n / w)) i
def wQ (n : Nat) (a : Nat → Nat) (w i : Nat) : Nat := sm (fun j => zs a w j (n / w) * zs a w j (n / w)) i
theorem cs_aux (f : Nat → Nat) (z : Nat) : ∀ n, 2 * (z * sm f n) ≤ sm (fun j => f j * f j) n + n * (z * z)
  | 0 => by simp [sm]
  | n + 1 => by
    have h := cs_aux f z n
    show 2 * (z * (sm f n + f n)) ≤ sm (fun j => f j * f j) n + f n * f n + (n + 1) * (z * z)
    have h2 : 2 * (z * f n) ≤ f n * f n + z * z := by
      rcases Nat.le_total z (f n) with q | q
      · obtain ⟨t, ht⟩ := Nat.le.dest q
        rw [← ht]
        simp only [Nat.mul_add, Nat.add_mul]
        have : t * z = z * t := Nat.mul_comm _ _
        have := Nat.zero_le (t * t)
        omega
      · obtain ⟨t, ht⟩ := Nat.le.dest q
        rw [← ht]
        simp only [Nat.mul_add, Nat.add_mul]
        have : t * f n = f n * t := Nat.mul_comm _ _
        have := Nat.zero_le (t * t)
        omega
    rw [Nat.mul_add, Nat.mul_add, show (n + 1) * (z * z) = n * (z * z) + z * z from by rw [Nat.add_mul, Nat.one_mul]]
    omega
theorem cauchy (f : Nat → Nat) : ∀ n, sm f n * sm f n ≤ n * sm (fun j => f j * f j) n
  | 0 => by simp [sm]
  | n + 1 => by
    have h := cauchy f n
    have h2 := cs_aux f (f n) n
    show (sm f n + f n) * (sm f n + f n) ≤ (n + 1) * (sm (fun j => f j * f j) n + f n * f n)
    simp only [Nat.mul_add, Nat.add_mul, Nat.one_mul]
    have e : f n * sm f n = sm f n * f n := Nat.mul_comm _ _
    rw [e] at h2 ⊢
    omega
theorem wS_sq (n : Nat) (a : Nat → Nat) (w : Nat) : wS n a w w * wS n a w w ≤ w * wQ n a w w := cauchy _ w
def wv (w n : Nat) (a : Nat → Nat) : Nat := w * wQ n a w w - wS n a w w * wS n a w w
def sp_wave (q : Int32) (n : Nat) (a : Nat → Nat) : Int64 := if rng q 2 200 then lN (wv (tN q) n a) else -1
