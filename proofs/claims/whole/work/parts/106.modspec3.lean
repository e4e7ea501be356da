theorem ceil_le {n d : Nat} (hd : 0 < d) : (n + d - 1) / d ≤ n := by
  refine Nat.le_of_not_lt (fun z => ?_)
  have h := (ceil_lt hd).mp z
  have := Nat.le_mul_of_pos_right n hd
  omega
/-- a GATHERED CELL, as far as i -/
def gsp (a : Nat → Nat) (d i q : Nat) : Nat := sg a (q * d) (min (q * d + d) i - q * d)
theorem gsp_0 (a : Nat → Nat) (d q : Nat) : gsp a d 0 q = 0 := by
  unfold gsp
  rw [show min (q * d + d) 0 - q * d = 0 by omega]
  rfl
theorem gsp_at {a : Nat → Nat} {d i : Nat} (hd : 0 < d) : gsp a d (i + 1) (i / d) = gsp a d i (i / d) + a i := by
  have h1 := Nat.div_mul_le_self i d
  have h2 := Nat.lt_div_mul_add (a := i) hd
  unfold gsp
  rw [show min (i / d * d + d) (i + 1) - i / d * d = i + 1 - i / d * d by omega, show min (i / d * d + d) i - i / d * d = i - i / d * d by omega]
  exact sg_step h1
theorem gsp_ne {a : Nat → Nat} {d i q : Nat} (hd : 0 < d) (hq : q ≠ i / d) : gsp a d (i + 1) q = gsp a d i q := by
  have h1 := Nat.div_mul_le_self i d
  have h2 := Nat.lt_div_mul_add (a := i) hd
  unfold gsp
  rcases Nat.lt_or_gt_of_ne hq with z | z
  · have h3 := Nat.mul_le_mul_right d (show q + 1 ≤ i / d from z)
    rw [Nat.succ_mul] at h3
    rw [show min (q * d + d) (i + 1) - q * d = min (q * d + d) i - q * d by omega]
  · have h3 := Nat.mul_le_mul_right d (show i / d + 1 ≤ q from z)
    rw [Nat.succ_mul] at h3
    rw [show min (q * d + d) (i + 1) - q * d = min (q * d + d) i - q * d by omega]
theorem gsp_le {a : Nat → Nat} {d i q n : Nat} (hab : ∀ j, j < n → a j ≤ 1000000) (hi : i ≤ n) : gsp a d i q ≤ d * 1000000 := by
  unfold gsp
  have h := sg_le (a := a) (f := q * d) (k := min (q * d + d) i - q * d) (b := 1000000) (fun j hj => hab _ (by omega))
  exact Nat.le_trans h (Nat.mul_le_mul_right 1000000 (show min (q * d + d) i - q * d ≤ d by omega))
theorem flt_C {n w z : Nat} {a : Nat → Nat} (h : ∀ j, j < n → flt n a w z j ≤ 1000000) : fltC n a w z := by
  intro q hq i hi
  have h1 := Nat.div_mul_le_self n w
  have h2 := Nat.mul_le_mul_right w (show q + 1 ≤ n / w from hq)
  rw [Nat.succ_mul] at h2
  have h3 := h (q * w + i + w / 2) (by omega)
  rw [flt_hi hq hi] at h3
  exact h3
theorem flt_2 {n w z : Nat} {a : Nat → Nat} (hab : ∀ j, j < n → a j ≤ 1000000) (hz : z ≤ 1000) : ∀ j, j < n → flt n a w z j ≤ 2000000 := by
  intro j hj
  have h1 := hab j hj
  unfold flt
  split
  · split
    · omega
    · split
      · have h2 := hab (j - w / 2) (by omega)
        have h3 := gvn_le (a := a) (z := z) (j := j - w / 2) hz
        omega
      · omega
  · omega
theorem sub_mod (x y : Nat) : x - x / y * y = x % y := by
  rw [Nat.mod_def, Nat.mul_comm]
theorem ab0 {R S y w : Nat} (hy : 0 < y) (hw : 0 < w) (h0 : R = 0 ∨ S = 0) : (S * y < R * w ↔ 0 < R ∧ R ≠ S) ∧ (R * w < S * y ↔ R = 0 ∧ R ≠ S) := by
  rcases h0 with h | h
  · subst h
    rw [Nat.zero_mul]
    rcases Nat.eq_zero_or_pos S with q | q
    · subst q; rw [Nat.zero_mul]; omega
    · have := Nat.mul_pos q hy; omega
  · subst h
    rw [Nat.zero_mul]
    rcases Nat.eq_zero_or_pos R with q | q
    · subst q; rw [Nat.zero_mul]; omega
    · have := Nat.mul_pos q hw; omega
section YE
variable {p : Program} {l : Launch} {e : Env} {R : Room} {s : State} {m : MethodId} {args : Array Value} {below : List Frame} {meth : Method} {c : Code} {H : Heap} {locs : List Loc} {cells slots : Nat} {Q : State → Prop} {pc : Nat} {ls : Array Slot} {rest : List Value}
theorem ni_topl {a b : Nat} (h : a = b) (k : W p l e R s m args below meth c H locs cells slots Q (F0 m pc ls (.long (lN b) :: rest))) : W p l e R s m args below meth c H locs cells slots Q (F0 m pc ls (.long (lN a) :: rest)) := by rw [h]; exact k
theorem ni_topi {a b : Nat} (h : a = b) (k : W p l e R s m args below meth c H locs cells slots Q (F0 m pc ls (.int (nI b) :: rest))) : W p l e R s m args below meth c H locs cells slots Q (F0 m pc ls (.int (nI a) :: rest)) := by rw [h]; exact k
end YE
