/-- the MACHINES of the class: what their cells hold -/
def mFam (X : Cx) (ad : Nat → Nat) (hm hr : Nat → Nat → Nat) (g : PF) : Prop := ∀ j, j < 6 → g (4 + 2 * j) = .inr (2, [.int (nI (hm j 0)), .int (nI (hm j 1)), .int (nI (hm j 2)), .int (nI (hm j 3)), .int (nI (hm j 4)), .ref (ad (5 + 2 * j))]) ∧ g (5 + 2 * j) = arr X 3 (hr j)
theorem mFam.same {X : Cx} {ad : Nat → Nat} {hm hr : Nat → Nat → Nat} {g g' : PF} (h : mFam X ad hm hr g) (hs : ∀ r, 4 ≤ r → r < 16 → g' r = g r) : mFam X ad hm hr g' := fun j hj => ⟨(hs _ (by omega) (by omega)).trans (h j hj).1, (hs _ (by omega) (by omega)).trans (h j hj).2⟩
abbrev LnS : Type := Nat × Nat × Nat × (Nat → Nat → Nat) × (Nat → Nat → Nat)
def mcOk (m : Nat → Nat) : Prop := (1 ≤ m 0 ∧ m 0 ≤ 16) ∧ (1 ≤ m 1 ∧ m 1 ≤ 60) ∧ (1 ≤ m 2 ∧ m 2 ≤ 20) ∧ m 3 ≤ 500 ∧ m 4 ≤ 3
def lineOk (L : LnS) : Prop := L.1 ≤ 6 ∧ (1 ≤ L.2.1 ∧ L.2.1 ≤ 10000) ∧ (1 ≤ L.2.2.1 ∧ L.2.2.1 ≤ 10000) ∧ ∀ j, j < L.1 → mcOk (L.2.2.2.1 j) ∧ ∀ r, r < L.2.2.2.1 j 4 → 1 ≤ L.2.2.2.2 j r ∧ L.2.2.2.2 j r ≤ 1000
def rLine (X : Cx) (ad : Nat → Nat) (L : LnS) (g : PF) : Prop := ∃ (hm hr : Nat → Nat → Nat) (A B : Nat) (fm : Nat → Option Nat), g 1 = .inr (1, [.int (nI L.1), .int (nI L.2.1), .int (nI L.2.2.1), .ref (ad 2), .ref (ad 3)]) ∧ g 2 = orr X.2.2.1 6 fm ∧ (∀ j, j < 6 → fm j = some (ad (4 + 2 * j))) ∧ g 3 = .inr (0, [.long (lN A), .long (lN B)]) ∧ mFam X ad hm hr g ∧ (∀ j, j < L.1 → ∀ i, i < 5 → hm j i = L.2.2.2.1 j i) ∧ (∀ j, j < L.1 → ∀ r, r < L.2.2.2.1 j 4 → hr j r = L.2.2.2.2 j r) ∧ lineOk L
def frL (g g' : PF) : Prop := ∀ j, (j < 1 ∨ 15 < j) → g' j = g j
theorem rLine.same {X : Cx} {ad : Nat → Nat} {L : LnS} {g g' : PF} (h : rLine X ad L g) (hs : ∀ r, 1 ≤ r → r < 16 → g' r = g r) : rLine X ad L g' := by
  obtain ⟨hm, hr, A, B, fm, q1, q2, q3, q4, q5, q6⟩ := h
  exact ⟨hm, hr, A, B, fm, (hs _ (by omega) (by omega)).trans q1, (hs _ (by omega) (by omega)).trans q2, q3, (hs _ (by omega) (by omega)).trans q4, q5.same (fun r h1 h2 => hs r (by omega) h2), q6⟩
theorem postL {X : Cx} {ad : Nat → Nat} {g g' : PF} {S : Int32 × LnS} {r : Int32} {L' : LnS} (e : S = (r, L')) (h : rLine X ad L' g') (f : frL g g') : r = S.1 ∧ rLine X ad S.2 g' ∧ frL g g' := by
  subst e
  exact ⟨rfl, h, f⟩
theorem mFam_at {X : Cx} {ad : Nat → Nat} {hm hr mc : Nat → Nat → Nat} {g : PF} {nm : Nat} (h : mFam X ad hm hr g) (h6 : nm ≤ 6) (hq : ∀ j, j < nm → ∀ i, i < 5 → hm j i = mc j i) (k : Nat) (hk : k < nm) : g (4 + 2 * k) = .inr (2, [.int (nI (mc k 0)), .int (nI (mc k 1)), .int (nI (mc k 2)), .int (nI (mc k 3)), .int (nI (mc k 4)), .ref (ad (5 + 2 * k))]) := by
  rw [(h k (by omega)).1, hq k hk 0 (by omega), hq k hk 1 (by omega), hq k hk 2 (by omega), hq k hk 3 (by omega), hq k hk 4 (by omega)]
def sp_count (p q : Int32) (L : LnS) : Int32 × LnS := if rng p 1 10000 ∧ rng q 1 10000 then (nI 1, L.1, tN p, tN q, L.2.2.2.1, L.2.2.2.2) else (-2, L)
def mrow (v0 v1 v2 v3 : Nat) : Nat → Nat
  | 0 => v0
  | 1 => v1
  | 2 => v2
  | 3 => v3
  | _ => 0
def sp_machine (p0 p1 p2 p3 : Int32) (L : LnS) : Int32 × LnS :=
  if rng p0 1 16 ∧ rng p1 1 60 ∧ rng p2 1 20 ∧ rng p3 0 500 then (if 6 ≤ L.1 then (-4, L) else (nI L.1, L.1 + 1, L.2.1, L.2.2.1, va_up L.2.2.2.1 L.1 (mrow (tN p0) (tN p1) (tN p2) (tN p3)), L.2.2.2.2)) else (-2, L)
def sp_roller (p0 p1 : Int32) (L : LnS) : Int32 × LnS :=
  if rngS p0 L.1 ∧ rng p1 1 1000 then (if 3 ≤ L.2.2.2.1 (tN p0) 4 then (-4, L) else (nI (L.2.2.2.1 (tN p0) 4), L.1, L.2.1, L.2.2.1, va_up L.2.2.2.1 (tN p0) (va_up (L.2.2.2.1 (tN p0)) 4 (L.2.2.2.1 (tN p0) 4 + 1)), va_up L.2.2.2.2 (tN p0) (va_up (L.2.2.2.2 (tN p0)) (L.2.2.2.1 (tN p0) 4) (tN p1)))) else (-2, L)
def sp_clear (L : LnS) : Int32 × LnS := (nI L.1, 0, L.2.1, L.2.2.1, L.2.2.2.1, L.2.2.2.2)
def rollers (L : LnS) : Nat := sm (fun j => L.2.2.2.1 j 4) L.1
/-- THE COUNT behind k MACHINES -/
def cnt (L : LnS) : Nat → Nat × Nat
  | 0 => lt2 L.2.1 L.2.2.1
  | k + 1 => lt2 ((cnt L k).1 * (L.2.2.2.1 k 0 * (1000 - L.2.2.2.1 k 3) * L.2.2.2.1 k 2)) ((cnt L k).2 * (1000 * L.2.2.2.1 k 1))
abbrev okc (L : LnS) (k : Nat) : Prop := ∀ j, j < k → (cnt L (j + 1)).1 ≤ 1000000000000 ∧ (cnt L (j + 1)).2 ≤ 1000000000000
def sp_countOf (k : Nat) (q : Int32) (L : LnS) : Int64 := if okc L k then (if q = nI 0 then lN (cnt L k).1 else lN (cnt L k).2) else -6
def sp_countAt (p q : Int32) (L : LnS) : Int64 := if rng p 0 L.1 ∧ rng q 0 1 then sp_countOf (tN p) q L else -2
theorem cnt_pos {L : LnS} (h : lineOk L) : ∀ k, k ≤ L.1 → 0 < (cnt L k).1 ∧ 0 < (cnt L k).2
  | 0, _ => lt2_pos h.2.1.1 h.2.2.1.1
  | k + 1, hk => by
    have ih := cnt_pos h k (by omega)
    have hm := (h.2.2.2 k (by omega)).1
    obtain ⟨m0, m1, m2, m3, -⟩ := hm
    exact lt2_pos (Nat.mul_pos ih.1 (Nat.mul_pos (Nat.mul_pos (by omega) (by omega)) (by omega))) (Nat.mul_pos ih.2 (by omega))
theorem cnt_le {L : LnS} (h : lineOk L) {k : Nat} (hk : okc L k) : (cnt L k).1 ≤ 1000000000000 ∧ (cnt L k).2 ≤ 1000000000000 := by
  cases k with
  | zero =>
    have := lt2_le L.2.1 L.2.2.1
    have h1 := h.2.1.2
    have h2 := h.2.2.1.2
    exact ⟨by show (lt2 _ _).1 ≤ _; omega, by show (lt2 _ _).2 ≤ _; omega⟩
  | succ k => exact hk k (by omega)
theorem fac_in {m : Nat → Nat} (h : mcOk m) : (0 < m 0 * (1000 - m 3) * m 2 ∧ m 0 * (1000 - m 3) * m 2 ≤ 320000) ∧ (0 < 1000 * m 1 ∧ 1000 * m 1 ≤ 60000) := by
  obtain ⟨m0, m1, m2, m3, -⟩ := h
  refine ⟨⟨Nat.mul_pos (Nat.mul_pos (by omega) (by omega)) (by omega), ?_⟩, by omega, by omega⟩
  exact Nat.le_trans (Nat.mul_le_mul (Nat.mul_le_mul m0.2 (show 1000 - m 3 ≤ 1000 by omega)) m2.2) (by omega)
/-- THE PERIOD of ROLLER r of MACHINE m, i MACHINES behind it -/
def prd (L : LnS) (m r : Nat) : Nat → Nat × Nat
  | 0 => (L.2.2.2.2 m r, 1)
  | i + 1 => lt2 ((prd L m r i).1 * L.2.2.2.1 (m + 1 + i) 1) ((prd L m r i).2 * L.2.2.2.1 (m + 1 + i) 2)
def per (L : LnS) (m r : Nat) : Nat × Nat := prd L m r (L.1 - (m + 1))
theorem prd_in {L : LnS} (h : lineOk L) {m r : Nat} (hm : m < L.1) (hr : r < L.2.2.2.1 m 4) : ∀ i, m + 1 + i ≤ L.1 → (0 < (prd L m r i).1 ∧ (prd L m r i).1 ≤ 1000 * 60 ^ i) ∧ (0 < (prd L m r i).2 ∧ (prd L m r i).2 ≤ 20 ^ i)
  | 0, _ => by
    have := (h.2.2.2 m hm).2 r hr
    refine ⟨⟨this.1, ?_⟩, Nat.one_pos, Nat.le_refl _⟩
    show L.2.2.2.2 m r ≤ 1000 * 1
    omega
  | i + 1, hi => by
    have ih := prd_in h hm hr i (by omega)
    obtain ⟨-, m1, m2, -⟩ := (h.2.2.2 (m + 1 + i) (by omega)).1
    have hp := lt2_pos (Nat.mul_pos ih.1.1 (show 0 < L.2.2.2.1 (m + 1 + i) 1 by omega)) (Nat.mul_pos ih.2.1 (show 0 < L.2.2.2.1 (m + 1 + i) 2 by omega))
    have hl := lt2_le ((prd L m r i).1 * L.2.2.2.1 (m + 1 + i) 1) ((prd L m r i).2 * L.2.2.2.1 (m + 1 + i) 2)
    have h1 := Nat.mul_le_mul ih.1.2 m1.2
    have h2 := Nat.mul_le_mul ih.2.2 m2.2
    refine ⟨⟨hp.1, Nat.le_trans hl.1 (Nat.le_trans h1 ?_)⟩, hp.2, Nat.le_trans hl.2 (Nat.le_trans h2 ?_)⟩
    · rw [Nat.pow_succ, Nat.mul_assoc]; exact Nat.le_refl _
    · rw [Nat.pow_succ]; exact Nat.le_refl _
theorem prd_le {L : LnS} (h : lineOk L) {m r : Nat} (hm : m < L.1) (hr : r < L.2.2.2.1 m 4) {i : Nat} (hi : m + 1 + i ≤ L.1) : (0 < (prd L m r i).1 ∧ (prd L m r i).1 ≤ 777600000000) ∧ (0 < (prd L m r i).2 ∧ (prd L m r i).2 ≤ 3200000) := by
  have h1 := prd_in h hm hr i hi
  have h6 := h.1
  have h2 : 60 ^ i ≤ 60 ^ 5 := Nat.pow_le_pow_right (by omega) (by omega)
  have h3 : 20 ^ i ≤ 20 ^ 5 := Nat.pow_le_pow_right (by omega) (by omega)
  refine ⟨⟨h1.1.1, ?_⟩, h1.2.1, ?_⟩
  · have := Nat.mul_le_mul_left 1000 h2; omega
  · omega
def sp_period (p q z : Int32) (L : LnS) : Int64 := if rngS p L.1 ∧ rng z 0 1 ∧ rngS q (L.2.2.2.1 (tN p) 4) then (if z = nI 0 then lN (per L (tN p) (tN q)).1 else lN (per L (tN p) (tN q)).2) else -2
/-- is the PERIOD near -/
abbrev near (L : LnS) (pv tv m r : Nat) : Prop := (per L m r).2 * pv * (1000 - tv) ≤ 1000 * (per L m r).1 ∧ 1000 * (per L m r).1 ≤ (per L m r).2 * pv * (1000 + tv)
/-- the search through the ROLLERS of MACHINE m, up to r: found, and how many were ahead -/
def nmr (L : LnS) (pv tv iv m : Nat) (z : Option Nat × Nat) : Nat → Option Nat × Nat
  | 0 => z
  | r + 1 => match nmr L pv tv iv m z r with
    | (some v, k) => (some v, k)
    | (none, k) => if near L pv tv m r then (if k = iv then (some (8 * m + r), k) else (none, k + 1)) else (none, k)
def nmm (L : LnS) (pv tv iv : Nat) : Nat → Option Nat × Nat
  | 0 => (none, 0)
  | m + 1 => nmr L pv tv iv m (nmm L pv tv iv m) (L.2.2.2.1 m 4)
theorem nmr_keep {L : LnS} {pv tv iv m v k r : Nat} {z : Option Nat × Nat} (h : nmr L pv tv iv m z r = (some v, k)) : ∀ d, nmr L pv tv iv m z (r + d) = (some v, k)
  | 0 => h
  | d + 1 => by
    show (match nmr L pv tv iv m z (r + d) with
      | (some v, k) => (some v, k)
      | (none, k) => _) = _
    rw [nmr_keep h d]
theorem nmm_keep {L : LnS} {pv tv iv m v k : Nat} (h : nmm L pv tv iv m = (some v, k)) : ∀ d, nmm L pv tv iv (m + d) = (some v, k)
  | 0 => h
  | d + 1 => by
    show nmr L pv tv iv (m + d) (nmm L pv tv iv (m + d)) _ = _
    rw [nmm_keep h d]
    have := nmr_keep (L := L) (pv := pv) (tv := tv) (iv := iv) (m := m + d) (z := (some v, k)) (r := 0) rfl (L.2.2.2.1 (m + d) 4)
    rw [Nat.zero_add] at this
    exact this
def sp_names (p t i : Int32) (L : LnS) : Int32 := if rng p 1 1000000 ∧ rng t 0 999 ∧ 0 ≤ i then (match (nmm L (tN p) (tN t) (tN i) L.1).1 with
  | some v => nI v
  | none => -1) else -2
