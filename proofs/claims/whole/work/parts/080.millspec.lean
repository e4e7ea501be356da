abbrev ClS : Type := LnS × (Nat → Nat) × (Nat → Nat → Nat) × StS
def rMil (X : Cx) (ad : Nat → Nat) (g : PF) : Prop := g 0 = .inr (5, [.ref (ad 1), .ref (ad 16), .ref (ad 33)]) ∧ ∃ fq : Nat → Option Nat, g 16 = orr X.2.2.2 8 fq ∧ ∀ j, j < 8 → fq j = some (ad (17 + 2 * j))
def rRows (X : Cx) (ad : Nat → Nat) (n : Nat → Nat) (a : Nat → Nat → Nat) (g : PF) : Prop := ∀ r, r < 8 → rRow X ad (17 + 2 * r) (n r) (a r) g
def rCls (X : Cx) (ad : Nat → Nat) (C : ClS) (g : PF) : Prop := rMil X ad g ∧ rLine X ad C.1 g ∧ rRows X ad C.2.1 C.2.2.1 g ∧ rStore X ad C.2.2.2 g
def frC (g g' : PF) : Prop := ∀ j, 35 < j → g' j = g j
theorem rMil.same {X : Cx} {ad : Nat → Nat} {g g' : PF} (h : rMil X ad g) (h0 : g' 0 = g 0) (h1 : g' 16 = g 16) : rMil X ad g' := by
  obtain ⟨q1, fq, q2, q3⟩ := h
  exact ⟨h0.trans q1, fq, h1.trans q2, q3⟩
theorem rRows.same {X : Cx} {ad : Nat → Nat} {n : Nat → Nat} {a : Nat → Nat → Nat} {g g' : PF} (h : rRows X ad n a g) (hs : ∀ r, 17 ≤ r → r < 33 → g' r = g r) : rRows X ad n a g' := fun r hr => (h r hr).same (hs _ (by omega) (by omega)) (hs _ (by omega) (by omega))
theorem cls_line {X : Cx} {ad : Nat → Nat} {C : ClS} {L : LnS} {g g' : PF} (h : rCls X ad C g) (h1 : rLine X ad L g') (f : frL g g') : rCls X ad (L, C.2) g' ∧ frC g g' :=
  ⟨⟨h.1.same (f _ (by omega)) (f _ (by omega)), h1, h.2.2.1.same (fun r _ _ => f r (by omega)), h.2.2.2.same (fun r _ _ => f r (by omega))⟩, fun j hj => f j (by omega)⟩
theorem cls_store {X : Cx} {ad : Nat → Nat} {C : ClS} {B : StS} {g g' : PF} (h : rCls X ad C g) (h1 : rStore X ad B g') (f : frS g g') : rCls X ad (C.1, C.2.1, C.2.2.1, B) g' ∧ frC g g' :=
  ⟨⟨h.1.same (f _ (by omega)) (f _ (by omega)), h.2.1.same (fun r _ _ => f r (by omega)), h.2.2.1.same (fun r _ _ => f r (by omega)), h1⟩, fun j hj => f j (by omega)⟩
theorem cls_row {X : Cx} {ad : Nat → Nat} {C : ClS} {r n1 : Nat} {a1 : Nat → Nat} {g g' : PF} (h : rCls X ad C g) (hr : r < 8) (h1 : rRow X ad (17 + 2 * r) n1 a1 g') (f : fr2 (17 + 2 * r) g g') : rCls X ad (C.1, va_up C.2.1 r n1, va_up C.2.2.1 r a1, C.2.2.2) g' ∧ frC g g' := by
  refine ⟨⟨h.1.same (f _ (by omega) (by omega)) (f _ (by omega) (by omega)), h.2.1.same (fun q _ _ => f q (by omega) (by omega)), fun q hq => ?_, h.2.2.2.same (fun q _ _ => f q (by omega) (by omega))⟩, fun j hj => f j (by omega) (by omega)⟩
  show rRow X ad (17 + 2 * q) (va_up C.2.1 r n1 q) (va_up C.2.2.1 r a1 q) g'
  by_cases c : q = r
  · subst c; rw [va_up_self, va_up_self]; exact h1
  · rw [va_up_ne _ _ c, va_up_ne _ _ c]; exact (h.2.2.1 q hq).same (f _ (by omega) (by omega)) (f _ (by omega) (by omega))
def rowOp (f : Nat → (Nat → Nat) → Int32 × Nat × (Nat → Nat)) (p : Int32) (C : ClS) : Int32 × ClS := if rng p 0 7 then ((f (C.2.1 (tN p)) (C.2.2.1 (tN p))).1, C.1, va_up C.2.1 (tN p) (f (C.2.1 (tN p)) (C.2.2.1 (tN p))).2.1, va_up C.2.2.1 (tN p) (f (C.2.1 (tN p)) (C.2.2.1 (tN p))).2.2, C.2.2.2) else (-2, C)
def rowRd {α : Type} (f : Nat → (Nat → Nat) → α) (bad : α) (p : Int32) (C : ClS) : α := if rng p 0 7 then f (C.2.1 (tN p)) (C.2.2.1 (tN p)) else bad
def lineOp (f : LnS → Int32 × LnS) (C : ClS) : Int32 × ClS := ((f C.1).1, (f C.1).2, C.2)
def storeOp (f : StS → Int32 × StS) (C : ClS) : Int32 × ClS := ((f C.2.2.2).1, C.1, C.2.1, C.2.2.1, (f C.2.2.2).2)
def cs_join (p q : Int32) (C : ClS) : Int32 × ClS := if rng p 0 7 ∧ rng q 0 7 then (if tN p = tN q then (-3, C) else rowOp (sp_join (C.2.1 (tN q)) (C.2.2.1 (tN q))) p C) else (-2, C)
theorem cs_row {X : Cx} {ad : Nat → Nat} {C : ClS} {rv : Nat} {g g' : PF} {f : Nat → (Nat → Nat) → Int32 × Nat × (Nat → Nat)} {r : Int32} (h : rCls X ad C g) (hr : rv ≤ 7) (h1 : r = (f (C.2.1 rv) (C.2.2.1 rv)).1 ∧ rRow X ad (17 + 2 * rv) (f (C.2.1 rv) (C.2.2.1 rv)).2.1 (f (C.2.1 rv) (C.2.2.1 rv)).2.2 g' ∧ fr2 (17 + 2 * rv) g g') : r = (rowOp f (nI rv) C).1 ∧ rCls X ad (rowOp f (nI rv) C).2 g' ∧ frC g g' := by
  have e : rowOp f (nI rv) C = ((f (C.2.1 rv) (C.2.2.1 rv)).1, C.1, va_up C.2.1 rv (f (C.2.1 rv) (C.2.2.1 rv)).2.1, va_up C.2.2.1 rv (f (C.2.1 rv) (C.2.2.1 rv)).2.2, C.2.2.2) := by
    unfold rowOp
    rw [if_pos ((rng_iff (by omega)).mpr (by omega)), tN_nI (by omega)]
  rw [e]
  exact ⟨h1.1, cls_row h (by omega) h1.2.1 h1.2.2⟩
theorem cs_bad {X : Cx} {ad : Nat → Nat} {C : ClS} {p : Int32} {g : PF} {f : Nat → (Nat → Nat) → Int32 × Nat × (Nat → Nat)} (h : rCls X ad C g) (hp : ¬ rng p 0 7) : (-2 : Int32) = (rowOp f p C).1 ∧ rCls X ad (rowOp f p C).2 g ∧ frC g g := by
  unfold rowOp
  rw [if_neg hp]
  exact ⟨rfl, h, fun _ _ => rfl⟩
theorem rd_row {α : Type} {C : ClS} {rv : Nat} {f : Nat → (Nat → Nat) → α} {bad : α} (hr : rv ≤ 7) : rowRd f bad (nI rv) C = f (C.2.1 rv) (C.2.2.1 rv) := by
  unfold rowRd
  rw [if_pos ((rng_iff (by omega)).mpr (by omega)), tN_nI (by omega)]
theorem rd_bad {α : Type} {C : ClS} {p : Int32} {f : Nat → (Nat → Nat) → α} {bad : α} (hp : ¬ rng p 0 7) : rowRd f bad p C = bad := by
  unfold rowRd
  rw [if_neg hp]
def mny (C : ClS) : Nat → Nat
  | 0 => C.1.1
  | 1 => rollers C.1
  | 2 => C.2.2.2.1
  | 3 => C.2.2.2.2.2.1
  | _ => sm C.2.1 8
def sp_many (p : Int32) (C : ClS) : Int32 := if rng p 0 4 then nI (mny C (tN p)) else -2
def dg0 (C : ClS) : Nat → Int64
  | 0 => lN 149
  | k + 1 => lN 31 * dg0 C k + lN (mny C k)
def dgr (h : Int64) (n : Nat → Nat) (a : Nat → Nat → Nat) : Nat → Int64
  | 0 => h
  | r + 1 => mx (dgr h n a r) (a r) (n r)
def sp_digest (C : ClS) : Int64 := mx (dgr (lN 31 * (lN 31 * dg0 C 5 + sp_countOf C.1.1 (nI 0) C.1) + sp_countOf C.1.1 (nI 1) C.1) C.2.1 C.2.2.1 8) C.2.2.2.2.2.2.2.1 (C.2.2.2.2.2.1 * C.2.2.2.2.2.2.1)
