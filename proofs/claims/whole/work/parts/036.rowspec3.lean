theorem ni_decr (a : Nat) : nI a + Int32.ofInt (-1) = nI a - nI 1 := by
  rw [Int32.sub_eq_add_neg]
  rfl
theorem fa_mask31 (n : Nat) : nI n &&& nI 2147483647 = nI (n % 2147483648) := by
  have h := pk_and (nI n) (m := nI 2147483647) 31 (by decide)
  rw [h]
  apply Int32.toBitVec_inj.mp
  show BitVec.ofNat 32 _ = BitVec.ofNat 32 _
  congr 1
  show (BitVec.ofNat 32 n).toNat % 2 ^ 31 = _
  rw [BitVec.toNat_ofNat]
  omega
section YD
variable {p : Program} {l : Launch} {e : Env} {R : Room} {s : State} {m : MethodId} {args : Array Value} {below : List Frame} {meth : Method} {c : Code} {H : Heap} {locs : List Loc} {cells slots : Nat} {Q : State → Prop} {pc : Nat} {ls : Array Slot} {rest : List Value} {cc : ByteArray}
theorem ni_mask31 (hx : p.tables.exec = Jvm.exec) (hb : c.code = cc) {a : Nat} (hdg : decode cc pc = .ok (.iand, 1))
    (k : W p l e R s m args below meth c H locs cells slots Q (F0 m (pc + 1) ls (.int (nI (a % 2147483648)) :: rest))) : W p l e R s m args below meth c H locs cells slots Q (F0 m pc ls (.int (nI 2147483647) :: .int (nI a) :: rest)) := lv_iand hx hb hdg (by rw [fa_mask31]; exact k)
end YD
theorem rn_cong {q r : Nat → Prop} [DecidablePred q] [DecidablePred r] : ∀ {k i : Nat}, (∀ j, i ≤ j → j < i + k → (q j ↔ r j)) → rn q k i = rn r k i
  | 0, _, _ => rfl
  | k + 1, i, h => by
    have h0 := h i (by omega) (by omega)
    have h1 := rn_cong (k := k) (i := i + 1) (fun j h2 h3 => h j (by omega) (by omega))
    show (if q i then rn q k (i + 1) + 1 else 0) = if r i then rn r k (i + 1) + 1 else 0
    by_cases z : q i
    · rw [if_pos z, if_pos (h0.mp z), h1]
    · rw [if_neg z, if_neg (fun y => z (h0.mpr y))]
theorem run_cong {t n B i : Nat} {a b : Nat → Nat} (h : ∀ j, i ≤ j → j < n → a j = b j) : run t n a B i = run t n b B i := by
  refine rn_cong (fun j h1 h2 => ?_)
  unfold qt
  rw [h j h1 (by omega)]
theorem plc_cong {n B C lq i : Nat} {a b : Nat → Nat} (h : ∀ j, i ≤ j → j < n → a j = b j) : plc n a B C lq i = plc n b B C lq i := by
  unfold plc
  rw [run_cong h, run_cong h]
theorem sg_cong {a b : Nat → Nat} {f k : Nat} (h : ∀ j, f ≤ j → j < f + k → a j = b j) : sg a f k = sg b f k := sm_cong (fun j hj => h (f + j) (by omega) (by omega))
/-- a cursor that goes on by stp i, at least by 1 -/
def cur {σ : Type} (stp : Nat → Nat) (f : Nat → σ → σ) (n : Nat) : Nat → Nat → σ → σ
  | 0, _, z => z
  | k + 1, i, z => if i < n then cur stp f n k (i + max (stp i) 1) (f i z) else z
theorem cur_no {σ : Type} (stp : Nat → Nat) (f : Nat → σ → σ) {n i : Nat} (h : n ≤ i) (z : σ) : ∀ k, cur stp f n k i z = z
  | 0 => rfl
  | k + 1 => by
    show (if i < n then _ else z) = _
    rw [if_neg (by omega)]
theorem cur_yes {σ : Type} (stp : Nat → Nat) (f : Nat → σ → σ) {n i : Nat} (h : i < n) (z : σ) (k : Nat) : cur stp f n (k + 1) i z = cur stp f n k (i + max (stp i) 1) (f i z) := by
  show (if i < n then _ else z) = _
  rw [if_pos h]
theorem cur_fuel {σ : Type} (stp : Nat → Nat) (f : Nat → σ → σ) (n : Nat) : ∀ (k k' i : Nat) (z : σ), n - i ≤ k → n - i ≤ k' → cur stp f n k i z = cur stp f n k' i z := by
  intro k
  induction k with
  | zero => intro k' i z h _; rw [cur_no _ _ (by omega), cur_no _ _ (by omega)]
  | succ k ih =>
    intro k' i z h h'
    by_cases hi : i < n
    · obtain ⟨t, rfl⟩ : ∃ t, k' = t + 1 := ⟨k' - 1, by omega⟩
      rw [cur_yes _ _ hi, cur_yes _ _ hi]
      exact ih t _ _ (by omega) (by omega)
    · rw [cur_no _ _ (by omega), cur_no _ _ (by omega)]
theorem cur_step {σ : Type} (stp : Nat → Nat) (f : Nat → σ → σ) {n i : Nat} (h : i < n) (z : σ) : cur stp f n (n - i) i z = cur stp f n (n - (i + max (stp i) 1)) (i + max (stp i) 1) (f i z) := by
  obtain ⟨t, ht⟩ : ∃ t, n - i = t + 1 := ⟨n - i - 1, by omega⟩
  rw [ht, cur_yes _ _ h]
  exact cur_fuel _ _ _ _ _ _ _ (by omega) (by omega)
/-- counted PLACES -/
def cpf (R : Nat → Nat) (lq : Nat) (i c : Nat) : Nat := if lq ≤ R i then c + 1 else c
def sp_places (th tn lq so : Int32) (n : Nat) (a : Nat → Nat) : Int32 :=
  if lawP th tn lq ∧ rng so 0 1 then (if so = nI 0 then nI (cur (run 1 n a (sp_mean n a * (100 + tN th))) (cpf (run 1 n a (sp_mean n a * (100 + tN th))) (tN lq)) n n 0 0) else nI (cur (run 0 n a (sp_mean n a * (100 - tN tn))) (cpf (run 0 n a (sp_mean n a * (100 - tN tn))) (tN lq)) n n 0 0)) else -2
/-- CLEARED: kept, SPLICES, whether one went just ahead, what stays -/
def clf (n : Nat) (a : Nat → Nat) (B C lq : Nat) (i : Nat) (z : Nat × Nat × Nat × (Nat → Nat)) : Nat × Nat × Nat × (Nat → Nat) :=
  if plc n a B C lq i = 0 then (z.1 + 1, z.2.1 + (if 0 < z.2.2.1 ∧ 0 < z.1 then 1 else 0), 0, va_up z.2.2.2 z.1 (a i)) else (z.1, z.2.1, 1, z.2.2.2)
def cl (n : Nat) (a : Nat → Nat) (B C lq : Nat) : Nat × Nat × Nat × (Nat → Nat) := cur (plc n a B C lq) (clf n a B C lq) n n 0 (0, 0, 0, fun _ => 0)
def sp_cleared (th tn lq : Int32) (n : Nat) (a : Nat → Nat) : Int32 × Nat × (Nat → Nat) :=
  if lawP th tn lq then (nI (cl n a (sp_mean n a * (100 + tN th)) (sp_mean n a * (100 - tN tn)) (tN lq)).2.1, (cl n a (sp_mean n a * (100 + tN th)) (sp_mean n a * (100 - tN tn)) (tN lq)).1, (cl n a (sp_mean n a * (100 + tN th)) (sp_mean n a * (100 - tN tn)) (tN lq)).2.2.2) else (-2, n, a)
/-- the greatest WAVE -/
def bst (b : Nat) : Int32 := if b = 0 then -1 else nI b
theorem bst_0 {b : Nat} (h : b < 2147483648) : bst b = -1 ↔ b = 0 := by
  unfold bst
  by_cases z : b = 0
  · simp [z]
  · rw [if_neg z]
    refine ⟨fun q => ?_, fun q => absurd q z⟩
    have h1 : (nI b).toInt = (b : Int) := nI_toInt (by omega)
    rw [q] at h1
    have h2 : (-1 : Int32).toInt = -1 := by decide
    omega
def by3 (n w : Nat) : Nat := n / w * w * w
def gr (n : Nat) (a : Nat → Nat) : Nat → Nat × Nat × Nat
  | 0 => (0, 0, 1)
  | k + 1 => if (gr n a k).1 = 0 ∨ (gr n a k).2.1 * by3 n (k + 2) < wv (k + 2) n a * (gr n a k).2.2 then (k + 2, wv (k + 2) n a, by3 n (k + 2)) else gr n a k
def sp_greatest (q : Int32) (n : Nat) (a : Nat → Nat) : Int32 := if rng q 2 200 then bst (gr n a (min (tN q) (n / 2) - 1)).1 else -2
theorem by3_in {n w : Nat} (hn : n ≤ 400) (hw : 2 ≤ w) (hw2 : w ≤ 200) (h : w ≤ n) : 0 < by3 n w ∧ by3 n w ≤ 80000 := by
  have h1 := Nat.div_mul_le_self n w
  have h2 : 1 ≤ n / w := Nat.div_pos h (by omega)
  have h3 := Nat.mul_le_mul h2 (Nat.le_refl w)
  unfold by3
  generalize n / w * w = t at *
  constructor
  · exact Nat.mul_pos (by omega) (by omega)
  · exact Nat.le_trans (Nat.mul_le_mul (show t ≤ 400 by omega) hw2) (by omega)
theorem zs_le {a : Nat → Nat} {n w i : Nat} (hab : ∀ j, j < n → a j ≤ 1000000) (hi : i < w) : zs a w i (n / w) ≤ n / w * 1000000 := by
  refine sm_le (fun j hj => hab _ ?_)
  have h1 := Nat.div_mul_le_self n w
  have h2 := Nat.mul_le_mul_right w (show j + 1 ≤ n / w from hj)
  rw [Nat.succ_mul] at h2
  omega
theorem wv_le {a : Nat → Nat} {n w : Nat} (hn : n ≤ 400) (hab : ∀ j, j < n → a j ≤ 1000000) : wv w n a ≤ 160000000000000000 := by
  have h1 : wQ n a w w ≤ w * ((n / w * 1000000) * (n / w * 1000000)) := sm_le (fun j hj => Nat.mul_le_mul (zs_le hab hj) (zs_le hab hj))
  have h2 := Nat.mul_le_mul_left w h1
  have h3 : w * (w * ((n / w * 1000000) * (n / w * 1000000))) = (n / w * w * 1000000) * (n / w * w * 1000000) := by
    generalize n / w = t
    simp only [Nat.mul_assoc, Nat.mul_comm, Nat.mul_left_comm]
  have h4 := Nat.div_mul_le_self n w
  have h5 : (n / w * w * 1000000) * (n / w * w * 1000000) ≤ 400000000 * 400000000 := Nat.mul_le_mul (by omega) (by omega)
  unfold wv
  omega
theorem gr_in {a : Nat → Nat} {n : Nat} (hn : n ≤ 400) (hab : ∀ j, j < n → a j ≤ 1000000) : ∀ k, (k = 0 ∨ (k + 1 ≤ 200 ∧ k + 1 ≤ n)) → (gr n a k).1 ≤ 200 ∧ (gr n a k).2.1 ≤ 160000000000000000 ∧ 0 < (gr n a k).2.2 ∧ (gr n a k).2.2 ≤ 80000
  | 0, _ => by simp [gr]
  | k + 1, h => by
    have h0 := gr_in hn hab k (by omega)
    have h1 := by3_in hn (show 2 ≤ k + 2 by omega) (by omega) (by omega)
    have h2 := wv_le (w := k + 2) hn hab
    show (if _ then _ else _ : Nat × Nat × Nat).1 ≤ 200 ∧ (if _ then _ else _ : Nat × Nat × Nat).2.1 ≤ _ ∧ 0 < (if _ then _ else _ : Nat × Nat × Nat).2.2 ∧ (if _ then _ else _ : Nat × Nat × Nat).2.2 ≤ _
    split
    · exact ⟨by show k + 2 ≤ 200; omega, h2, h1.1, h1.2⟩
    · exact h0
