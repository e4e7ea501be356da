/-! THE SEARCH, as a function: the outcome is (0 none, 1 found, 2 spent; TRIES; what was picked) -/
abbrev SrO : Type := Nat × Nat × (Nat → Nat)
abbrev fre (od : Nat → Nat) (k b : Nat) : Prop := ∀ j, j < k → od j ≠ b
def lpF (F : Nat → Nat → (Nat → Nat) → SrO) (pos : Nat) : Nat → Nat → Nat → (Nat → Nat) → SrO
  | 0, _, t, od => (0, t, od)
  | k + 1, b, t, od => if fre od pos b then (if t < 100000 then (if (F b (t + 1) (va_up od pos b)).1 = 0 then lpF F pos k (b + 1) (F b (t + 1) (va_up od pos b)).2.1 (F b (t + 1) (va_up od pos b)).2.2 else F b (t + 1) (va_up od pos b)) else (2, t, od)) else lpF F pos k (b + 1) t od
def lfr (od : Nat → Nat) (pos : Nat) : Nat → Nat → Nat
  | 0, b => b
  | k + 1, b => if fre od pos b then b else lfr od pos k (b + 1)
def sr (sz n : Nat) (num : Nat → Nat) (lo hh : Nat) : Nat → Nat → Nat → Nat → Nat → Nat → (Nat → Nat) → SrO
  | 0, _, _, _, _, t, od => (0, t, od)
  | d + 1, 0, pos, _, _, t, od => if pos < sz then sr sz n num lo hh d 1 (pos + 1) (n - 1) (num (lfr od pos (sz - 1) 0)) t (va_up od pos (lfr od pos (sz - 1) 0)) else (1, t, od)
  | d + 1, _ + 1, pos, room, su, t, od => if room = 0 then (if lo ≤ su ∧ su ≤ hh then sr sz n num lo hh d 0 pos 0 0 t od else (0, t, od)) else lpF (fun b t od => sr sz n num lo hh d 1 (pos + 1) (room - 1) (su + num b) t od) pos (sz - (od (pos - 1) + 1)) (od (pos - 1) + 1) t od
theorem lfr_le (od : Nat → Nat) (pos : Nat) : ∀ k b, lfr od pos k b ≤ b + k
  | 0, b => Nat.le_refl _
  | k + 1, b => by
    show (if fre od pos b then b else lfr od pos k (b + 1)) ≤ _
    have := lfr_le od pos k (b + 1)
    split <;> omega
theorem lfr_ge (od : Nat → Nat) (pos : Nat) : ∀ k b, b ≤ lfr od pos k b
  | 0, b => Nat.le_refl _
  | k + 1, b => by
    show _ ≤ (if fre od pos b then b else lfr od pos k (b + 1))
    have := lfr_ge od pos k (b + 1)
    split <;> omega
/-- what every outcome keeps -/
def srK (sz pos : Nat) (od : Nat → Nat) (o : SrO) : Prop := o.1 ≤ 2 ∧ o.2.1 ≤ 100000 ∧ (∀ j, j < pos → o.2.2 j = od j) ∧ ((∀ j, j < pos → od j < sz) → o.1 = 1 → ∀ j, j < sz → o.2.2 j < sz)
theorem srK_0 {sz pos t : Nat} {od : Nat → Nat} (ht : t ≤ 100000) : srK sz pos od (0, t, od) := ⟨Nat.zero_le _, ht, fun _ _ => rfl, fun _ h => absurd h (show ¬ (0 : Nat) = 1 by decide)⟩
theorem srK_up {sz pos b : Nat} {od od0 : Nat → Nat} {o : SrO} (hb : b < sz) (hp : ∀ j, j < pos → od j = od0 j) (h : srK sz (pos + 1) (va_up od pos b) o) : srK sz pos od0 o := by
  obtain ⟨h1, h2, h3, h4⟩ := h
  refine ⟨h1, h2, fun j hj => by rw [h3 j (by omega), va_up_ne _ _ (by omega)]; exact hp j hj, fun hq => h4 (fun j hj => ?_)⟩
  by_cases q : j = pos
  · rw [q, va_up_self]; exact hb
  · rw [va_up_ne _ _ q, hp j (by omega)]; exact hq j (by omega)
theorem lpF_K {F : Nat → Nat → (Nat → Nat) → SrO} {sz pos : Nat} {od0 : Nat → Nat} (hF : ∀ b t od, b < sz → t ≤ 100000 → srK sz (pos + 1) od (F b t od)) : ∀ (k b t : Nat) (od : Nat → Nat), b + k ≤ sz → t ≤ 100000 → (∀ j, j < pos → od j = od0 j) → srK sz pos od0 (lpF F pos k b t od)
  | 0, b, t, od, _, ht, hp => ⟨Nat.zero_le _, ht, hp, fun _ h => absurd h (show ¬ (0 : Nat) = 1 by decide)⟩
  | k + 1, b, t, od, hb, ht, hp => by
    unfold lpF
    split
    · split
      · have hf := srK_up (by omega) hp (hF b (t + 1) (va_up od pos b) (by omega) (by omega))
        split
        · exact lpF_K hF k (b + 1) _ _ (by omega) hf.2.1 hf.2.2.1
        · exact hf
      · exact ⟨Nat.le_refl _, ht, hp, fun _ h => absurd h (show ¬ (2 : Nat) = 1 by decide)⟩
    · exact lpF_K hF k (b + 1) t od (by omega) ht hp
theorem lpF_K0 {F : Nat → Nat → (Nat → Nat) → SrO} {sz pos : Nat} {od0 : Nat → Nat} (k b t : Nat) (od : Nat → Nat) (hF : ∀ b t od, b < sz → t ≤ 100000 → srK sz (pos + 1) od (F b t od)) (hb : b + k ≤ sz ∨ k = 0) (ht : t ≤ 100000) (hp : ∀ j, j < pos → od j = od0 j) : srK sz pos od0 (lpF F pos k b t od) := by
  rcases hb with hb | hb
  · exact lpF_K hF k b t od hb ht hp
  · subst hb
    exact ⟨Nat.zero_le _, ht, hp, fun _ h => absurd h (show ¬ (0 : Nat) = 1 by decide)⟩
theorem sr_K (sz n : Nat) (num : Nat → Nat) (lo hh : Nat) : ∀ (d f pos room su t : Nat) (od : Nat → Nat), t ≤ 100000 → srK sz pos od (sr sz n num lo hh d f pos room su t od)
  | 0, _, _, _, _, t, od, ht => srK_0 ht
  | d + 1, 0, pos, room, su, t, od, ht => by
    show srK sz pos od (if pos < sz then _ else _)
    split
    · have hl := lfr_le od pos (sz - 1) 0
      exact srK_up (by omega) (fun _ _ => rfl) (sr_K sz n num lo hh d 1 (pos + 1) (n - 1) _ t _ ht)
    · exact ⟨show (1 : Nat) ≤ 2 by decide, ht, fun _ _ => rfl, fun hq _ j hj => hq j (by omega)⟩
  | d + 1, f + 1, pos, room, su, t, od, ht => by
    show srK sz pos od (if room = 0 then _ else _)
    split
    · split
      · exact sr_K sz n num lo hh d 0 pos 0 0 t od ht
      · exact srK_0 ht
    · exact lpF_K0 _ _ _ _ (fun b t od hb ht => sr_K sz n num lo hh d 1 (pos + 1) (room - 1) _ t od ht) (by omega) ht (fun _ _ => rfl)
/-! bits -/
theorem sh_am : ∀ b, b < 12 → ((nI b &&& 31).toBitVec.smod 32).toNat = b := by decide
theorem sh_one : ∀ b, b < 12 → (nI 1) <<< (nI b &&& 31) = nI (2 ^ b) := by decide
theorem or_nI (a b : Nat) (ha : a < 4096) (hb : b < 4096) : nI a ||| nI b = nI (a ||| b) := by
  apply Int32.toBitVec_inj.mp
  show BitVec.ofNat 32 a ||| BitVec.ofNat 32 b = BitVec.ofNat 32 (a ||| b)
  apply BitVec.eq_of_toNat_eq
  rw [BitVec.toNat_or, BitVec.toNat_ofNat, BitVec.toNat_ofNat, BitVec.toNat_ofNat, Nat.mod_eq_of_lt (by omega), Nat.mod_eq_of_lt (by omega), Nat.mod_eq_of_lt]
  exact Nat.lt_of_lt_of_le (Nat.or_lt_two_pow (n := 12) ha hb) (by decide)
theorem bt_set {u b : Nat} (hu : u < 4096) (hb : b < 12) : (nI u) ||| ((nI 1) <<< ((nI b) &&& 31)) = nI (u ||| 2 ^ b) ∧ u ||| 2 ^ b < 4096 := by
  have h2 : 2 ^ b < 4096 := Nat.lt_of_lt_of_le (Nat.pow_lt_pow_right (by omega) hb) (by decide)
  rw [sh_one b hb]
  exact ⟨or_nI _ _ hu h2, Nat.or_lt_two_pow (n := 12) hu h2⟩
theorem bt_tst {u b : Nat} (hu : u < 4096) (hb : b < 12) : ((nI u) >>> ((nI b) &&& 31)) &&& (nI 1) = nI (u / 2 ^ b % 2) := by
  rw [pk_shrN (by omega) _ b (sh_am b hb)]
  have h := Nat.div_le_self u (2 ^ b)
  exact pk_andN (by omega) (m := nI 1) 1 (by decide)
theorem bt_zero {u b : Nat} (hu : u < 4096) (hb : b < 12) : ((nI u) >>> ((nI b) &&& 31)) &&& (nI 1) = 0 ↔ u.testBit b = false := by
  rw [bt_tst hu hb, Nat.testBit_eq_decide_div_mod_eq, decide_eq_false_iff_not]
  have h := nI_eq (a := u / 2 ^ b % 2) (b := 0) (by omega) (by omega)
  constructor
  · intro q
    have := h.mp q
    omega
  · intro q
    exact h.mpr (by omega)
/-- the bits say which BALES are picked -/
def msk (sz : Nat) (od : Nat → Nat) (pos u : Nat) : Prop := u < 4096 ∧ ∀ b, b < sz → (u.testBit b = false ↔ fre od pos b)
theorem msk_up {sz pos u b : Nat} {od od1 : Nat → Nat} (hs : sz ≤ 12) (h : msk sz od pos u) (hb : b < sz) (hp : ∀ j, j < pos → od1 j = od j) : msk sz (va_up od1 pos b) (pos + 1) (u ||| 2 ^ b) := by
  refine ⟨(bt_set h.1 (show b < 12 by omega)).2, fun q hq => ?_⟩
  have h1 := h.2 q hq
  rw [Nat.testBit_or, Nat.testBit_two_pow, Bool.or_eq_false_iff, h1, decide_eq_false_iff_not]
  constructor
  · intro ⟨z1, z2⟩ j hj
    by_cases c : j = pos
    · rw [c, va_up_self]; exact z2
    · rw [va_up_ne _ _ c, hp j (by omega)]; exact z1 j (by omega)
  · intro z
    refine ⟨fun j hj => ?_, ?_⟩
    · have := z j (by omega)
      rw [va_up_ne _ _ (by omega), hp j hj] at this
      exact this
    · have := z pos (by omega)
      rw [va_up_self] at this
      exact this
theorem msk_0 (sz : Nat) (od : Nat → Nat) : msk sz od 0 0 := ⟨by decide, fun b _ => ⟨fun _ j hj => absurd hj (Nat.not_lt_zero _), fun _ => Nat.zero_testBit b⟩⟩
theorem fre_cong {od od1 : Nat → Nat} {pos b : Nat} (h : ∀ j, j < pos → od1 j = od j) : fre od1 pos b ↔ fre od pos b := ⟨fun z j hj => by rw [← h j hj]; exact z j hj, fun z j hj => by rw [h j hj]; exact z j hj⟩
