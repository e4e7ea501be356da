theorem mod_g36 {X : Cx} {ad : Nat → Nat} {C : ClS} {g : PF} (h : rMod X ad C g) : ∃ fs : List Value, g 36 = .inr (6, fs) := by
  obtain ⟨md, ma, mb, ml, mr, mo, cn, ms, fs, nn, pl, pm, q0, q1⟩ := h
  exact ⟨_, q0⟩
def LawFix (p : Program) (s : State) (m : MethodId) (c : Code) (b L : Nat) (xs : Nat → Int32) (X : Cx) (ad : Nat → Nat) : Prop := CallFix p m c cL_law 4 s #[Value.ref b] wsL_law RL ∧ WF X 48 ad (fun q => s.heap.size ≤ q) s ∧ va_X b L xs s s.heap ∧ b < s.heap.size ∧ L ≤ 3072
def LawInv (X : Cx) (ad : Nat → Nat) (s : State) (C : ClS) (g : PF) (H : Heap) (locs : List Loc) : Prop := rCls X ad C g ∧ rMod X ad C g ∧ WH X 48 ad (fun q => s.heap.size ≤ q) s g H locs
theorem law_arg {p : Program} {l : Launch} {e : Env} {R : Room} {s : State} {m : MethodId} {args : Array Value} {below : List Frame} {meth : Method} {c : Code} {H : Heap} {locs : List Loc} {cells slots : Nat} {Q : State → Prop} {ls : Array Slot} {rest : List Value} {A : Nat → Prop} {b L a1 a2 k : Nat} {xs : Nat → Int32} (pc j : Nat) {n : Int} (hx : p.tables.exec = Jvm.exec) (hb : c.code = cL_law) (hX : va_X b L xs s s.heap) (hbl : b < s.heap.size) (hbA : ¬ A b) (hS : va_S A s.heap H locs) (hl : lv_has ls 4 [(0, .ref b), (1, .ref a1), (2, .ref a2), (3, .int (nI k))]) (hj : k + j < L) (hL : L ≤ 3072) (d1 : decode cL_law pc = .ok (.aload_n 0, 1)) (d2 : decode cL_law (pc + 1) = .ok (.iload_n 3, 1)) (d3 : decode cL_law (pc + 2) = .ok (.iconst n, 1)) (hn : Int32.ofInt n = nI j) (d4 : decode cL_law (pc + 3) = .ok (.iadd, 1)) (d5 : decode cL_law (pc + 4) = .ok (.iaload, 1))
    (kk : W p l e R s m args below meth c H locs cells slots Q (F0 m (pc + 5) ls (.int (xs (k + j)) :: rest))) : W p l e R s m args below meth c H locs cells slots Q (F0 m pc ls rest) := by
  refine lv_aload_n hx hb d1 rfl (lv_at hl 0 rfl) ?_
  refine lv_iload_n hx hb d2 rfl (lv_at hl 3 rfl) ?_
  refine lv_iconst (v := nI j) hx hb d3 hn ?_
  refine lv_iadd hx hb d4 ?_
  rw [nI_add]
  refine va_sld hx hb hX hbl hbA hS (i := nI (k + j)) (vp_in_nI hj (by omega)) d5 ?_
  rw [nI_clamp (by omega)]
  exact kk
theorem law_cmp {k L : Nat} (hk : k ≤ 10000) (hL : L ≤ 3072) : (Int32.ofNat L - nI 6 < nI k) ↔ L < k + 6 := by
  have e1 : (Int32.ofNat L - nI 6).toInt = (L : Int) - 6 := by
    rw [Int32.toInt_sub, show (Int32.ofNat L).toInt = (L : Int) from nI_toInt (n := L) (by omega), nI_toInt (n := 6) (by decide)]
    exact Int.bmod_eq_of_le (by omega) (by omega)
  rw [Int32.lt_iff_toInt_lt, e1, nI_toInt (by omega)]
  omega
