theorem law_aI {s : State} {args : Array Value} (h : (Cond.arrayClass .int).before args s = true) : ∃ cA : ClassId, ArrOfT s cA .int ∧ va_RA s cA .int := by
  obtain ⟨cA, kA, comp, h1, h2, h3⟩ := Cond.arrayClass_spec h
  exact ⟨cA, fun N z => ⟨(fun k h => by cases h), kA, h2, comp, h3⟩, h1⟩
theorem law_aQ {s : State} {args : Array Value} {C : String} (h : (Cond.arrayOver (.object C)).before args s = true) : ∃ cA : ClassId, ArrOfT s cA (.object C) ∧ va_RA s cA (.object C) := by
  obtain ⟨comp, cA, kA, h1, h2, h3, h4, h5⟩ := Cond.arrayOver_spec h
  exact ⟨cA, fun N z => ⟨(fun k h => by cases h), kA, h3, comp, h4⟩, kA, comp, h3, h4, h1, h5⟩
theorem law_nest {s : State} {args : Array Value} (hts : ∀ w ∈ lw_tbl, w.before args s = true) : ∀ q ∈ nestM, va_Nw (.methodLinkNest q.1 q.2.1 q.2.2 RX5) s := by
  intro q hq
  simp only [nestM, List.mem_cons, List.not_mem_nil, or_false] at hq
  rcases hq with rfl | rfl | rfl | rfl | rfl | rfl | rfl
  · exact va_Nw.of rfl (hts _ (List.mem_of_getElem? (i := 53) (by decide +kernel)))
  · exact va_Nw.of rfl (hts _ (List.mem_of_getElem? (i := 67) (by decide +kernel)))
  · exact va_Nw.of rfl (hts _ (List.mem_of_getElem? (i := 112) (by decide +kernel)))
  · exact va_Nw.of rfl (hts _ (List.mem_of_getElem? (i := 126) (by decide +kernel)))
  · exact va_Nw.of rfl (hts _ (List.mem_of_getElem? (i := 180) (by decide +kernel)))
  · exact va_Nw.of rfl (hts _ (List.mem_of_getElem? (i := 288) (by decide +kernel)))
  · exact va_Nw.of rfl (hts _ (List.mem_of_getElem? (i := 446) (by decide +kernel)))
set_option maxRecDepth 100000 in
theorem law_K {s : State} {args : Array Value} (hts : ∀ w ∈ lw_tbl, w.before args s = true) : ∃ X : Cx, WK X s ∧ WO s := by
  obtain ⟨c0, i0, k0⟩ := u_known (C := RX0) (T := TX0) (N := 2) (n := 2) hts (fun w h => (lw_f0 w h).1) (hts (.instantiable RX0 2) (List.mem_of_getElem? (i := 52) (by decide +kernel)))
  obtain ⟨c1, i1, k1⟩ := u_known (C := RX1) (T := TX1) (N := 5) (n := 5) hts (fun w h => (lw_f1 w h).1) (hts (.instantiable RX1 5) (List.mem_of_getElem? (i := 44) (by decide +kernel)))
  obtain ⟨c2, i2, k2⟩ := u_known (C := RX2) (T := TX2) (N := 6) (n := 6) hts (fun w h => (lw_f2 w h).1) (hts (.instantiable RX2 6) (List.mem_of_getElem? (i := 66) (by decide +kernel)))
  obtain ⟨c3, i3, k3⟩ := u_known (C := RX3) (T := TX3) (N := 2) (n := 2) hts (fun w h => (lw_f3 w h).1) (hts (.instantiable RX3 2) (List.mem_of_getElem? (i := 111) (by decide +kernel)))
  obtain ⟨c4, i4, k4⟩ := u_known (C := RX4) (T := TX4) (N := 9) (n := 9) hts (fun w h => (lw_f4 w h).1) (hts (.instantiable RX4 9) (List.mem_of_getElem? (i := 125) (by decide +kernel)))
  obtain ⟨c5, i5, k5⟩ := u_known (C := RX5) (T := TX5) (N := 3) (n := 3) hts (fun w h => (lw_f5 w h).1) (hts (.instantiable RX5 3) (List.mem_of_getElem? (i := 36) (by decide +kernel)))
  obtain ⟨c6, i6, k6⟩ := u_known (C := RX6) (T := TX6) (N := 18) (n := 18) hts (fun w h => (lw_f6 w h).1) (hts (.instantiable RX6 18) (List.mem_of_getElem? (i := 519) (by decide +kernel)))
  obtain ⟨aI, hI1, hI2⟩ := law_aI (hts (.arrayClass .int) (List.mem_of_getElem? (i := 91) (by decide +kernel)))
  have oM : (Cond.arrayOver (.object RX2)).before args s = true := hts _ (List.mem_of_getElem? (i := 50) (by decide +kernel))
  have oR : (Cond.arrayOver (.object RX3)).before args s = true := hts _ (List.mem_of_getElem? (i := 110) (by decide +kernel))
  obtain ⟨aM, hM1, hM2⟩ := law_aQ oM
  obtain ⟨aR, hR1, hR2⟩ := law_aQ oR
  refine ⟨((fun k => [c0, c1, c2, c3, c4, c5, c6].getD k c0, fun k => [i0, i1, i2, i3, i4, i5, i6].getD k i0), aI, aM, aR), ⟨⟨?_, ?_⟩, law_nest hts⟩, va_AO.of oM, va_AO.of oR⟩
  · intro k q hq
    match k, hq with
    | 0, hq => cases hq; exact k0
    | 1, hq => cases hq; exact k1
    | 2, hq => cases hq; exact k2
    | 3, hq => cases hq; exact k3
    | 4, hq => cases hq; exact k4
    | 5, hq => cases hq; exact k5
    | 6, hq => cases hq; exact k6
    | k + 7, hq => simp [vwCl] at hq
  · intro k q hq
    match k, hq with
    | 0, hq => cases hq; exact ⟨hI1, hI2⟩
    | 1, hq => cases hq; exact ⟨hM1, hM2⟩
    | 2, hq => cases hq; exact ⟨hR1, hR2⟩
    | k + 3, hq => simp [tyl] at hq
def lawST (X : Cx) (q0 q6 : Nat) (u v : Nat → Nat) : va_W := [(q0, .inr (5, [.ref (u 0), .ref (u 15), .ref (u 32)])), ((u 0), .inr (1, [.int (nI 0), .int (nI 1), .int (nI 1), .ref (u 1), .ref (u 2)])), ((u 1), orr X.2.2.1 6 (va_up (va_up (va_up (va_up (va_up (va_up (fun _ => none) 0 (some (u 3))) 1 (some (u 5))) 2 (some (u 7))) 3 (some (u 9))) 4 (some (u 11))) 5 (some (u 13)))), ((u 2), .inr (0, [.long (lN 1), .long (lN 1)])), ((u 3), .inr (2, [.int (nI 0), .int (nI 0), .int (nI 0), .int (nI 0), .int (nI 0), .ref (u 4)])), ((u 4), arr X 3 (fun _ => 0)), ((u 5), .inr (2, [.int (nI 0), .int (nI 0), .int (nI 0), .int (nI 0), .int (nI 0), .ref (u 6)])), ((u 6), arr X 3 (fun _ => 0)), ((u 7), .inr (2, [.int (nI 0), .int (nI 0), .int (nI 0), .int (nI 0), .int (nI 0), .ref (u 8)])), ((u 8), arr X 3 (fun _ => 0)), ((u 9), .inr (2, [.int (nI 0), .int (nI 0), .int (nI 0), .int (nI 0), .int (nI 0), .ref (u 10)])), ((u 10), arr X 3 (fun _ => 0)), ((u 11), .inr (2, [.int (nI 0), .int (nI 0), .int (nI 0), .int (nI 0), .int (nI 0), .ref (u 12)])), ((u 12), arr X 3 (fun _ => 0)), ((u 13), .inr (2, [.int (nI 0), .int (nI 0), .int (nI 0), .int (nI 0), .int (nI 0), .ref (u 14)])), ((u 14), arr X 3 (fun _ => 0)), ((u 15), orr X.2.2.2 8 (va_up (va_up (va_up (va_up (va_up (va_up (va_up (va_up (fun _ => none) 0 (some (u 16))) 1 (some (u 18))) 2 (some (u 20))) 3 (some (u 22))) 4 (some (u 24))) 5 (some (u 26))) 6 (some (u 28))) 7 (some (u 30)))), ((u 16), .inr (3, [.int (nI 0), .ref (u 17)])), ((u 17), arr X 400 (fun _ => 0)), ((u 18), .inr (3, [.int (nI 0), .ref (u 19)])), ((u 19), arr X 400 (fun _ => 0)), ((u 20), .inr (3, [.int (nI 0), .ref (u 21)])), ((u 21), arr X 400 (fun _ => 0)), ((u 22), .inr (3, [.int (nI 0), .ref (u 23)])), ((u 23), arr X 400 (fun _ => 0)), ((u 24), .inr (3, [.int (nI 0), .ref (u 25)])), ((u 25), arr X 400 (fun _ => 0)), ((u 26), .inr (3, [.int (nI 0), .ref (u 27)])), ((u 27), arr X 400 (fun _ => 0)), ((u 28), .inr (3, [.int (nI 0), .ref (u 29)])), ((u 29), arr X 400 (fun _ => 0)), ((u 30), .inr (3, [.int (nI 0), .ref (u 31)])), ((u 31), arr X 400 (fun _ => 0)), ((u 32), .inr (4, [.int (nI 0), .int (nI 0), .int (nI 0), .int (nI 1), .int (nI 0), .int (nI 0), .int (nI 0), .ref (u 33), .ref (u 34)])), ((u 33), arr X 12 (fun _ => 0)), ((u 34), arr X 12 (fun _ => 0)), (q6, .inr (6, [.int (nI 1), .int (nI 1), .int (nI 0), .ref (v 0), .ref (v 1), .ref (v 2), .ref (v 3), .ref (v 4), .ref (v 5), .ref (v 6), .ref (v 7), .ref (v 8), .int (nI 0), .ref (v 9), .int (nI 0), .int (nI 0), .ref (v 10), .int (nI 0)])), ((v 0), arr X 6 (fun _ => 0)), ((v 1), arr X 6 (fun _ => 0)), ((v 2), arr X 6 (fun _ => 0)), ((v 3), arr X 6 (fun _ => 0)), ((v 4), arr X 6 (fun _ => 0)), ((v 5), arr X 18 (fun _ => 0)), ((v 6), arr X 8 (fun _ => 0)), ((v 7), arr X 3200 (fun _ => 0)), ((v 8), arr X 400 (fun _ => 0)), ((v 9), arr X 12 (fun _ => 0)), ((v 10), arr X 12 (fun _ => 0))]
theorem wl_from (ws : va_W) (N : Nat) (hN : ws.length = N) (d : Nat × va_E) : wl N (fun k => (ws.getD k d).1) (fun k => (ws.getD k d).2) = ws := by
  apply List.ext_getElem?
  intro i
  by_cases hi : i < N
  · rw [wl_get hi]
    have h2 : i < ws.length := by omega
    simp [List.getD, h2]
  · have e1 : (wl N (fun k => (ws.getD k d).1) (fun k => (ws.getD k d).2))[i]? = none := by simp [wl]; omega
    rw [e1]
    simp
    omega
theorem get_from {ws : va_W} {k : Nat} (d : Nat × va_E) (h : k < ws.length) : ws[k]? = some (ws.getD k d) := by
  simp [List.getD, h]
def lawC : ClS := ((0, 1, 1, fun _ _ => 0, fun _ _ => 0), fun _ => 0, fun _ _ => 0, (0, fun _ => 0, 0, 0, fun _ => 0, 0))
theorem lawC_line : lineOk lawC.1 := ⟨by decide, by decide, by decide, fun j hj => absurd hj (Nat.not_lt_zero j)⟩
theorem lawC_rows : rowsOk lawC.2.1 lawC.2.2.1 := fun r _ => ⟨Nat.zero_le _, fun j hj => absurd hj (Nat.not_lt_zero j)⟩
theorem lawC_store : storeOk lawC.2.2.2 := ⟨by decide, fun j hj => absurd hj (Nat.not_lt_zero j), fun h => absurd h (Nat.lt_irrefl 0), by decide, fun j hj => absurd hj (Nat.not_lt_zero j), by decide, by decide⟩
set_option maxHeartbeats 4000000 in
set_option maxRecDepth 100000 in
theorem law_st {X : Cx} {q0 q6 : Nat} {u v : Nat → Nat} {H : Heap} {A : Nat → Prop} (hP : va_P X.1 vwCl (lawST X q0 q6 u v) H) (hD : va_D A (lawST X q0 q6 u v)) : ∃ (ad : Nat → Nat) (g : PF), ad 0 = q0 ∧ ad 36 = q6 ∧ inj 48 ad ∧ (∀ k, k < 48 → A (ad k)) ∧ WP X 48 ad g H ∧ rCls X ad lawC g ∧ rMod X ad lawC g := by
  have hlen : (lawST X q0 q6 u v).length = 48 := rfl
  refine ⟨fun k => ((lawST X q0 q6 u v).getD k (0, .inr (0, []))).1, fun k => ((lawST X q0 q6 u v).getD k (0, .inr (0, []))).2, rfl, rfl, ?_, ?_, ?_, ?_, ?_⟩
  · intro i j hi hj e
    exact hD.1 i j _ _ (get_from (0, .inr (0, [])) (by omega)) (get_from (0, .inr (0, [])) (by omega)) e
  · intro k hk
    exact hD.2 k _ (get_from (0, .inr (0, [])) (by omega))
  · show va_P X.1 vwCl (wl 48 _ _) H
    rw [wl_from (lawST X q0 q6 u v) 48 hlen]
    exact hP
  · refine ⟨⟨rfl, _, rfl, ?_⟩, ⟨fun _ _ => 0, fun _ _ => 0, 1, 1, _, rfl, rfl, ?_, rfl, ?_, fun j hj => absurd hj (Nat.not_lt_zero j), fun j hj => absurd hj (Nat.not_lt_zero j), lawC_line⟩, ?_, ⟨1, 0, 0, 0, fun _ => 0, fun _ => 0, rfl, rfl, rfl, fun j hj => absurd hj (Nat.not_lt_zero j), fun h => absurd h (Nat.lt_irrefl 0), fun j hj => absurd hj (by show ¬ j < 0 * 0; omega), by decide, lawC_store⟩⟩
    · intro j hj
      rcases (show j = 0 ∨ j = 1 ∨ j = 2 ∨ j = 3 ∨ j = 4 ∨ j = 5 ∨ j = 6 ∨ j = 7 by omega) with rfl | rfl | rfl | rfl | rfl | rfl | rfl | rfl <;> rfl
    · intro j hj
      rcases (show j = 0 ∨ j = 1 ∨ j = 2 ∨ j = 3 ∨ j = 4 ∨ j = 5 by omega) with rfl | rfl | rfl | rfl | rfl | rfl <;> rfl
    · intro j hj
      rcases (show j = 0 ∨ j = 1 ∨ j = 2 ∨ j = 3 ∨ j = 4 ∨ j = 5 by omega) with rfl | rfl | rfl | rfl | rfl | rfl <;> exact ⟨rfl, rfl⟩
    · intro r hr
      rcases (show r = 0 ∨ r = 1 ∨ r = 2 ∨ r = 3 ∨ r = 4 ∨ r = 5 ∨ r = 6 ∨ r = 7 by omega) with rfl | rfl | rfl | rfl | rfl | rfl | rfl | rfl <;> exact ⟨fun _ => 0, rfl, rfl, fun j hj => absurd hj (Nat.not_lt_zero j), Nat.zero_le _, fun j hj => absurd hj (Nat.not_lt_zero j)⟩
  · exact ⟨fun _ => 0, fun _ => 0, fun _ => 0, fun _ => 0, fun _ => 0, fun _ => 0, fun _ => 0, fun _ => 0, fun _ => 0, fun _ => 0, fun _ => 0, 0, rfl, rfl, rfl, rfl, rfl, rfl, rfl, rfl, rfl, rfl, rfl, rfl, ⟨fun j hj => absurd hj (Nat.not_lt_zero j), fun j hj => absurd hj (Nat.not_lt_zero j)⟩, ⟨fun _ _ => rfl, fun r _ j hj => absurd hj (Nat.not_lt_zero j)⟩, ⟨fun j hj => absurd hj (Nat.not_lt_zero j), fun h => absurd h (Nat.lt_irrefl 0), fun j hj => absurd hj (by show ¬ j < 0 * 0; omega)⟩, lawC_line, lawC_rows, lawC_store, by decide⟩
