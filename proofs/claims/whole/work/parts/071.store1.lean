set_option maxHeartbeats 4000000 in
set_option maxRecDepth 100000 in
theorem k_X4_addBale (l : Launch) (X : Cx) (ad : Nat → Nat) (hi : inj 48 ad) (g : PF) (nb : Nat) (num : Nat → Nat) (lay per : Nat) (pln : Nat → Nat) (tr : Nat) (hR : rStore X ad (nb, num, lay, per, pln, tr) g) (p0 : Int32) : Ki l yX4_addBale wsX4_addBale zr1 X 48 ad g [.ref (ad 33), .int p0] (fun r g' => r = (sp_bale p0 (nb, num, lay, per, pln, tr)).1 ∧ rStore X ad (sp_bale p0 (nb, num, lay, per, pln, tr)).2 g' ∧ frS g g') := by
  refine Ki.of (cc := cX4_addBale) (maxL := 2) hi (by decide) rfl (Nat.le_of_ble_eq_true rfl) ?_
  intro p e s m below meth c Q E RET ls hl
  obtain ⟨C0, FX, hH⟩ := E
  have hx := C0.1
  have hb := C0.2.1
  have kl22 := C0.2.2.2.2 (.constantLong RX4 22 (lN 10000)) (by decide +kernel)
  have kiX4 : ∀ w ∈ u_ws RX4 TX4 9, w ∈ wsX4_addBale := (by decide +kernel)
  have kf15 : Cond.fieldLink RX4 15 "YarnMill$Store" "numbers" "[I" ∈ wsX4_addBale := (by decide +kernel)
  have kf28 : Cond.fieldLink RX4 28 "YarnMill$Store" "size" "I" ∈ wsX4_addBale := (by decide +kernel)
  have kf31 : Cond.fieldLink RX4 31 "YarnMill$Store" "laydowns" "I" ∈ wsX4_addBale := (by decide +kernel)
  have hl : lv_has ls 2 [(0, .ref (ad 33)), (1, .int p0)] := hl
  have fr : ∀ j, (j < 33 ∨ 35 < j) → g j = g j := fun j _ => rfl
  obtain ⟨ec, lsu, msu, spn, hn, ho, f33, f34, f35, hnn, hec, hoo, hec6, hok⟩ := hR
  have f33 : g 33 = .inr (4, [.int (nI nb), .int (nI lay), .int (nI tr), .int (nI ec), .int (nI lsu), .int (nI msu), .int (nI spn), .ref (ad 34), .ref (ad 35)]) := f33
  have hnn : ∀ j, j < nb → hn j = num j := hnn
  have hec : 0 < lay → ec = per := hec
  have hoo : ∀ j, j < lay * per → ho j = pln j := hoo
  obtain ⟨k1, k2, k3, k4, k5, k6, k7⟩ := id hok
  have k1 : nb ≤ 12 := k1
  have k2 : ∀ j, j < nb → num j ≤ 10000 := k2
  have k3 : 0 < lay → (1 ≤ per ∧ per ≤ 6) := k3
  have k4 : lay * per ≤ 12 := k4
  have k5 : ∀ j, j < lay * per → pln j ≤ 12 := k5
  have k6 : tr ≤ 100000 := k6
  have k7 : lay ≤ 12 := k7
  refine lv_iload_n hx hb dX4_addBale_0 rfl (lv_at hl 1 rfl) ?_
  refine lv_i2l hx hb dX4_addBale_1 rfl ?_
  refine lv_lconst (v := lN 0) hx hb dX4_addBale_2 (by decide) ?_
  refine lv_ldc2 hx hb C0.2.2.2.1 kl22 dX4_addBale_3 ?_
  refine rc_Ni (rest := []) C0 FX hH (k_X5_within_rng l X ad hi _ p0 0 10000 (by omega) (by omega)) ⟨va_cnB 3 C0.2.2.2.2 gX4_addBale_X5_within_n24 rfl rfl rfl (FX.1.2 (RX4, 24, yX5_within) (by decide +kernel)) (C0.2.2.2.2 (.initialized RX5) (by decide +kernel)) (by decide +kernel) ⟨Nat.le_of_ble_eq_true rfl, Nat.le_of_ble_eq_true rfl⟩, C0.2.2.2.2 (.static yX5_within) (by decide +kernel), trivial⟩ rfl rfl hl.1 (Nat.le_of_ble_eq_true rfl) dX4_addBale_6 ⟨Nat.le_of_ble_eq_true rfl, Nat.le_of_ble_eq_true rfl⟩ (fun r6 g6c H locs h6 hH => ?_)
  obtain ⟨e6, rfl⟩ := h6
  rw [e6] at hH
  refine rb_ne hx hb 15 dX4_addBale_9 (by decide) (fun c9 => ?_) (fun c9 => ?_)
  · obtain ⟨v, rfl, v1, v2, v3⟩ := rng_nI c9
    refine lv_aload_n hx hb dX4_addBale_15 rfl (lv_at hl 0 rfl) ?_
    refine rp_get C0 FX hH 33 (by decide) (ci := 4) (k := 0) f33 rfl kiX4 (by decide) kf28 rfl dX4_addBale_16 ?_
    refine lv_bipush (v := nI 12) hx hb dX4_addBale_19 (by decide) ?_
    refine ni_clt hx hb 27 dX4_addBale_21 (by decide) (by omega) (by omega) (fun c21 => ?_) (fun c21 => ?_)
    · refine lv_aload_n hx hb dX4_addBale_27 rfl (lv_at hl 0 rfl) ?_
      refine lv_iconst (v := nI 0) hx hb dX4_addBale_28 (by decide) ?_
      refine rp_put C0 FX hH 33 (by decide) (ci := 4) (k := 1) tyX4 tyX4_ok nmX4 f33 rfl kiX4 (by decide) kf31 rfl rfl rfl (Nat.le_of_ble_eq_true rfl) dX4_addBale_29 (fun g1 H locs eq2 nq2 hH => ?_)
      have f33 : g1 33 = .inr (4, [.int (nI nb), .int (nI 0), .int (nI tr), .int (nI ec), .int (nI lsu), .int (nI msu), .int (nI spn), .ref (ad 34), .ref (ad 35)]) := eq2
      have f34 : g1 34 = arr X 12 hn := (nq2 _ (by omega)).trans f34
      have f35 : g1 35 = arr X 12 ho := (nq2 _ (by omega)).trans f35
      have fr : ∀ j, (j < 33 ∨ 35 < j) → g1 j = g j := fun j a0 => (nq2 j (by omega)).trans (fr j a0)
      refine lv_aload_n hx hb dX4_addBale_32 rfl (lv_at hl 0 rfl) ?_
      refine rp_get C0 FX hH 33 (by decide) (ci := 4) (k := 7) f33 rfl kiX4 (by decide) kf15 rfl dX4_addBale_33 ?_
      refine lv_aload_n hx hb dX4_addBale_36 rfl (lv_at hl 0 rfl) ?_
      refine rp_get C0 FX hH 33 (by decide) (ci := 4) (k := 0) f33 rfl kiX4 (by decide) kf28 rfl dX4_addBale_37 ?_
      refine lv_iload_n hx hb dX4_addBale_40 rfl (lv_at hl 1 rfl) ?_
      refine rp_iast C0 FX hH 34 (by decide) f34 nb v (by omega) (by decide) dX4_addBale_41 (fun g3 H locs eq4 nq4 hH => ?_)
      have f34 : g3 34 = arr X 12 (va_up hn nb v) := eq4
      have f33 : g3 33 = .inr (4, [.int (nI nb), .int (nI 0), .int (nI tr), .int (nI ec), .int (nI lsu), .int (nI msu), .int (nI spn), .ref (ad 34), .ref (ad 35)]) := (nq4 _ (by omega)).trans f33
      have f35 : g3 35 = arr X 12 ho := (nq4 _ (by omega)).trans f35
      have fr : ∀ j, (j < 33 ∨ 35 < j) → g3 j = g j := fun j a0 => (nq4 j (by omega)).trans (fr j a0)
      refine lv_aload_n hx hb dX4_addBale_42 rfl (lv_at hl 0 rfl) ?_
      refine lv_dup hx hb dX4_addBale_43 rfl ?_
      refine rp_get C0 FX hH 33 (by decide) (ci := 4) (k := 0) f33 rfl kiX4 (by decide) kf28 rfl dX4_addBale_44 ?_
      refine lv_iconst (v := nI 1) hx hb dX4_addBale_47 (by decide) ?_
      refine ni_iadd hx hb dX4_addBale_48 ?_
      refine rp_put C0 FX hH 33 (by decide) (ci := 4) (k := 0) tyX4 tyX4_ok nmX4 f33 rfl kiX4 (by decide) kf28 rfl rfl rfl (Nat.le_of_ble_eq_true rfl) dX4_addBale_49 (fun g5 H locs eq6 nq6 hH => ?_)
      have f33 : g5 33 = .inr (4, [.int (nI (nb + 1)), .int (nI 0), .int (nI tr), .int (nI ec), .int (nI lsu), .int (nI msu), .int (nI spn), .ref (ad 34), .ref (ad 35)]) := eq6
      have f34 : g5 34 = arr X 12 (va_up hn nb v) := (nq6 _ (by omega)).trans f34
      have f35 : g5 35 = arr X 12 ho := (nq6 _ (by omega)).trans f35
      have fr : ∀ j, (j < 33 ∨ 35 < j) → g5 j = g j := fun j a0 => (nq6 j (by omega)).trans (fr j a0)
      refine lv_aload_n hx hb dX4_addBale_52 rfl (lv_at hl 0 rfl) ?_
      refine rp_get C0 FX hH 33 (by decide) (ci := 4) (k := 0) f33 rfl kiX4 (by decide) kf28 rfl dX4_addBale_53 ?_
      refine lv_iconst (v := nI 1) hx hb dX4_addBale_56 (by decide) ?_
      refine ni_isub hx hb (by omega) dX4_addBale_57 ?_
      refine RET _ _ _ _ _ _ dX4_addBale_58 rfl ?_ hH
      rw [show nb + 1 - 1 = nb by omega]
      refine postS (by unfold sp_bale; rw [if_pos ((rng_iff (by omega)).mpr (by omega)), if_neg (by show ¬ 12 ≤ nb; omega), tN_nI (by omega)]) ⟨ec, lsu, msu, spn, va_up hn nb v, ho, f33, f34, f35, up_lt hnn, fun h => absurd h (Nat.lt_irrefl 0), fun j h => absurd h (by rw [Nat.zero_mul]; exact Nat.not_lt_zero _), hec6, ?_⟩ fr
      refine ⟨by show nb + 1 ≤ 12; omega, ?_, fun h => absurd h (Nat.lt_irrefl 0), by show 0 * per ≤ 12; omega, fun j h => absurd h (by rw [Nat.zero_mul]; exact Nat.not_lt_zero _), k6, Nat.zero_le _⟩
      intro j hj
      have hj : j < nb + 1 := hj
      show va_up num nb v j ≤ 10000
      by_cases q : j = nb
      · rw [q, va_up_self]; omega
      · rw [va_up_ne _ _ q]; exact k2 j (by omega)
    · refine lv_bipush (v := (-4)) hx hb dX4_addBale_24 (by decide) ?_
      refine RET _ _ _ _ _ _ dX4_addBale_26 rfl ?_ hH
      exact postS (by unfold sp_bale; rw [if_pos ((rng_iff (by omega)).mpr (by omega)), if_pos (by show 12 ≤ nb; omega)]) ⟨ec, lsu, msu, spn, hn, ho, f33, f34, f35, hnn, hec, hoo, hec6, hok⟩ fr
  · refine lv_bipush (v := (-2)) hx hb dX4_addBale_12 (by decide) ?_
    refine RET _ _ _ _ _ _ dX4_addBale_14 rfl ?_ hH
    exact postS (by unfold sp_bale; rw [if_neg c9]) ⟨ec, lsu, msu, spn, hn, ho, f33, f34, f35, hnn, hec, hoo, hec6, hok⟩ fr
set_option maxHeartbeats 4000000 in
set_option maxRecDepth 100000 in
theorem k_X4_removeAll (l : Launch) (X : Cx) (ad : Nat → Nat) (hi : inj 48 ad) (g : PF) (nb : Nat) (num : Nat → Nat) (lay per : Nat) (pln : Nat → Nat) (tr : Nat) (hR : rStore X ad (nb, num, lay, per, pln, tr) g)  : Ki l yX4_removeAll wsX4_removeAll zr0 X 48 ad g [.ref (ad 33)] (fun r g' => r = (sp_clearBales (nb, num, lay, per, pln, tr)).1 ∧ rStore X ad (sp_clearBales (nb, num, lay, per, pln, tr)).2 g' ∧ frS g g') := by
  refine Ki.of (cc := cX4_removeAll) (maxL := 2) hi (by decide) rfl (Nat.le_of_ble_eq_true rfl) ?_
  intro p e s m below meth c Q E RET ls hl
  obtain ⟨C0, FX, hH⟩ := E
  have hx := C0.1
  have hb := C0.2.1
  have kiX4 : ∀ w ∈ u_ws RX4 TX4 9, w ∈ wsX4_removeAll := (by decide +kernel)
  have kf28 : Cond.fieldLink RX4 28 "YarnMill$Store" "size" "I" ∈ wsX4_removeAll := (by decide +kernel)
  have kf31 : Cond.fieldLink RX4 31 "YarnMill$Store" "laydowns" "I" ∈ wsX4_removeAll := (by decide +kernel)
  have hl : lv_has ls 2 [(0, .ref (ad 33))] := hl
  have fr : ∀ j, (j < 33 ∨ 35 < j) → g j = g j := fun j _ => rfl
  obtain ⟨ec, lsu, msu, spn, hn, ho, f33, f34, f35, hnn, hec, hoo, hec6, hok⟩ := hR
  have f33 : g 33 = .inr (4, [.int (nI nb), .int (nI lay), .int (nI tr), .int (nI ec), .int (nI lsu), .int (nI msu), .int (nI spn), .ref (ad 34), .ref (ad 35)]) := f33
  have hnn : ∀ j, j < nb → hn j = num j := hnn
  have hec : 0 < lay → ec = per := hec
  have hoo : ∀ j, j < lay * per → ho j = pln j := hoo
  obtain ⟨k1, k2, k3, k4, k5, k6, k7⟩ := id hok
  have k1 : nb ≤ 12 := k1
  have k2 : ∀ j, j < nb → num j ≤ 10000 := k2
  have k3 : 0 < lay → (1 ≤ per ∧ per ≤ 6) := k3
  have k4 : lay * per ≤ 12 := k4
  have k5 : ∀ j, j < lay * per → pln j ≤ 12 := k5
  have k6 : tr ≤ 100000 := k6
  have k7 : lay ≤ 12 := k7
  refine lv_aload_n hx hb dX4_removeAll_0 rfl (lv_at hl 0 rfl) ?_
  refine rp_get C0 FX hH 33 (by decide) (ci := 4) (k := 0) f33 rfl kiX4 (by decide) kf28 rfl dX4_removeAll_1 ?_
  refine lv_istore_n (lv' := [(1, .int (nI nb)), (0, .ref (ad 33))]) hx hb dX4_removeAll_4 rfl hl (by decide) rfl (fun ls hl => ?_)
  refine lv_aload_n hx hb dX4_removeAll_5 rfl (lv_at hl 1 rfl) ?_
  refine lv_iconst (v := nI 0) hx hb dX4_removeAll_6 (by decide) ?_
  refine rp_put C0 FX hH 33 (by decide) (ci := 4) (k := 0) tyX4 tyX4_ok nmX4 f33 rfl kiX4 (by decide) kf28 rfl rfl rfl (Nat.le_of_ble_eq_true rfl) dX4_removeAll_7 (fun g1 H locs eq2 nq2 hH => ?_)
  have f33 : g1 33 = .inr (4, [.int (nI 0), .int (nI lay), .int (nI tr), .int (nI ec), .int (nI lsu), .int (nI msu), .int (nI spn), .ref (ad 34), .ref (ad 35)]) := eq2
  have f34 : g1 34 = arr X 12 hn := (nq2 _ (by omega)).trans f34
  have f35 : g1 35 = arr X 12 ho := (nq2 _ (by omega)).trans f35
  have fr : ∀ j, (j < 33 ∨ 35 < j) → g1 j = g j := fun j a0 => (nq2 j (by omega)).trans (fr j a0)
  refine lv_aload_n hx hb dX4_removeAll_10 rfl (lv_at hl 1 rfl) ?_
  refine lv_iconst (v := nI 0) hx hb dX4_removeAll_11 (by decide) ?_
  refine rp_put C0 FX hH 33 (by decide) (ci := 4) (k := 1) tyX4 tyX4_ok nmX4 f33 rfl kiX4 (by decide) kf31 rfl rfl rfl (Nat.le_of_ble_eq_true rfl) dX4_removeAll_12 (fun g3 H locs eq4 nq4 hH => ?_)
  have f33 : g3 33 = .inr (4, [.int (nI 0), .int (nI 0), .int (nI tr), .int (nI ec), .int (nI lsu), .int (nI msu), .int (nI spn), .ref (ad 34), .ref (ad 35)]) := eq4
  have f34 : g3 34 = arr X 12 hn := (nq4 _ (by omega)).trans f34
  have f35 : g3 35 = arr X 12 ho := (nq4 _ (by omega)).trans f35
  have fr : ∀ j, (j < 33 ∨ 35 < j) → g3 j = g j := fun j a0 => (nq4 j (by omega)).trans (fr j a0)
  refine lv_iload_n hx hb dX4_removeAll_15 rfl (lv_at hl 0 rfl) ?_
  refine RET _ _ _ _ _ _ dX4_removeAll_16 rfl ?_ hH
  exact postS rfl ⟨ec, lsu, msu, spn, hn, ho, f33, f34, f35, fun j h => absurd h (Nat.not_lt_zero _), fun h => absurd h (Nat.lt_irrefl 0), fun j h => absurd h (by rw [Nat.zero_mul]; exact Nat.not_lt_zero _), hec6, Nat.zero_le _, fun j h => absurd h (Nat.not_lt_zero _), fun h => absurd h (Nat.lt_irrefl 0), by show 0 * per ≤ 12; omega, fun j h => absurd h (by rw [Nat.zero_mul]; exact Nat.not_lt_zero _), k6, Nat.zero_le _⟩ fr
set_option maxHeartbeats 4000000 in
set_option maxRecDepth 100000 in
theorem k_X4_planned (l : Launch) (X : Cx) (ad : Nat → Nat) (hi : inj 48 ad) (g : PF) (nb : Nat) (num : Nat → Nat) (lay per : Nat) (pln : Nat → Nat) (tr : Nat) (hR : rStore X ad (nb, num, lay, per, pln, tr) g) (p0 p1 : Int32) : Ki l yX4_planned wsX4_planned zr1 X 48 ad g [.ref (ad 33), .int p0, .int p1] (fun r g' => g' = g ∧ r = sp_planAt p0 p1 (nb, num, lay, per, pln, tr)) := by
  refine Ki.of (cc := cX4_planned) (maxL := 3) hi (by decide) rfl (Nat.le_of_ble_eq_true rfl) ?_
  intro p e s m below meth c Q E RET ls hl
  obtain ⟨C0, FX, hH⟩ := E
  have hx := C0.1
  have hb := C0.2.1
  have kiX4 : ∀ w ∈ u_ws RX4 TX4 9, w ∈ wsX4_planned := (by decide +kernel)
  have kf19 : Cond.fieldLink RX4 19 "YarnMill$Store" "order" "[I" ∈ wsX4_planned := (by decide +kernel)
  have kf31 : Cond.fieldLink RX4 31 "YarnMill$Store" "laydowns" "I" ∈ wsX4_planned := (by decide +kernel)
  have kf9 : Cond.fieldLink RX4 9 "YarnMill$Store" "each" "I" ∈ wsX4_planned := (by decide +kernel)
  have hl : lv_has ls 3 [(0, .ref (ad 33)), (1, .int p0), (2, .int p1)] := hl
  obtain ⟨ec, lsu, msu, spn, hn, ho, f33, f34, f35, hnn, hec, hoo, hec6, hok⟩ := hR
  have f33 : g 33 = .inr (4, [.int (nI nb), .int (nI lay), .int (nI tr), .int (nI ec), .int (nI lsu), .int (nI msu), .int (nI spn), .ref (ad 34), .ref (ad 35)]) := f33
  have hnn : ∀ j, j < nb → hn j = num j := hnn
  have hec : 0 < lay → ec = per := hec
  have hoo : ∀ j, j < lay * per → ho j = pln j := hoo
  obtain ⟨k1, k2, k3, k4, k5, k6, k7⟩ := id hok
  have k1 : nb ≤ 12 := k1
  have k2 : ∀ j, j < nb → num j ≤ 10000 := k2
  have k3 : 0 < lay → (1 ≤ per ∧ per ≤ 6) := k3
  have k4 : lay * per ≤ 12 := k4
  have k5 : ∀ j, j < lay * per → pln j ≤ 12 := k5
  have k6 : tr ≤ 100000 := k6
  have k7 : lay ≤ 12 := k7
  refine lv_iload_n hx hb dX4_planned_0 rfl (lv_at hl 1 rfl) ?_
  refine lv_i2l hx hb dX4_planned_1 rfl ?_
  refine lv_lconst (v := lN 0) hx hb dX4_planned_2 (by decide) ?_
  refine lv_aload_n hx hb dX4_planned_3 rfl (lv_at hl 0 rfl) ?_
  refine rp_get C0 FX hH 33 (by decide) (ci := 4) (k := 1) f33 rfl kiX4 (by decide) kf31 rfl dX4_planned_4 ?_
  refine lv_iconst (v := nI 1) hx hb dX4_planned_7 (by decide) ?_
  refine lv_isub hx hb dX4_planned_8 ?_
  refine lv_i2l hx hb dX4_planned_9 rfl ?_
  refine rc_Ni (rest := []) C0 FX hH (k_X5_within_rngS l X ad hi _ p0 lay (by omega)) ⟨va_cnB 3 C0.2.2.2.2 gX4_planned_X5_within_n24 rfl rfl rfl (FX.1.2 (RX4, 24, yX5_within) (by decide +kernel)) (C0.2.2.2.2 (.initialized RX5) (by decide +kernel)) (by decide +kernel) ⟨Nat.le_of_ble_eq_true rfl, Nat.le_of_ble_eq_true rfl⟩, C0.2.2.2.2 (.static yX5_within) (by decide +kernel), trivial⟩ rfl rfl hl.1 (Nat.le_of_ble_eq_true rfl) dX4_planned_10 ⟨Nat.le_of_ble_eq_true rfl, Nat.le_of_ble_eq_true rfl⟩ (fun r10 g10c H locs h10 hH => ?_)
  obtain ⟨e10, rfl⟩ := h10
  rw [e10] at hH
  refine rb_eq hx hb 48 dX4_planned_13 (by decide) (fun c13 => ?_) (fun c13 => ?_)
  · refine lv_iconst (v := (-1)) hx hb dX4_planned_48 (by decide) ?_
    refine RET _ _ _ _ _ _ dX4_planned_49 rfl ?_ hH
    refine ⟨rfl, ?_⟩
    unfold sp_planAt
    rw [if_neg (fun z => absurd z.1 c13)]
  · obtain ⟨kv, rfl, kv1, kv3⟩ := rngS_nI c13
    have hec9 := hec (by omega)
    have hk39 := k3 (by omega)
    refine lv_iload_n hx hb dX4_planned_16 rfl (lv_at hl 2 rfl) ?_
    refine lv_i2l hx hb dX4_planned_17 rfl ?_
    refine lv_lconst (v := lN 0) hx hb dX4_planned_18 (by decide) ?_
    refine lv_aload_n hx hb dX4_planned_19 rfl (lv_at hl 0 rfl) ?_
    refine rp_get C0 FX hH 33 (by decide) (ci := 4) (k := 3) f33 rfl kiX4 (by decide) kf9 rfl dX4_planned_20 ?_
    refine lv_iconst (v := nI 1) hx hb dX4_planned_23 (by decide) ?_
    refine lv_isub hx hb dX4_planned_24 ?_
    refine lv_i2l hx hb dX4_planned_25 rfl ?_
    refine rc_Ni (rest := []) C0 FX hH (k_X5_within_rngS l X ad hi _ p1 ec (by omega)) ⟨va_cnB 3 C0.2.2.2.2 gX4_planned_X5_within_n24 rfl rfl rfl (FX.1.2 (RX4, 24, yX5_within) (by decide +kernel)) (C0.2.2.2.2 (.initialized RX5) (by decide +kernel)) (by decide +kernel) ⟨Nat.le_of_ble_eq_true rfl, Nat.le_of_ble_eq_true rfl⟩, C0.2.2.2.2 (.static yX5_within) (by decide +kernel), trivial⟩ rfl rfl hl.1 (Nat.le_of_ble_eq_true rfl) dX4_planned_26 ⟨Nat.le_of_ble_eq_true rfl, Nat.le_of_ble_eq_true rfl⟩ (fun r26 g26c H locs h26 hH => ?_)
    obtain ⟨e26, rfl⟩ := h26
    rw [e26] at hH
    refine rb_eq hx hb 48 dX4_planned_29 (by decide) (fun c29 => ?_) (fun c29 => ?_)
    · refine lv_iconst (v := (-1)) hx hb dX4_planned_48 (by decide) ?_
      refine RET _ _ _ _ _ _ dX4_planned_49 rfl ?_ hH
      refine ⟨rfl, ?_⟩
      unfold sp_planAt
      rw [if_neg (fun z => c29 (by rw [hec9]; exact z.2))]
    · obtain ⟨iv, rfl, iv1, iv3⟩ := rngS_nI c29
      have hml := Nat.mul_le_mul_right per (show kv + 1 ≤ lay by omega)
      rw [Nat.succ_mul] at hml
      subst hec9
      refine lv_aload_n hx hb dX4_planned_32 rfl (lv_at hl 0 rfl) ?_
      refine rp_get C0 FX hH 33 (by decide) (ci := 4) (k := 8) f33 rfl kiX4 (by decide) kf19 rfl dX4_planned_33 ?_
      refine lv_iload_n hx hb dX4_planned_36 rfl (lv_at hl 1 rfl) ?_
      refine lv_aload_n hx hb dX4_planned_37 rfl (lv_at hl 0 rfl) ?_
      refine rp_get C0 FX hH 33 (by decide) (ci := 4) (k := 3) f33 rfl kiX4 (by decide) kf9 rfl dX4_planned_38 ?_
      refine ni_imul hx hb dX4_planned_41 ?_
      refine lv_iload_n hx hb dX4_planned_42 rfl (lv_at hl 2 rfl) ?_
      refine ni_iadd hx hb dX4_planned_43 ?_
      refine rp_iald C0 FX hH 35 (by decide) (v := pln ((kv * ec) + iv)) f35 ((kv * ec) + iv) (by omega) (by decide) (hoo _ (by omega)) dX4_planned_44 ?_
      refine lv_goto (tgt := 49) hx hb dX4_planned_45 (by decide) ?_
      refine RET _ _ _ _ _ _ dX4_planned_49 rfl ?_ hH
      refine ⟨rfl, ?_⟩
      unfold sp_planAt
      rw [if_pos (show rngS (nI kv) lay ∧ rngS (nI iv) ec from ⟨(rngS_iff (by omega)).mpr kv1, (rngS_iff (by omega)).mpr iv1⟩), tN_nI (by omega), tN_nI (by omega)]
set_option maxHeartbeats 4000000 in
set_option maxRecDepth 100000 in
theorem k_X4_mixInto (l : Launch) (X : Cx) (ad : Nat → Nat) (hi : inj 48 ad) (g : PF) (nb : Nat) (num : Nat → Nat) (lay per : Nat) (pln : Nat → Nat) (tr : Nat) (hR : rStore X ad (nb, num, lay, per, pln, tr) g) (h0 : Int64) : Kl l yX4_mixInto wsX4_mixInto zr0 X 48 ad g [.ref (ad 33), .long h0] (fun r g' => g' = g ∧ r = mx h0 pln (lay * per)) := by
  refine Kl.of (cc := cX4_mixInto) (maxL := 6) hi (by decide) rfl (Nat.le_of_ble_eq_true rfl) ?_
  intro p e s m below meth c Q E RET ls hl
  obtain ⟨C0, FX, hH⟩ := E
  have hx := C0.1
  have hb := C0.2.1
  have kl53 := C0.2.2.2.2 (.constantLong RX4 53 (lN 31)) (by decide +kernel)
  have kiX4 : ∀ w ∈ u_ws RX4 TX4 9, w ∈ wsX4_mixInto := (by decide +kernel)
  have kf19 : Cond.fieldLink RX4 19 "YarnMill$Store" "order" "[I" ∈ wsX4_mixInto := (by decide +kernel)
  have kf31 : Cond.fieldLink RX4 31 "YarnMill$Store" "laydowns" "I" ∈ wsX4_mixInto := (by decide +kernel)
  have kf9 : Cond.fieldLink RX4 9 "YarnMill$Store" "each" "I" ∈ wsX4_mixInto := (by decide +kernel)
  have hl : lv_has ls 6 [(0, .ref (ad 33)), (1, .long h0)] := hl
  obtain ⟨ec, lsu, msu, spn, hn, ho, f33, f34, f35, hnn, hec, hoo, hec6, hok⟩ := hR
  have f33 : g 33 = .inr (4, [.int (nI nb), .int (nI lay), .int (nI tr), .int (nI ec), .int (nI lsu), .int (nI msu), .int (nI spn), .ref (ad 34), .ref (ad 35)]) := f33
  have hnn : ∀ j, j < nb → hn j = num j := hnn
  have hec : 0 < lay → ec = per := hec
  have hoo : ∀ j, j < lay * per → ho j = pln j := hoo
  obtain ⟨k1, k2, k3, k4, k5, k6, k7⟩ := id hok
  have k1 : nb ≤ 12 := k1
  have k2 : ∀ j, j < nb → num j ≤ 10000 := k2
  have k3 : 0 < lay → (1 ≤ per ∧ per ≤ 6) := k3
  have k4 : lay * per ≤ 12 := k4
  have k5 : ∀ j, j < lay * per → pln j ≤ 12 := k5
  have k6 : tr ≤ 100000 := k6
  have k7 : lay ≤ 12 := k7
  have hle : lay * ec = lay * per := by
    rcases Nat.eq_zero_or_pos lay with q | q
    · rw [q, Nat.zero_mul, Nat.zero_mul]
    · rw [hec q]
  refine lv_lload_n hx hb dX4_mixInto_0 rfl (lv_at hl 1 rfl) ?_
  refine lv_lstore_n (lv' := [(3, .long h0), (0, .ref (ad 33)), (1, .long h0)]) hx hb dX4_mixInto_1 rfl hl (by decide) rfl (fun ls hl => ?_)
  refine lv_iconst (v := nI 0) hx hb dX4_mixInto_2 (by decide) ?_
  refine lv_istore (lv' := [(5, .int (nI 0)), (3, .long h0), (0, .ref (ad 33)), (1, .long h0)]) hx hb dX4_mixInto_3 hl (by decide) rfl (fun ls hl => ?_)
  have L5 : ∀ (fu : Nat) (hh : Int64) (i : Nat) (ls : Array Slot), (i ≤ lay * per) → (hh = mx h0 pln i) → lay * per - i < fu → lv_has ls 6 [(5, .int (nI i)), (3, .long hh), (0, .ref (ad 33)), (1, .long h0)] → W p l e zr0 s m ([.ref (ad 33), .long h0] : List Value).toArray below meth c s.heap [] 0 0 Q (F0 m 5 ls []) := by
    intro fu
    induction fu with
    | zero =>
      intro hh i  ls i2 i3 hm
      exact absurd hm (Nat.not_lt_zero _)
    | succ fu ih =>
      have ih5 := ih; clear ih
      intro hh i  ls i2 i3 hm5  hl
      have hq := k5 i
      refine lv_iload hx hb dX4_mixInto_5 (lv_at hl 0 rfl) ?_
      refine lv_aload_n hx hb dX4_mixInto_7 rfl (lv_at hl 2 rfl) ?_
      refine rp_get C0 FX hH 33 (by decide) (ci := 4) (k := 1) f33 rfl kiX4 (by decide) kf31 rfl dX4_mixInto_8 ?_
      refine lv_aload_n hx hb dX4_mixInto_11 rfl (lv_at hl 2 rfl) ?_
      refine rp_get C0 FX hH 33 (by decide) (ci := 4) (k := 3) f33 rfl kiX4 (by decide) kf9 rfl dX4_mixInto_12 ?_
      refine ni_imul hx hb dX4_mixInto_15 ?_
      refine ni_cge hx hb 40 dX4_mixInto_16 (by decide) (by omega) (by omega) (fun c16 => ?_) (fun c16 => ?_)
      · refine lv_lload_n hx hb dX4_mixInto_40 rfl (lv_at hl 1 rfl) ?_
        refine RET _ _ _ _ _ _ dX4_mixInto_41 ?_ hH
        exact ⟨rfl, by rw [i3, show i = lay * per by omega]⟩
      · refine lv_ldc2 hx hb C0.2.2.2.1 kl53 dX4_mixInto_19 ?_
        refine lv_lload_n hx hb dX4_mixInto_22 rfl (lv_at hl 1 rfl) ?_
        refine lv_lmul hx hb dX4_mixInto_23 ?_
        refine lv_aload_n hx hb dX4_mixInto_24 rfl (lv_at hl 2 rfl) ?_
        refine rp_get C0 FX hH 33 (by decide) (ci := 4) (k := 8) f33 rfl kiX4 (by decide) kf19 rfl dX4_mixInto_25 ?_
        refine lv_iload hx hb dX4_mixInto_28 (lv_at hl 0 rfl) ?_
        refine rp_iald C0 FX hH 35 (by decide) (v := pln i) f35 i (by omega) (by decide) (hoo _ (by omega)) dX4_mixInto_30 ?_
        refine ni_i2l hx hb (by have := hq (by omega); omega) dX4_mixInto_31 ?_
        refine lv_ladd hx hb dX4_mixInto_32 ?_
        refine lv_lstore_n (lv' := [(3, .long (((lN 31) * hh) + (lN (pln i)))), (5, .int (nI i)), (0, .ref (ad 33)), (1, .long h0)]) hx hb dX4_mixInto_33 rfl hl (by decide) rfl (fun ls hl => ?_)
        refine lv_iinc (v := nI (i + 1)) (lv' := [(5, .int (nI (i + 1))), (3, .long (((lN 31) * hh) + (lN (pln i)))), (0, .ref (ad 33)), (1, .long h0)]) hx hb dX4_mixInto_34 hl (k := 1) rfl (ni_inc1 _) (by decide) rfl (fun ls hl => ?_)
        refine lv_goto (tgt := 5) hx hb dX4_mixInto_37 (by decide) ?_
        exact ih5 (((lN 31) * hh) + (lN (pln i))) (i + 1) ls (by omega) (by rw [i3]; rfl) (by omega) (lv_sub hl [0, 1, 2, 3] rfl)
  exact L5 ((lay * per - 0) + 1) h0 0 ls (Nat.zero_le _) (by rfl) (Nat.lt_succ_self _) (lv_sub hl [0, 1, 2, 3] rfl)
set_option maxHeartbeats 4000000 in
set_option maxRecDepth 100000 in
theorem k_X4_countTry (l : Launch) (X : Cx) (ad : Nat → Nat) (hi : inj 48 ad) (g : PF) (nb lay tr ec lsu msu spn : Nat) (htr : tr ≤ 100000) (f33 : g 33 = .inr (4, [.int (nI nb), .int (nI lay), .int (nI tr), .int (nI ec), .int (nI lsu), .int (nI msu), .int (nI spn), .ref (ad 34), .ref (ad 35)])) : Ki l yX4_countTry wsX4_countTry zr0 X 48 ad g [.ref (ad 33)] (fun r g' => g' 33 = .inr (4, [.int (nI nb), .int (nI lay), .int (nI (if tr < 100000 then tr + 1 else tr)), .int (nI ec), .int (nI lsu), .int (nI msu), .int (nI (if tr < 100000 then spn else 1)), .ref (ad 34), .ref (ad 35)]) ∧ r = bI (tr < 100000) ∧ fr1 33 g g') := by
  refine Ki.of (cc := cX4_countTry) (maxL := 1) hi (by decide) rfl (Nat.le_of_ble_eq_true rfl) ?_
  intro p e s m below meth c Q E RET ls hl
  obtain ⟨C0, FX, hH⟩ := E
  have hx := C0.1
  have hb := C0.2.1
  have kiX4 : ∀ w ∈ u_ws RX4 TX4 9, w ∈ wsX4_countTry := (by decide +kernel)
  have kf42 : Cond.fieldLink RX4 42 "YarnMill$Store" "tried" "I" ∈ wsX4_countTry := (by decide +kernel)
  have kf45 : Cond.fieldLink RX4 45 "YarnMill$Store" "spent" "Z" ∈ wsX4_countTry := (by decide +kernel)
  have kc63 := C0.2.2.2.2 (.constant RX4 63 (nI 100000)) (by decide +kernel)
  have hl : lv_has ls 1 [(0, .ref (ad 33))] := hl
  have fr : ∀ j, j ≠ 33 → g j = g j := fun j _ => rfl
  refine lv_aload_n hx hb dX4_countTry_0 rfl (lv_at hl 0 rfl) ?_
  refine rp_get C0 FX hH 33 (by decide) (ci := 4) (k := 2) f33 rfl kiX4 (by decide) kf42 rfl dX4_countTry_1 ?_
  refine lv_ldc hx hb C0.2.2.2.1 kc63 dX4_countTry_4 ?_
  refine ni_clt hx hb 16 dX4_countTry_6 (by decide) (by omega) (by omega) (fun c6 => ?_) (fun c6 => ?_)
  · refine lv_aload_n hx hb dX4_countTry_16 rfl (lv_at hl 0 rfl) ?_
    refine lv_dup hx hb dX4_countTry_17 rfl ?_
    refine rp_get C0 FX hH 33 (by decide) (ci := 4) (k := 2) f33 rfl kiX4 (by decide) kf42 rfl dX4_countTry_18 ?_
    refine lv_iconst (v := nI 1) hx hb dX4_countTry_21 (by decide) ?_
    refine ni_iadd hx hb dX4_countTry_22 ?_
    refine rp_put C0 FX hH 33 (by decide) (ci := 4) (k := 2) tyX4 tyX4_ok nmX4 f33 rfl kiX4 (by decide) kf42 rfl rfl rfl (Nat.le_of_ble_eq_true rfl) dX4_countTry_23 (fun g1 H locs eq2 nq2 hH => ?_)
    have f33 : g1 33 = .inr (4, [.int (nI nb), .int (nI lay), .int (nI (tr + 1)), .int (nI ec), .int (nI lsu), .int (nI msu), .int (nI spn), .ref (ad 34), .ref (ad 35)]) := eq2
    have fr : ∀ j, j ≠ 33 → g1 j = g j := fun j a0 => (nq2 j (by omega)).trans (fr j a0)
    refine lv_iconst (v := nI 1) hx hb dX4_countTry_26 (by decide) ?_
    refine RET _ _ _ _ _ _ dX4_countTry_27 (by decide) ?_ hH
    exact ⟨by rw [if_pos c6, if_pos c6]; exact f33, (bI_t c6).symm, fr⟩
  · refine lv_aload_n hx hb dX4_countTry_9 rfl (lv_at hl 0 rfl) ?_
    refine lv_iconst (v := nI 1) hx hb dX4_countTry_10 (by decide) ?_
    refine rp_put C0 FX hH 33 (by decide) (ci := 4) (k := 6) tyX4 tyX4_ok nmX4 f33 rfl kiX4 (by decide) kf45 rfl (by decide) rfl (Nat.le_of_ble_eq_true rfl) dX4_countTry_11 (fun g3 H locs eq4 nq4 hH => ?_)
    have f33 : g3 33 = .inr (4, [.int (nI nb), .int (nI lay), .int (nI tr), .int (nI ec), .int (nI lsu), .int (nI msu), .int (nI 1), .ref (ad 34), .ref (ad 35)]) := eq4
    have fr : ∀ j, j ≠ 33 → g3 j = g j := fun j a0 => (nq4 j (by omega)).trans (fr j a0)
    refine lv_iconst (v := nI 0) hx hb dX4_countTry_14 (by decide) ?_
    refine RET _ _ _ _ _ _ dX4_countTry_15 (by decide) ?_ hH
    exact ⟨by rw [if_neg (by omega), if_neg (by omega)]; exact f33, (bI_f (by omega)).symm, fr⟩
