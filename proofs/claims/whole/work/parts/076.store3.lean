set_option maxHeartbeats 4000000 in
set_option maxRecDepth 100000 in
theorem k_X4_makePlan (l : Launch) (X : Cx) (ad : Nat → Nat) (hi : inj 48 ad) (g : PF) (nb : Nat) (num : Nat → Nat) (lay per : Nat) (pln : Nat → Nat) (tr : Nat) (hR : rStore X ad (nb, num, lay, per, pln, tr) g) (p0 p1 p2 : Int32) : Ki l yX4_makePlan wsX4_makePlan zr8 X 48 ad g [.ref (ad 33), .int p0, .int p1, .int p2] (fun r g' => r = (sp_plan p0 p1 p2 (nb, num, lay, per, pln, tr)).1 ∧ rStore X ad (sp_plan p0 p1 p2 (nb, num, lay, per, pln, tr)).2 g' ∧ frS g g') := by
  refine Ki.of (cc := cX4_makePlan) (maxL := 4) hi (by decide) rfl (Nat.le_of_ble_eq_true rfl) ?_
  intro p e s m below meth c Q E RET ls hl
  obtain ⟨C0, FX, hH⟩ := E
  have hx := C0.1
  have hb := C0.2.1
  have kl22 := C0.2.2.2.2 (.constantLong RX4 22 (lN 10000)) (by decide +kernel)
  have kl34 := C0.2.2.2.2 (.constantLong RX4 34 (lN 6)) (by decide +kernel)
  have kiX4 : ∀ w ∈ u_ws RX4 TX4 9, w ∈ wsX4_makePlan := (by decide +kernel)
  have kf28 : Cond.fieldLink RX4 28 "YarnMill$Store" "size" "I" ∈ wsX4_makePlan := (by decide +kernel)
  have kf31 : Cond.fieldLink RX4 31 "YarnMill$Store" "laydowns" "I" ∈ wsX4_makePlan := (by decide +kernel)
  have kf36 : Cond.fieldLink RX4 36 "YarnMill$Store" "leastSum" "I" ∈ wsX4_makePlan := (by decide +kernel)
  have kf39 : Cond.fieldLink RX4 39 "YarnMill$Store" "mostSum" "I" ∈ wsX4_makePlan := (by decide +kernel)
  have kf42 : Cond.fieldLink RX4 42 "YarnMill$Store" "tried" "I" ∈ wsX4_makePlan := (by decide +kernel)
  have kf45 : Cond.fieldLink RX4 45 "YarnMill$Store" "spent" "Z" ∈ wsX4_makePlan := (by decide +kernel)
  have kf9 : Cond.fieldLink RX4 9 "YarnMill$Store" "each" "I" ∈ wsX4_makePlan := (by decide +kernel)
  have hl : lv_has ls 4 [(0, .ref (ad 33)), (1, .int p0), (2, .int p1), (3, .int p2)] := hl
  have fr : ∀ j, (j < 33 ∨ 35 < j) → g j = g j := fun j _ => rfl
  obtain ⟨ec, lsu, msu, spn, hn, ho, f33, f34, f35, hnn, hec, hoo, hec6, hok⟩ := hR
  have f33 : g 33 = .inr (4, [.int (nI nb), .int (nI lay), .int (nI tr), .int (nI ec), .int (nI lsu), .int (nI msu), .int (nI spn), .ref (ad 34), .ref (ad 35)]) := f33
  have hnn : ∀ j, j < nb → hn j = num j := hnn
  have hec : 0 < lay → ec = per := hec
  have hoo : ∀ j, j < lay * per → ho j = pln j := hoo
  obtain ⟨k1, k2, k3, k4, k5, k6, k7⟩ := id hok
  have k1 : nb ≤ 12 := k1
  have k2 : ∀ j, j < nb → num j ≤ 10000 := k2
  have k3 : 0 < lay → (1 ≤ per ∧ per ≤ 6) := k3
  have k4 : lay * per ≤ 12 := k4
  have k5 : ∀ j, j < lay * per → pln j ≤ 12 := k5
  have k6 : tr ≤ 100000 := k6
  have k7 : lay ≤ 12 := k7
  refine lv_iload_n hx hb dX4_makePlan_0 rfl (lv_at hl 1 rfl) ?_
  refine lv_i2l hx hb dX4_makePlan_1 rfl ?_
  refine lv_lconst (v := lN 1) hx hb dX4_makePlan_2 (by decide) ?_
  refine lv_ldc2 hx hb C0.2.2.2.1 kl34 dX4_makePlan_3 ?_
  refine rc_Ni (rest := []) C0 FX hH (k_X5_within_rng l X ad hi _ p0 1 6 (by omega) (by omega)) ⟨va_cnB 3 C0.2.2.2.2 gX4_makePlan_X5_within_n24 rfl rfl rfl (FX.1.2 (RX4, 24, yX5_within) (by decide +kernel)) (C0.2.2.2.2 (.initialized RX5) (by decide +kernel)) (by decide +kernel) ⟨Nat.le_of_ble_eq_true rfl, Nat.le_of_ble_eq_true rfl⟩, C0.2.2.2.2 (.static yX5_within) (by decide +kernel), trivial⟩ rfl rfl hl.1 (Nat.le_of_ble_eq_true rfl) dX4_makePlan_6 ⟨Nat.le_of_ble_eq_true rfl, Nat.le_of_ble_eq_true rfl⟩ (fun r6 g6c H locs h6 hH => ?_)
  obtain ⟨e6, rfl⟩ := h6
  rw [e6] at hH
  refine rb_eq hx hb 37 dX4_makePlan_9 (by decide) (fun c9 => ?_) (fun c9 => ?_)
  · refine lv_bipush (v := (-2)) hx hb dX4_makePlan_37 (by decide) ?_
    refine RET _ _ _ _ _ _ dX4_makePlan_39 rfl ?_ hH
    exact postS (by unfold sp_plan; rw [if_neg (fun z => by first | exact absurd z.1 (by assumption) | exact absurd z.2.1 (by assumption) | (have z3 := z.2.2; rw [tN_nI (by omega)] at z3; exact absurd z3 (by assumption)))]) ⟨ec, lsu, msu, spn, hn, ho, f33, f34, f35, hnn, hec, hoo, hec6, hok⟩ fr
  · obtain ⟨nv, rfl, nv1, nv2, nv3⟩ := rng_nI c9
    refine lv_iload_n hx hb dX4_makePlan_12 rfl (lv_at hl 2 rfl) ?_
    refine lv_i2l hx hb dX4_makePlan_13 rfl ?_
    refine lv_lconst (v := lN 0) hx hb dX4_makePlan_14 (by decide) ?_
    refine lv_ldc2 hx hb C0.2.2.2.1 kl22 dX4_makePlan_15 ?_
    refine rc_Ni (rest := []) C0 FX hH (k_X5_within_rng l X ad hi _ p1 0 10000 (by omega) (by omega)) ⟨va_cnB 3 C0.2.2.2.2 gX4_makePlan_X5_within_n24 rfl rfl rfl (FX.1.2 (RX4, 24, yX5_within) (by decide +kernel)) (C0.2.2.2.2 (.initialized RX5) (by decide +kernel)) (by decide +kernel) ⟨Nat.le_of_ble_eq_true rfl, Nat.le_of_ble_eq_true rfl⟩, C0.2.2.2.2 (.static yX5_within) (by decide +kernel), trivial⟩ rfl rfl hl.1 (Nat.le_of_ble_eq_true rfl) dX4_makePlan_18 ⟨Nat.le_of_ble_eq_true rfl, Nat.le_of_ble_eq_true rfl⟩ (fun r18 g18c H locs h18 hH => ?_)
    obtain ⟨e18, rfl⟩ := h18
    rw [e18] at hH
    refine rb_eq hx hb 37 dX4_makePlan_21 (by decide) (fun c21 => ?_) (fun c21 => ?_)
    · refine lv_bipush (v := (-2)) hx hb dX4_makePlan_37 (by decide) ?_
      refine RET _ _ _ _ _ _ dX4_makePlan_39 rfl ?_ hH
      exact postS (by unfold sp_plan; rw [if_neg (fun z => by first | exact absurd z.1 (by assumption) | exact absurd z.2.1 (by assumption) | (have z3 := z.2.2; rw [tN_nI (by omega)] at z3; exact absurd z3 (by assumption)))]) ⟨ec, lsu, msu, spn, hn, ho, f33, f34, f35, hnn, hec, hoo, hec6, hok⟩ fr
    · obtain ⟨lv, rfl, lv1, lv2, lv3⟩ := rng_nI c21
      refine lv_iload_n hx hb dX4_makePlan_24 rfl (lv_at hl 3 rfl) ?_
      refine lv_i2l hx hb dX4_makePlan_25 rfl ?_
      refine lv_iload_n hx hb dX4_makePlan_26 rfl (lv_at hl 2 rfl) ?_
      refine ni_i2l hx hb (by omega) dX4_makePlan_27 ?_
      refine lv_ldc2 hx hb C0.2.2.2.1 kl22 dX4_makePlan_28 ?_
      refine rc_Ni (rest := []) C0 FX hH (k_X5_within_rng l X ad hi _ p2 lv 10000 (by omega) (by omega)) ⟨va_cnB 3 C0.2.2.2.2 gX4_makePlan_X5_within_n24 rfl rfl rfl (FX.1.2 (RX4, 24, yX5_within) (by decide +kernel)) (C0.2.2.2.2 (.initialized RX5) (by decide +kernel)) (by decide +kernel) ⟨Nat.le_of_ble_eq_true rfl, Nat.le_of_ble_eq_true rfl⟩, C0.2.2.2.2 (.static yX5_within) (by decide +kernel), trivial⟩ rfl rfl hl.1 (Nat.le_of_ble_eq_true rfl) dX4_makePlan_31 ⟨Nat.le_of_ble_eq_true rfl, Nat.le_of_ble_eq_true rfl⟩ (fun r31 g31c H locs h31 hH => ?_)
      obtain ⟨e31, rfl⟩ := h31
      rw [e31] at hH
      refine rb_ne hx hb 40 dX4_makePlan_34 (by decide) (fun c34 => ?_) (fun c34 => ?_)
      · obtain ⟨hv, rfl, hv1, hv2, hv3⟩ := rng_nI c34
        refine lv_aload_n hx hb dX4_makePlan_40 rfl (lv_at hl 0 rfl) ?_
        refine lv_iconst (v := nI 0) hx hb dX4_makePlan_41 (by decide) ?_
        refine rp_put C0 FX hH 33 (by decide) (ci := 4) (k := 1) tyX4 tyX4_ok nmX4 f33 rfl kiX4 (by decide) kf31 rfl rfl rfl (Nat.le_of_ble_eq_true rfl) dX4_makePlan_42 (fun g1 H locs eq2 nq2 hH => ?_)
        have f33 : g1 33 = .inr (4, [.int (nI nb), .int (nI 0), .int (nI tr), .int (nI ec), .int (nI lsu), .int (nI msu), .int (nI spn), .ref (ad 34), .ref (ad 35)]) := eq2
        have f34 : g1 34 = arr X 12 hn := (nq2 _ (by omega)).trans f34
        have f35 : g1 35 = arr X 12 ho := (nq2 _ (by omega)).trans f35
        have fr : ∀ j, (j < 33 ∨ 35 < j) → g1 j = g j := fun j a0 => (nq2 j (by omega)).trans (fr j a0)
        refine lv_aload_n hx hb dX4_makePlan_45 rfl (lv_at hl 0 rfl) ?_
        refine rp_get C0 FX hH 33 (by decide) (ci := 4) (k := 0) f33 rfl kiX4 (by decide) kf28 rfl dX4_makePlan_46 ?_
        refine lv_iload_n hx hb dX4_makePlan_49 rfl (lv_at hl 1 rfl) ?_
        refine ni_irem hx hb (by omega) (by omega) (by omega) dX4_makePlan_50 ?_
        refine ni_eq0 hx hb 57 dX4_makePlan_51 (by decide) (by have := Nat.mod_lt nb (show 0 < nv by omega); omega) (fun c51 => ?_) (fun c51 => ?_)
        · have hdv9 : nb = nb / nv * nv := by have := Nat.div_add_mod nb nv; rw [c51, Nat.add_zero, Nat.mul_comm] at this; exact this.symm
          refine lv_aload_n hx hb dX4_makePlan_57 rfl (lv_at hl 0 rfl) ?_
          refine lv_iload_n hx hb dX4_makePlan_58 rfl (lv_at hl 1 rfl) ?_
          refine rp_put C0 FX hH 33 (by decide) (ci := 4) (k := 3) tyX4 tyX4_ok nmX4 f33 rfl kiX4 (by decide) kf9 rfl rfl rfl (Nat.le_of_ble_eq_true rfl) dX4_makePlan_59 (fun g3 H locs eq4 nq4 hH => ?_)
          have f33 : g3 33 = .inr (4, [.int (nI nb), .int (nI 0), .int (nI tr), .int (nI nv), .int (nI lsu), .int (nI msu), .int (nI spn), .ref (ad 34), .ref (ad 35)]) := eq4
          have f34 : g3 34 = arr X 12 hn := (nq4 _ (by omega)).trans f34
          have f35 : g3 35 = arr X 12 ho := (nq4 _ (by omega)).trans f35
          have fr : ∀ j, (j < 33 ∨ 35 < j) → g3 j = g j := fun j a0 => (nq4 j (by omega)).trans (fr j a0)
          refine lv_aload_n hx hb dX4_makePlan_62 rfl (lv_at hl 0 rfl) ?_
          refine lv_iload_n hx hb dX4_makePlan_63 rfl (lv_at hl 1 rfl) ?_
          refine lv_iload_n hx hb dX4_makePlan_64 rfl (lv_at hl 2 rfl) ?_
          refine ni_imul hx hb dX4_makePlan_65 ?_
          refine rp_put C0 FX hH 33 (by decide) (ci := 4) (k := 4) tyX4 tyX4_ok nmX4 f33 rfl kiX4 (by decide) kf36 rfl rfl rfl (Nat.le_of_ble_eq_true rfl) dX4_makePlan_66 (fun g5 H locs eq6 nq6 hH => ?_)
          have f33 : g5 33 = .inr (4, [.int (nI nb), .int (nI 0), .int (nI tr), .int (nI nv), .int (nI (nv * lv)), .int (nI msu), .int (nI spn), .ref (ad 34), .ref (ad 35)]) := eq6
          have f34 : g5 34 = arr X 12 hn := (nq6 _ (by omega)).trans f34
          have f35 : g5 35 = arr X 12 ho := (nq6 _ (by omega)).trans f35
          have fr : ∀ j, (j < 33 ∨ 35 < j) → g5 j = g j := fun j a0 => (nq6 j (by omega)).trans (fr j a0)
          refine lv_aload_n hx hb dX4_makePlan_69 rfl (lv_at hl 0 rfl) ?_
          refine lv_iload_n hx hb dX4_makePlan_70 rfl (lv_at hl 1 rfl) ?_
          refine lv_iload_n hx hb dX4_makePlan_71 rfl (lv_at hl 3 rfl) ?_
          refine ni_imul hx hb dX4_makePlan_72 ?_
          refine rp_put C0 FX hH 33 (by decide) (ci := 4) (k := 5) tyX4 tyX4_ok nmX4 f33 rfl kiX4 (by decide) kf39 rfl rfl rfl (Nat.le_of_ble_eq_true rfl) dX4_makePlan_73 (fun g7 H locs eq8 nq8 hH => ?_)
          have f33 : g7 33 = .inr (4, [.int (nI nb), .int (nI 0), .int (nI tr), .int (nI nv), .int (nI (nv * lv)), .int (nI (nv * hv)), .int (nI spn), .ref (ad 34), .ref (ad 35)]) := eq8
          have f34 : g7 34 = arr X 12 hn := (nq8 _ (by omega)).trans f34
          have f35 : g7 35 = arr X 12 ho := (nq8 _ (by omega)).trans f35
          have fr : ∀ j, (j < 33 ∨ 35 < j) → g7 j = g j := fun j a0 => (nq8 j (by omega)).trans (fr j a0)
          refine lv_aload_n hx hb dX4_makePlan_76 rfl (lv_at hl 0 rfl) ?_
          refine lv_iconst (v := nI 0) hx hb dX4_makePlan_77 (by decide) ?_
          refine rp_put C0 FX hH 33 (by decide) (ci := 4) (k := 2) tyX4 tyX4_ok nmX4 f33 rfl kiX4 (by decide) kf42 rfl rfl rfl (Nat.le_of_ble_eq_true rfl) dX4_makePlan_78 (fun g9 H locs eq10 nq10 hH => ?_)
          have f33 : g9 33 = .inr (4, [.int (nI nb), .int (nI 0), .int (nI 0), .int (nI nv), .int (nI (nv * lv)), .int (nI (nv * hv)), .int (nI spn), .ref (ad 34), .ref (ad 35)]) := eq10
          have f34 : g9 34 = arr X 12 hn := (nq10 _ (by omega)).trans f34
          have f35 : g9 35 = arr X 12 ho := (nq10 _ (by omega)).trans f35
          have fr : ∀ j, (j < 33 ∨ 35 < j) → g9 j = g j := fun j a0 => (nq10 j (by omega)).trans (fr j a0)
          refine lv_aload_n hx hb dX4_makePlan_81 rfl (lv_at hl 0 rfl) ?_
          refine lv_iconst (v := nI 0) hx hb dX4_makePlan_82 (by decide) ?_
          refine rp_put C0 FX hH 33 (by decide) (ci := 4) (k := 6) tyX4 tyX4_ok nmX4 f33 rfl kiX4 (by decide) kf45 rfl (by decide) rfl (Nat.le_of_ble_eq_true rfl) dX4_makePlan_83 (fun g11 H locs eq12 nq12 hH => ?_)
          have f33 : g11 33 = .inr (4, [.int (nI nb), .int (nI 0), .int (nI 0), .int (nI nv), .int (nI (nv * lv)), .int (nI (nv * hv)), .int (nI 0), .ref (ad 34), .ref (ad 35)]) := eq12
          have f34 : g11 34 = arr X 12 hn := (nq12 _ (by omega)).trans f34
          have f35 : g11 35 = arr X 12 ho := (nq12 _ (by omega)).trans f35
          have fr : ∀ j, (j < 33 ∨ 35 < j) → g11 j = g j := fun j a0 => (nq12 j (by omega)).trans (fr j a0)
          refine lv_aload_n hx hb dX4_makePlan_86 rfl (lv_at hl 0 rfl) ?_
          refine lv_iconst (v := nI 0) hx hb dX4_makePlan_87 (by decide) ?_
          refine lv_iconst (v := nI 0) hx hb dX4_makePlan_88 (by decide) ?_
          refine rc_Vi (rest := []) C0 FX hH 33 (by decide) f33 rfl ((k_sr l X ad hi nb nv num (nv * lv) (nv * hv) k1 nv1 nv2 k2 (by have := Nat.mul_le_mul nv2 lv2; omega) (by have := Nat.mul_le_mul nv2 hv2; omega) (2 * nb + 1)).1 _ 0 0 hn (fun _ => 0) ho 0 0 f33 f34 f35 hnn (fun j hj => absurd hj (Nat.not_lt_zero _)) (by omega) (fun j hj => absurd hj (Nat.not_lt_zero _)) (msk_0 _ _) (Nat.zero_le _) ⟨nb / nv, by rw [Nat.zero_add, Nat.mul_comm]; exact hdv9⟩ (by omega)) (cwV 2 C0.2.2.2.2 gX4_makePlan_X4_openLaydown rfl rfl rfl (by decide +kernel) ⟨by show 2 * nb + 1 + 20 + 1 ≤ 200; omega, by show 8 + (4 + 11) + (30 * (2 * nb + 1) + 300) ≤ 6000; omega⟩) rfl rfl hl.1 (Nat.le_of_ble_eq_true rfl) dX4_makePlan_89 ⟨Nat.le_of_ble_eq_true rfl, Nat.le_of_ble_eq_true rfl⟩ (fun r89 g89c H locs h89 hH => ?_)
          have h89 : srP X ad nb nv (nv * lv) (nv * hv) 0 0 (fun _ => 0) (srch nv lv hv nb num) g11 r89 g89c := h89
          have hK := srch_K nv lv hv nb num
          generalize hO : srch nv lv hv nb num = o at h89 hK
          obtain ⟨rfl, ⟨ho8, e33, e35, -, w2⟩, n89⟩ := h89
          have f33 : g89c 33 = .inr (4, [.int (nI nb), .int (nI 0), .int (nI (o.2.1)), .int (nI nv), .int (nI (nv * lv)), .int (nI (nv * hv)), .int (nI (if o.1 = 2 then 1 else 0)), .ref (ad 34), .ref (ad 35)]) := e33
          have f35 : g89c 35 = arr X 12 ho8 := e35
          have f34 : g89c 34 = arr X 12 hn := (n89 _ (by decide) (by decide)).trans f34
          have fr : ∀ j, (j < 33 ∨ 35 < j) → g89c j = g j := fun j a0 => (n89 j (by omega) (by omega)).trans (fr j a0)
          refine rb_ne hx hb 109 dX4_makePlan_92 (by decide) (fun c92 => ?_) (fun c92 => ?_)
          · refine lv_aload_n hx hb dX4_makePlan_109 rfl (lv_at hl 0 rfl) ?_
            refine lv_aload_n hx hb dX4_makePlan_110 rfl (lv_at hl 0 rfl) ?_
            refine rp_get C0 FX hH 33 (by decide) (ci := 4) (k := 0) f33 rfl kiX4 (by decide) kf28 rfl dX4_makePlan_111 ?_
            refine lv_iload_n hx hb dX4_makePlan_114 rfl (lv_at hl 1 rfl) ?_
            refine ni_idiv hx hb (by omega) (by omega) (by omega) dX4_makePlan_115 ?_
            refine rp_put C0 FX hH 33 (by decide) (ci := 4) (k := 1) tyX4 tyX4_ok nmX4 f33 rfl kiX4 (by decide) kf31 rfl rfl rfl (Nat.le_of_ble_eq_true rfl) dX4_makePlan_116 (fun g13 H locs eq14 nq14 hH => ?_)
            have f33 : g13 33 = .inr (4, [.int (nI nb), .int (nI (nb / nv)), .int (nI (o.2.1)), .int (nI nv), .int (nI (nv * lv)), .int (nI (nv * hv)), .int (nI (if o.1 = 2 then 1 else 0)), .ref (ad 34), .ref (ad 35)]) := eq14
            have f34 : g13 34 = arr X 12 hn := (nq14 _ (by omega)).trans f34
            have f35 : g13 35 = arr X 12 ho8 := (nq14 _ (by omega)).trans f35
            have fr : ∀ j, (j < 33 ∨ 35 < j) → g13 j = g j := fun j a0 => (nq14 j (by omega)).trans (fr j a0)
            refine lv_aload_n hx hb dX4_makePlan_119 rfl (lv_at hl 0 rfl) ?_
            refine rp_get C0 FX hH 33 (by decide) (ci := 4) (k := 1) f33 rfl kiX4 (by decide) kf31 rfl dX4_makePlan_120 ?_
            refine RET _ _ _ _ _ _ dX4_makePlan_123 rfl ?_ hH
            have hb2 : nb / nv ≤ nb := Nat.div_le_self nb nv
            refine postS (B' := (nb, num, nb / nv, nv, o.2.2, o.2.1)) (by unfold sp_plan; rw [if_pos (show rng (nI nv) 1 6 ∧ rng (nI lv) 0 10000 ∧ rng (nI hv) (tN (nI lv)) 10000 from ⟨(rng_iff (by omega)).mpr (by omega), (rng_iff (by omega)).mpr (by omega), by rw [tN_nI (by omega)]; exact (rng_iff (by omega)).mpr (by omega)⟩), tN_nI (by omega), tN_nI (by omega), tN_nI (by omega), if_pos (by show nb % nv = 0; exact c51)]; show (if (srch nv lv hv nb num).1 = 1 then _ else _) = _; rw [hO, if_pos c92]) ⟨nv, nv * lv, nv * hv, _, hn, ho8, f33, f34, f35, hnn, fun _ => rfl, fun j hj => w2 c92 j (by have hj : j < nb / nv * nv := hj; omega), ⟨nv1, nv2⟩, k1, k2, fun _ => ⟨nv1, nv2⟩, by show nb / nv * nv ≤ 12; omega, fun j hj => ?_, hK.2.1, by show nb / nv ≤ 12; omega⟩ fr
            have hj : j < nb / nv * nv := hj
            have := hK.2.2.2 (fun j hj => absurd hj (Nat.not_lt_zero _)) c92 j (by omega)
            show o.2.2 j ≤ 12
            omega
          · refine lv_aload_n hx hb dX4_makePlan_95 rfl (lv_at hl 0 rfl) ?_
            refine rp_get C0 FX hH 33 (by decide) (ci := 4) (k := 6) f33 rfl kiX4 (by decide) kf45 rfl dX4_makePlan_96 ?_
            refine ni_eq0 hx hb 107 dX4_makePlan_99 (by decide) (by split <;> omega) (fun c99 => ?_) (fun c99 => ?_)
            · refine lv_iconst (v := (-1)) hx hb dX4_makePlan_107 (by decide) ?_
              refine RET _ _ _ _ _ _ dX4_makePlan_108 rfl ?_ hH
              refine postS (B' := (nb, num, 0, nv, o.2.2, o.2.1)) (by unfold sp_plan; rw [if_pos (show rng (nI nv) 1 6 ∧ rng (nI lv) 0 10000 ∧ rng (nI hv) (tN (nI lv)) 10000 from ⟨(rng_iff (by omega)).mpr (by omega), (rng_iff (by omega)).mpr (by omega), by rw [tN_nI (by omega)]; exact (rng_iff (by omega)).mpr (by omega)⟩), tN_nI (by omega), tN_nI (by omega), tN_nI (by omega), if_pos (by show nb % nv = 0; exact c51)]; show (if (srch nv lv hv nb num).1 = 1 then _ else _) = _; rw [hO, if_neg c92, if_neg (fun z => by rw [if_pos z] at c99; omega)]) ⟨nv, nv * lv, nv * hv, _, hn, ho8, f33, f34, f35, hnn, fun h => absurd h (Nat.lt_irrefl 0), fun j h => absurd h (by rw [Nat.zero_mul]; exact Nat.not_lt_zero _), ⟨nv1, nv2⟩, ⟨k1, k2, fun h => absurd h (Nat.lt_irrefl 0), by show 0 * _ ≤ 12; omega, fun j h => absurd h (by rw [Nat.zero_mul]; exact Nat.not_lt_zero _), hK.2.1, Nat.zero_le _⟩⟩ fr
            · refine lv_bipush (v := (-5)) hx hb dX4_makePlan_102 (by decide) ?_
              refine lv_goto (tgt := 108) hx hb dX4_makePlan_104 (by decide) ?_
              refine RET _ _ _ _ _ _ dX4_makePlan_108 rfl ?_ hH
              refine postS (B' := (nb, num, 0, nv, o.2.2, o.2.1)) (by unfold sp_plan; rw [if_pos (show rng (nI nv) 1 6 ∧ rng (nI lv) 0 10000 ∧ rng (nI hv) (tN (nI lv)) 10000 from ⟨(rng_iff (by omega)).mpr (by omega), (rng_iff (by omega)).mpr (by omega), by rw [tN_nI (by omega)]; exact (rng_iff (by omega)).mpr (by omega)⟩), tN_nI (by omega), tN_nI (by omega), tN_nI (by omega), if_pos (by show nb % nv = 0; exact c51)]; show (if (srch nv lv hv nb num).1 = 1 then _ else _) = _; rw [hO, if_neg c92, if_pos (by rcases Nat.lt_or_ge o.1 2 with z | z; rw [if_neg (by omega)] at c99; omega; have := hK.1; omega)]) ⟨nv, nv * lv, nv * hv, _, hn, ho8, f33, f34, f35, hnn, fun h => absurd h (Nat.lt_irrefl 0), fun j h => absurd h (by rw [Nat.zero_mul]; exact Nat.not_lt_zero _), ⟨nv1, nv2⟩, ⟨k1, k2, fun h => absurd h (Nat.lt_irrefl 0), by show 0 * _ ≤ 12; omega, fun j h => absurd h (by rw [Nat.zero_mul]; exact Nat.not_lt_zero _), hK.2.1, Nat.zero_le _⟩⟩ fr
        · have c51 : ¬ nb % nv = 0 := by omega
          refine lv_bipush (v := (-3)) hx hb dX4_makePlan_54 (by decide) ?_
          refine RET _ _ _ _ _ _ dX4_makePlan_56 rfl ?_ hH
          exact postS (by unfold sp_plan; rw [if_pos (show rng (nI nv) 1 6 ∧ rng (nI lv) 0 10000 ∧ rng (nI hv) (tN (nI lv)) 10000 from ⟨(rng_iff (by omega)).mpr (by omega), (rng_iff (by omega)).mpr (by omega), by rw [tN_nI (by omega)]; exact (rng_iff (by omega)).mpr (by omega)⟩), tN_nI (by omega), tN_nI (by omega), tN_nI (by omega), if_neg (by show ¬ nb % nv = 0; exact c51)]) ⟨ec, lsu, msu, spn, hn, ho, f33, f34, f35, hnn, fun h => absurd h (Nat.lt_irrefl 0), fun j h => absurd h (by rw [Nat.zero_mul]; exact Nat.not_lt_zero _), hec6, ⟨k1, k2, fun h => absurd h (Nat.lt_irrefl 0), by show 0 * _ ≤ 12; omega, fun j h => absurd h (by rw [Nat.zero_mul]; exact Nat.not_lt_zero _), k6, Nat.zero_le _⟩⟩ fr
      · refine lv_bipush (v := (-2)) hx hb dX4_makePlan_37 (by decide) ?_
        refine RET _ _ _ _ _ _ dX4_makePlan_39 rfl ?_ hH
        exact postS (by unfold sp_plan; rw [if_neg (fun z => by first | exact absurd z.1 (by assumption) | exact absurd z.2.1 (by assumption) | (have z3 := z.2.2; rw [tN_nI (by omega)] at z3; exact absurd z3 (by assumption)))]) ⟨ec, lsu, msu, spn, hn, ho, f33, f34, f35, hnn, hec, hoo, hec6, hok⟩ fr
