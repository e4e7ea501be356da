set_option maxHeartbeats 4000000 in
set_option maxRecDepth 100000 in
theorem k_X1_setFirst (l : Launch) (X : Cx) (ad : Nat → Nat) (hi : inj 48 ad) (g : PF) (nm fa fb : Nat) (mc rd : Nat → Nat → Nat) (hR : rLine X ad (nm, fa, fb, mc, rd) g) (p0 p1 : Int32) : Ki l yX1_setFirst wsX1_setFirst zr1 X 48 ad g [.ref (ad 1), .int p0, .int p1] (fun r g' => r = (sp_count p0 p1 (nm, fa, fb, mc, rd)).1 ∧ rLine X ad (sp_count p0 p1 (nm, fa, fb, mc, rd)).2 g' ∧ frL g g') := by
  refine Ki.of (cc := cX1_setFirst) (maxL := 3) hi (by decide) rfl (Nat.le_of_ble_eq_true rfl) ?_
  intro p e s m below meth c Q E RET ls hl
  obtain ⟨C0, FX, hH⟩ := E
  have hx := C0.1
  have hb := C0.2.1
  have kl32 := C0.2.2.2.2 (.constantLong RX1 32 (lN 10000)) (by decide +kernel)
  have kiX1 : ∀ w ∈ u_ws RX1 TX1 5, w ∈ wsX1_setFirst := (by decide +kernel)
  have kf15 : Cond.fieldLink RX1 15 "YarnMill$Line" "firstBelow" "I" ∈ wsX1_setFirst := (by decide +kernel)
  have kf9 : Cond.fieldLink RX1 9 "YarnMill$Line" "firstAbove" "I" ∈ wsX1_setFirst := (by decide +kernel)
  have hl : lv_has ls 3 [(0, .ref (ad 1)), (1, .int p0), (2, .int p1)] := hl
  have fr : ∀ j, (j < 1 ∨ 15 < j) → g j = g j := fun j _ => rfl
  obtain ⟨hm, hr, A, B, fm, f1, f2, hfm, f3, hM, hrel, hrr, hok⟩ := hR
  have f1 : g 1 = .inr (1, [.int (nI nm), .int (nI fa), .int (nI fb), .ref (ad 2), .ref (ad 3)]) := f1
  have hrel : ∀ j, j < nm → ∀ i, i < 5 → hm j i = mc j i := hrel
  have hrr : ∀ j, j < nm → ∀ r, r < mc j 4 → hr j r = rd j r := hrr
  have h6 : nm ≤ 6 := hok.1
  have hfa : 1 ≤ fa ∧ fa ≤ 10000 := hok.2.1
  have hfb : 1 ≤ fb ∧ fb ≤ 10000 := hok.2.2.1
  have hmk : ∀ j, j < nm → mcOk (mc j) ∧ ∀ r, r < mc j 4 → 1 ≤ rd j r ∧ rd j r ≤ 1000 := hok.2.2.2
  refine lv_iload_n hx hb dX1_setFirst_0 rfl (lv_at hl 1 rfl) ?_
  refine lv_i2l hx hb dX1_setFirst_1 rfl ?_
  refine lv_lconst (v := lN 1) hx hb dX1_setFirst_2 (by decide) ?_
  refine lv_ldc2 hx hb C0.2.2.2.1 kl32 dX1_setFirst_3 ?_
  refine rc_Ni (rest := []) C0 FX hH (k_X5_within_rng l X ad hi _ p0 1 10000 (by omega) (by omega)) ⟨va_cnB 3 C0.2.2.2.2 gX1_setFirst_X5_within_n34 rfl rfl rfl (FX.1.2 (RX1, 34, yX5_within) (by decide +kernel)) (C0.2.2.2.2 (.initialized RX5) (by decide +kernel)) (by decide +kernel) ⟨Nat.le_of_ble_eq_true rfl, Nat.le_of_ble_eq_true rfl⟩, C0.2.2.2.2 (.static yX5_within) (by decide +kernel), trivial⟩ rfl rfl hl.1 (Nat.le_of_ble_eq_true rfl) dX1_setFirst_6 ⟨Nat.le_of_ble_eq_true rfl, Nat.le_of_ble_eq_true rfl⟩ (fun r6 g6c H locs h6 hH => ?_)
  obtain ⟨e6, rfl⟩ := h6
  rw [e6] at hH
  refine rb_eq hx hb 24 dX1_setFirst_9 (by decide) (fun c9 => ?_) (fun c9 => ?_)
  · refine lv_bipush (v := (-2)) hx hb dX1_setFirst_24 (by decide) ?_
    refine RET _ _ _ _ _ _ dX1_setFirst_26 rfl ?_ hH
    exact postL (by unfold sp_count; rw [if_neg (fun z => by first | exact absurd z.1 (by assumption) | exact absurd z.2 (by assumption))]) ⟨hm, hr, _, _, fm, f1, f2, hfm, f3, hM, hrel, hrr, hok⟩ fr
  · obtain ⟨av, rfl, av1, av2, av3⟩ := rng_nI c9
    refine lv_iload_n hx hb dX1_setFirst_12 rfl (lv_at hl 2 rfl) ?_
    refine lv_i2l hx hb dX1_setFirst_13 rfl ?_
    refine lv_lconst (v := lN 1) hx hb dX1_setFirst_14 (by decide) ?_
    refine lv_ldc2 hx hb C0.2.2.2.1 kl32 dX1_setFirst_15 ?_
    refine rc_Ni (rest := []) C0 FX hH (k_X5_within_rng l X ad hi _ p1 1 10000 (by omega) (by omega)) ⟨va_cnB 3 C0.2.2.2.2 gX1_setFirst_X5_within_n34 rfl rfl rfl (FX.1.2 (RX1, 34, yX5_within) (by decide +kernel)) (C0.2.2.2.2 (.initialized RX5) (by decide +kernel)) (by decide +kernel) ⟨Nat.le_of_ble_eq_true rfl, Nat.le_of_ble_eq_true rfl⟩, C0.2.2.2.2 (.static yX5_within) (by decide +kernel), trivial⟩ rfl rfl hl.1 (Nat.le_of_ble_eq_true rfl) dX1_setFirst_18 ⟨Nat.le_of_ble_eq_true rfl, Nat.le_of_ble_eq_true rfl⟩ (fun r18 g18c H locs h18 hH => ?_)
    obtain ⟨e18, rfl⟩ := h18
    rw [e18] at hH
    refine rb_ne hx hb 27 dX1_setFirst_21 (by decide) (fun c21 => ?_) (fun c21 => ?_)
    · obtain ⟨bv, rfl, bv1, bv2, bv3⟩ := rng_nI c21
      refine lv_aload_n hx hb dX1_setFirst_27 rfl (lv_at hl 0 rfl) ?_
      refine lv_iload_n hx hb dX1_setFirst_28 rfl (lv_at hl 1 rfl) ?_
      refine rp_put C0 FX hH 1 (by decide) (ci := 1) (k := 1) tyX1 tyX1_ok nmX1 f1 rfl kiX1 (by decide) kf9 rfl rfl rfl (Nat.le_of_ble_eq_true rfl) dX1_setFirst_29 (fun g1 H locs eq2 nq2 hH => ?_)
      have f1 : g1 1 = .inr (1, [.int (nI nm), .int (nI av), .int (nI fb), .ref (ad 2), .ref (ad 3)]) := eq2
      have f2 : g1 2 = orr X.2.2.1 6 fm := (nq2 _ (by omega)).trans f2
      have f3 : g1 3 = .inr (0, [.long (lN A), .long (lN B)]) := (nq2 _ (by omega)).trans f3
      have hM : mFam X ad hm hr g1 := mFam.same hM (fun r h1 h2 => nq2 r (by omega))
      have fr : ∀ j, (j < 1 ∨ 15 < j) → g1 j = g j := fun j a0 => (nq2 j (by omega)).trans (fr j a0)
      refine lv_aload_n hx hb dX1_setFirst_32 rfl (lv_at hl 0 rfl) ?_
      refine lv_iload_n hx hb dX1_setFirst_33 rfl (lv_at hl 2 rfl) ?_
      refine rp_put C0 FX hH 1 (by decide) (ci := 1) (k := 2) tyX1 tyX1_ok nmX1 f1 rfl kiX1 (by decide) kf15 rfl rfl rfl (Nat.le_of_ble_eq_true rfl) dX1_setFirst_34 (fun g3 H locs eq4 nq4 hH => ?_)
      have f1 : g3 1 = .inr (1, [.int (nI nm), .int (nI av), .int (nI bv), .ref (ad 2), .ref (ad 3)]) := eq4
      have f2 : g3 2 = orr X.2.2.1 6 fm := (nq4 _ (by omega)).trans f2
      have f3 : g3 3 = .inr (0, [.long (lN A), .long (lN B)]) := (nq4 _ (by omega)).trans f3
      have hM : mFam X ad hm hr g3 := mFam.same hM (fun r h1 h2 => nq4 r (by omega))
      have fr : ∀ j, (j < 1 ∨ 15 < j) → g3 j = g j := fun j a0 => (nq4 j (by omega)).trans (fr j a0)
      refine lv_iconst (v := nI 1) hx hb dX1_setFirst_37 (by decide) ?_
      refine RET _ _ _ _ _ _ dX1_setFirst_38 rfl ?_ hH
      exact postL (by unfold sp_count; rw [if_pos ⟨(rng_iff (by omega)).mpr (by omega), (rng_iff (by omega)).mpr (by omega)⟩, tN_nI (by omega), tN_nI (by omega)]) ⟨hm, hr, _, _, fm, f1, f2, hfm, f3, hM, hrel, hrr, h6, ⟨av1, av2⟩, ⟨bv1, bv2⟩, hmk⟩ fr
    · refine lv_bipush (v := (-2)) hx hb dX1_setFirst_24 (by decide) ?_
      refine RET _ _ _ _ _ _ dX1_setFirst_26 rfl ?_ hH
      exact postL (by unfold sp_count; rw [if_neg (fun z => by first | exact absurd z.1 (by assumption) | exact absurd z.2 (by assumption))]) ⟨hm, hr, _, _, fm, f1, f2, hfm, f3, hM, hrel, hrr, hok⟩ fr
set_option maxHeartbeats 4000000 in
set_option maxRecDepth 100000 in
theorem k_X1_removeAll (l : Launch) (X : Cx) (ad : Nat → Nat) (hi : inj 48 ad) (g : PF) (nm fa fb : Nat) (mc rd : Nat → Nat → Nat) (hR : rLine X ad (nm, fa, fb, mc, rd) g)  : Ki l yX1_removeAll wsX1_removeAll zr0 X 48 ad g [.ref (ad 1)] (fun r g' => r = (sp_clear (nm, fa, fb, mc, rd)).1 ∧ rLine X ad (sp_clear (nm, fa, fb, mc, rd)).2 g' ∧ frL g g') := by
  refine Ki.of (cc := cX1_removeAll) (maxL := 2) hi (by decide) rfl (Nat.le_of_ble_eq_true rfl) ?_
  intro p e s m below meth c Q E RET ls hl
  obtain ⟨C0, FX, hH⟩ := E
  have hx := C0.1
  have hb := C0.2.1
  have kiX1 : ∀ w ∈ u_ws RX1 TX1 5, w ∈ wsX1_removeAll := (by decide +kernel)
  have kf46 : Cond.fieldLink RX1 46 "YarnMill$Line" "size" "I" ∈ wsX1_removeAll := (by decide +kernel)
  have hl : lv_has ls 2 [(0, .ref (ad 1))] := hl
  have fr : ∀ j, (j < 1 ∨ 15 < j) → g j = g j := fun j _ => rfl
  obtain ⟨hm, hr, A, B, fm, f1, f2, hfm, f3, hM, hrel, hrr, hok⟩ := hR
  have f1 : g 1 = .inr (1, [.int (nI nm), .int (nI fa), .int (nI fb), .ref (ad 2), .ref (ad 3)]) := f1
  have hrel : ∀ j, j < nm → ∀ i, i < 5 → hm j i = mc j i := hrel
  have hrr : ∀ j, j < nm → ∀ r, r < mc j 4 → hr j r = rd j r := hrr
  have h6 : nm ≤ 6 := hok.1
  have hfa : 1 ≤ fa ∧ fa ≤ 10000 := hok.2.1
  have hfb : 1 ≤ fb ∧ fb ≤ 10000 := hok.2.2.1
  have hmk : ∀ j, j < nm → mcOk (mc j) ∧ ∀ r, r < mc j 4 → 1 ≤ rd j r ∧ rd j r ≤ 1000 := hok.2.2.2
  refine lv_aload_n hx hb dX1_removeAll_0 rfl (lv_at hl 0 rfl) ?_
  refine rp_get C0 FX hH 1 (by decide) (ci := 1) (k := 0) f1 rfl kiX1 (by decide) kf46 rfl dX1_removeAll_1 ?_
  refine lv_istore_n (lv' := [(1, .int (nI nm)), (0, .ref (ad 1))]) hx hb dX1_removeAll_4 rfl hl (by decide) rfl (fun ls hl => ?_)
  refine lv_aload_n hx hb dX1_removeAll_5 rfl (lv_at hl 1 rfl) ?_
  refine lv_iconst (v := nI 0) hx hb dX1_removeAll_6 (by decide) ?_
  refine rp_put C0 FX hH 1 (by decide) (ci := 1) (k := 0) tyX1 tyX1_ok nmX1 f1 rfl kiX1 (by decide) kf46 rfl rfl rfl (Nat.le_of_ble_eq_true rfl) dX1_removeAll_7 (fun g1 H locs eq2 nq2 hH => ?_)
  have f1 : g1 1 = .inr (1, [.int (nI 0), .int (nI fa), .int (nI fb), .ref (ad 2), .ref (ad 3)]) := eq2
  have f2 : g1 2 = orr X.2.2.1 6 fm := (nq2 _ (by omega)).trans f2
  have f3 : g1 3 = .inr (0, [.long (lN A), .long (lN B)]) := (nq2 _ (by omega)).trans f3
  have hM : mFam X ad hm hr g1 := mFam.same hM (fun r h1 h2 => nq2 r (by omega))
  have fr : ∀ j, (j < 1 ∨ 15 < j) → g1 j = g j := fun j a0 => (nq2 j (by omega)).trans (fr j a0)
  refine lv_iload_n hx hb dX1_removeAll_10 rfl (lv_at hl 0 rfl) ?_
  refine RET _ _ _ _ _ _ dX1_removeAll_11 rfl ?_ hH
  exact postL rfl ⟨hm, hr, _, _, fm, f1, f2, hfm, f3, hM, fun j hj => absurd hj (Nat.not_lt_zero _), fun j hj => absurd hj (Nat.not_lt_zero _), Nat.zero_le _, hfa, hfb, fun j hj => absurd hj (Nat.not_lt_zero _)⟩ fr
set_option maxHeartbeats 4000000 in
set_option maxRecDepth 100000 in
theorem k_X1_countRollers (l : Launch) (X : Cx) (ad : Nat → Nat) (hi : inj 48 ad) (g : PF) (nm fa fb : Nat) (mc rd : Nat → Nat → Nat) (hR : rLine X ad (nm, fa, fb, mc, rd) g)  : Ki l yX1_countRollers wsX1_countRollers zr0 X 48 ad g [.ref (ad 1)] (fun r g' => g' = g ∧ r = nI (rollers (nm, fa, fb, mc, rd))) := by
  refine Ki.of (cc := cX1_countRollers) (maxL := 3) hi (by decide) rfl (Nat.le_of_ble_eq_true rfl) ?_
  intro p e s m below meth c Q E RET ls hl
  obtain ⟨C0, FX, hH⟩ := E
  have hx := C0.1
  have hb := C0.2.1
  have kiX1 : ∀ w ∈ u_ws RX1 TX1 5, w ∈ wsX1_countRollers := (by decide +kernel)
  have kiX2 : ∀ w ∈ u_ws RX2 TX2 6, w ∈ wsX1_countRollers := (by decide +kernel)
  have kf20 : Cond.fieldLink RX1 20 "YarnMill$Line" "machines" "[LYarnMill$Machine;" ∈ wsX1_countRollers := (by decide +kernel)
  have kf46 : Cond.fieldLink RX1 46 "YarnMill$Line" "size" "I" ∈ wsX1_countRollers := (by decide +kernel)
  have kf61 : Cond.fieldLink RX1 61 "YarnMill$Machine" "rollers" "I" ∈ wsX1_countRollers := (by decide +kernel)
  have hl : lv_has ls 3 [(0, .ref (ad 1))] := hl
  obtain ⟨hm, hr, A, B, fm, f1, f2, hfm, f3, hM, hrel, hrr, hok⟩ := hR
  have f1 : g 1 = .inr (1, [.int (nI nm), .int (nI fa), .int (nI fb), .ref (ad 2), .ref (ad 3)]) := f1
  have hrel : ∀ j, j < nm → ∀ i, i < 5 → hm j i = mc j i := hrel
  have hrr : ∀ j, j < nm → ∀ r, r < mc j 4 → hr j r = rd j r := hrr
  have h6 : nm ≤ 6 := hok.1
  have hfa : 1 ≤ fa ∧ fa ≤ 10000 := hok.2.1
  have hfb : 1 ≤ fb ∧ fb ≤ 10000 := hok.2.2.1
  have hmk : ∀ j, j < nm → mcOk (mc j) ∧ ∀ r, r < mc j 4 → 1 ≤ rd j r ∧ rd j r ≤ 1000 := hok.2.2.2
  refine lv_iconst (v := nI 0) hx hb dX1_countRollers_0 (by decide) ?_
  refine lv_istore_n (lv' := [(1, .int (nI 0)), (0, .ref (ad 1))]) hx hb dX1_countRollers_1 rfl hl (by decide) rfl (fun ls hl => ?_)
  refine lv_iconst (v := nI 0) hx hb dX1_countRollers_2 (by decide) ?_
  refine lv_istore_n (lv' := [(2, .int (nI 0)), (1, .int (nI 0)), (0, .ref (ad 1))]) hx hb dX1_countRollers_3 rfl hl (by decide) rfl (fun ls hl => ?_)
  have L4 : ∀ (fu : Nat) (S : Nat) (i : Nat) (ls : Array Slot), (i ≤ nm) → (S = sm (fun j => mc j 4) i) → nm - i < fu → lv_has ls 3 [(2, .int (nI i)), (1, .int (nI S)), (0, .ref (ad 1))] → W p l e zr0 s m ([.ref (ad 1)] : List Value).toArray below meth c s.heap [] 0 0 Q (F0 m 4 ls []) := by
    intro fu
    induction fu with
    | zero =>
      intro S i  ls i1 i2 hm
      exact absurd hm (Nat.not_lt_zero _)
    | succ fu ih =>
      have ih4 := ih; clear ih
      intro S i  ls i1 i2 hm4  hl
      refine lv_iload_n hx hb dX1_countRollers_4 rfl (lv_at hl 0 rfl) ?_
      refine lv_aload_n hx hb dX1_countRollers_5 rfl (lv_at hl 2 rfl) ?_
      refine rp_get C0 FX hH 1 (by decide) (ci := 1) (k := 0) f1 rfl kiX1 (by decide) kf46 rfl dX1_countRollers_6 ?_
      refine ni_cge hx hb 30 dX1_countRollers_9 (by decide) (by omega) (by omega) (fun c9 => ?_) (fun c9 => ?_)
      · refine lv_iload_n hx hb dX1_countRollers_30 rfl (lv_at hl 1 rfl) ?_
        refine RET _ _ _ _ _ _ dX1_countRollers_31 rfl ?_ hH
        exact ⟨rfl, by rw [i2, show i = nm by omega]; rfl⟩
      · refine lv_iload_n hx hb dX1_countRollers_12 rfl (lv_at hl 1 rfl) ?_
        refine lv_aload_n hx hb dX1_countRollers_13 rfl (lv_at hl 2 rfl) ?_
        refine rp_get C0 FX hH 1 (by decide) (ci := 1) (k := 3) f1 rfl kiX1 (by decide) kf20 rfl dX1_countRollers_14 ?_
        refine lv_iload_n hx hb dX1_countRollers_17 rfl (lv_at hl 0 rfl) ?_
        refine rp_aald C0 FX hH 2 1 (by decide) f2 rfl i (ad (4 + 2 * i)) (by omega) (by decide) (hfm _ (by omega)) dX1_countRollers_18 ?_
        have ymo19 : g (4 + 2 * i) = .inr (2, [.int (nI (mc i 0)), .int (nI (mc i 1)), .int (nI (mc i 2)), .int (nI (mc i 3)), .int (nI (mc i 4)), .ref (ad (5 + 2 * i))]) := mFam_at hM h6 hrel _ (by omega)
        have ho19 := (hmk i (by omega)).1
        obtain ⟨⟨p19a, p19b⟩, ⟨p19c, p19d⟩, ⟨p19e, p19f⟩, p19g, p19h⟩ := id ho19
        refine rp_get C0 FX hH (4 + 2 * i) (by omega) (ci := 2) (k := 4) ymo19 rfl kiX2 (by decide) kf61 rfl dX1_countRollers_19 ?_
        refine ni_iadd hx hb dX1_countRollers_22 ?_
        refine lv_istore_n (lv' := [(1, .int (nI (S + (mc i 4)))), (2, .int (nI i)), (0, .ref (ad 1))]) hx hb dX1_countRollers_23 rfl hl (by decide) rfl (fun ls hl => ?_)
        refine lv_iinc (v := nI (i + 1)) (lv' := [(2, .int (nI (i + 1))), (1, .int (nI (S + (mc i 4)))), (0, .ref (ad 1))]) hx hb dX1_countRollers_24 hl (k := 1) rfl (ni_inc1 _) (by decide) rfl (fun ls hl => ?_)
        refine lv_goto (tgt := 4) hx hb dX1_countRollers_27 (by decide) ?_
        exact ih4 (S + (mc i 4)) (i + 1) ls (by omega) (by rw [i2]; rfl) (by omega) (lv_sub hl [0, 1, 2] rfl)
  exact L4 ((nm - 0) + 1) 0 0 ls (by omega) (by rfl) (Nat.lt_succ_self _) (lv_sub hl [0, 1, 2] rfl)
set_option maxHeartbeats 4000000 in
set_option maxRecDepth 100000 in
theorem k_X1_addMachine (l : Launch) (X : Cx) (ad : Nat → Nat) (hi : inj 48 ad) (g : PF) (nm fa fb : Nat) (mc rd : Nat → Nat → Nat) (hR : rLine X ad (nm, fa, fb, mc, rd) g) (p0 p1 p2 p3 : Int32) : Ki l yX1_addMachine wsX1_addMachine zr1 X 48 ad g [.ref (ad 1), .int p0, .int p1, .int p2, .int p3] (fun r g' => r = (sp_machine p0 p1 p2 p3 (nm, fa, fb, mc, rd)).1 ∧ rLine X ad (sp_machine p0 p1 p2 p3 (nm, fa, fb, mc, rd)).2 g' ∧ frL g g') := by
  refine Ki.of (cc := cX1_addMachine) (maxL := 6) hi (by decide) rfl (Nat.le_of_ble_eq_true rfl) ?_
  intro p e s m below meth c Q E RET ls hl
  obtain ⟨C0, FX, hH⟩ := E
  have hx := C0.1
  have hb := C0.2.1
  have kl38 := C0.2.2.2.2 (.constantLong RX1 38 (lN 16)) (by decide +kernel)
  have kl40 := C0.2.2.2.2 (.constantLong RX1 40 (lN 60)) (by decide +kernel)
  have kl42 := C0.2.2.2.2 (.constantLong RX1 42 (lN 20)) (by decide +kernel)
  have kl44 := C0.2.2.2.2 (.constantLong RX1 44 (lN 500)) (by decide +kernel)
  have kiX1 : ∀ w ∈ u_ws RX1 TX1 5, w ∈ wsX1_addMachine := (by decide +kernel)
  have kiX2 : ∀ w ∈ u_ws RX2 TX2 6, w ∈ wsX1_addMachine := (by decide +kernel)
  have kf20 : Cond.fieldLink RX1 20 "YarnMill$Line" "machines" "[LYarnMill$Machine;" ∈ wsX1_addMachine := (by decide +kernel)
  have kf46 : Cond.fieldLink RX1 46 "YarnMill$Line" "size" "I" ∈ wsX1_addMachine := (by decide +kernel)
  have kf49 : Cond.fieldLink RX1 49 "YarnMill$Machine" "doublings" "I" ∈ wsX1_addMachine := (by decide +kernel)
  have kf52 : Cond.fieldLink RX1 52 "YarnMill$Machine" "above" "I" ∈ wsX1_addMachine := (by decide +kernel)
  have kf55 : Cond.fieldLink RX1 55 "YarnMill$Machine" "below" "I" ∈ wsX1_addMachine := (by decide +kernel)
  have kf58 : Cond.fieldLink RX1 58 "YarnMill$Machine" "loss" "I" ∈ wsX1_addMachine := (by decide +kernel)
  have kf61 : Cond.fieldLink RX1 61 "YarnMill$Machine" "rollers" "I" ∈ wsX1_addMachine := (by decide +kernel)
  have hl : lv_has ls 6 [(0, .ref (ad 1)), (1, .int p0), (2, .int p1), (3, .int p2), (4, .int p3)] := hl
  have fr : ∀ j, j ≠ 1 → j ≠ (4 + 2 * nm) → g j = g j := fun j _ _ => rfl
  obtain ⟨hm, hr, A, B, fm, f1, f2, hfm, f3, hM, hrel, hrr, hok⟩ := hR
  have f1 : g 1 = .inr (1, [.int (nI nm), .int (nI fa), .int (nI fb), .ref (ad 2), .ref (ad 3)]) := f1
  have hrel : ∀ j, j < nm → ∀ i, i < 5 → hm j i = mc j i := hrel
  have hrr : ∀ j, j < nm → ∀ r, r < mc j 4 → hr j r = rd j r := hrr
  have h6 : nm ≤ 6 := hok.1
  have hfa : 1 ≤ fa ∧ fa ≤ 10000 := hok.2.1
  have hfb : 1 ≤ fb ∧ fb ≤ 10000 := hok.2.2.1
  have hmk : ∀ j, j < nm → mcOk (mc j) ∧ ∀ r, r < mc j 4 → 1 ≤ rd j r ∧ rd j r ≤ 1000 := hok.2.2.2
  refine lv_iload_n hx hb dX1_addMachine_0 rfl (lv_at hl 1 rfl) ?_
  refine lv_i2l hx hb dX1_addMachine_1 rfl ?_
  refine lv_lconst (v := lN 1) hx hb dX1_addMachine_2 (by decide) ?_
  refine lv_ldc2 hx hb C0.2.2.2.1 kl38 dX1_addMachine_3 ?_
  refine rc_Ni (rest := []) C0 FX hH (k_X5_within_rng l X ad hi _ p0 1 16 (by omega) (by omega)) ⟨va_cnB 3 C0.2.2.2.2 gX1_addMachine_X5_within_n34 rfl rfl rfl (FX.1.2 (RX1, 34, yX5_within) (by decide +kernel)) (C0.2.2.2.2 (.initialized RX5) (by decide +kernel)) (by decide +kernel) ⟨Nat.le_of_ble_eq_true rfl, Nat.le_of_ble_eq_true rfl⟩, C0.2.2.2.2 (.static yX5_within) (by decide +kernel), trivial⟩ rfl rfl hl.1 (Nat.le_of_ble_eq_true rfl) dX1_addMachine_6 ⟨Nat.le_of_ble_eq_true rfl, Nat.le_of_ble_eq_true rfl⟩ (fun r6 g6c H locs h6 hH => ?_)
  obtain ⟨e6, rfl⟩ := h6
  rw [e6] at hH
  refine rb_eq hx hb 49 dX1_addMachine_9 (by decide) (fun c9 => ?_) (fun c9 => ?_)
  · refine lv_bipush (v := (-2)) hx hb dX1_addMachine_49 (by decide) ?_
    refine RET _ _ _ _ _ _ dX1_addMachine_51 rfl ?_ hH
    exact postL (by unfold sp_machine; rw [if_neg (fun z => by first | exact absurd z.1 (by assumption) | exact absurd z.2.1 (by assumption) | exact absurd z.2.2.1 (by assumption) | exact absurd z.2.2.2 (by assumption))]) ⟨hm, hr, _, _, fm, f1, f2, hfm, f3, hM, hrel, hrr, hok⟩ (fun j _ => rfl)
  · obtain ⟨v0, rfl, v01, v02, v03⟩ := rng_nI c9
    refine lv_iload_n hx hb dX1_addMachine_12 rfl (lv_at hl 2 rfl) ?_
    refine lv_i2l hx hb dX1_addMachine_13 rfl ?_
    refine lv_lconst (v := lN 1) hx hb dX1_addMachine_14 (by decide) ?_
    refine lv_ldc2 hx hb C0.2.2.2.1 kl40 dX1_addMachine_15 ?_
    refine rc_Ni (rest := []) C0 FX hH (k_X5_within_rng l X ad hi _ p1 1 60 (by omega) (by omega)) ⟨va_cnB 3 C0.2.2.2.2 gX1_addMachine_X5_within_n34 rfl rfl rfl (FX.1.2 (RX1, 34, yX5_within) (by decide +kernel)) (C0.2.2.2.2 (.initialized RX5) (by decide +kernel)) (by decide +kernel) ⟨Nat.le_of_ble_eq_true rfl, Nat.le_of_ble_eq_true rfl⟩, C0.2.2.2.2 (.static yX5_within) (by decide +kernel), trivial⟩ rfl rfl hl.1 (Nat.le_of_ble_eq_true rfl) dX1_addMachine_18 ⟨Nat.le_of_ble_eq_true rfl, Nat.le_of_ble_eq_true rfl⟩ (fun r18 g18c H locs h18 hH => ?_)
    obtain ⟨e18, rfl⟩ := h18
    rw [e18] at hH
    refine rb_eq hx hb 49 dX1_addMachine_21 (by decide) (fun c21 => ?_) (fun c21 => ?_)
    · refine lv_bipush (v := (-2)) hx hb dX1_addMachine_49 (by decide) ?_
      refine RET _ _ _ _ _ _ dX1_addMachine_51 rfl ?_ hH
      exact postL (by unfold sp_machine; rw [if_neg (fun z => by first | exact absurd z.1 (by assumption) | exact absurd z.2.1 (by assumption) | exact absurd z.2.2.1 (by assumption) | exact absurd z.2.2.2 (by assumption))]) ⟨hm, hr, _, _, fm, f1, f2, hfm, f3, hM, hrel, hrr, hok⟩ (fun j _ => rfl)
    · obtain ⟨v1, rfl, v11, v12, v13⟩ := rng_nI c21
      refine lv_iload_n hx hb dX1_addMachine_24 rfl (lv_at hl 3 rfl) ?_
      refine lv_i2l hx hb dX1_addMachine_25 rfl ?_
      refine lv_lconst (v := lN 1) hx hb dX1_addMachine_26 (by decide) ?_
      refine lv_ldc2 hx hb C0.2.2.2.1 kl42 dX1_addMachine_27 ?_
      refine rc_Ni (rest := []) C0 FX hH (k_X5_within_rng l X ad hi _ p2 1 20 (by omega) (by omega)) ⟨va_cnB 3 C0.2.2.2.2 gX1_addMachine_X5_within_n34 rfl rfl rfl (FX.1.2 (RX1, 34, yX5_within) (by decide +kernel)) (C0.2.2.2.2 (.initialized RX5) (by decide +kernel)) (by decide +kernel) ⟨Nat.le_of_ble_eq_true rfl, Nat.le_of_ble_eq_true rfl⟩, C0.2.2.2.2 (.static yX5_within) (by decide +kernel), trivial⟩ rfl rfl hl.1 (Nat.le_of_ble_eq_true rfl) dX1_addMachine_30 ⟨Nat.le_of_ble_eq_true rfl, Nat.le_of_ble_eq_true rfl⟩ (fun r30 g30c H locs h30 hH => ?_)
      obtain ⟨e30, rfl⟩ := h30
      rw [e30] at hH
      refine rb_eq hx hb 49 dX1_addMachine_33 (by decide) (fun c33 => ?_) (fun c33 => ?_)
      · refine lv_bipush (v := (-2)) hx hb dX1_addMachine_49 (by decide) ?_
        refine RET _ _ _ _ _ _ dX1_addMachine_51 rfl ?_ hH
        exact postL (by unfold sp_machine; rw [if_neg (fun z => by first | exact absurd z.1 (by assumption) | exact absurd z.2.1 (by assumption) | exact absurd z.2.2.1 (by assumption) | exact absurd z.2.2.2 (by assumption))]) ⟨hm, hr, _, _, fm, f1, f2, hfm, f3, hM, hrel, hrr, hok⟩ (fun j _ => rfl)
      · obtain ⟨v2, rfl, v21, v22, v23⟩ := rng_nI c33
        refine lv_iload hx hb dX1_addMachine_36 (lv_at hl 4 rfl) ?_
        refine lv_i2l hx hb dX1_addMachine_38 rfl ?_
        refine lv_lconst (v := lN 0) hx hb dX1_addMachine_39 (by decide) ?_
        refine lv_ldc2 hx hb C0.2.2.2.1 kl44 dX1_addMachine_40 ?_
        refine rc_Ni (rest := []) C0 FX hH (k_X5_within_rng l X ad hi _ p3 0 500 (by omega) (by omega)) ⟨va_cnB 3 C0.2.2.2.2 gX1_addMachine_X5_within_n34 rfl rfl rfl (FX.1.2 (RX1, 34, yX5_within) (by decide +kernel)) (C0.2.2.2.2 (.initialized RX5) (by decide +kernel)) (by decide +kernel) ⟨Nat.le_of_ble_eq_true rfl, Nat.le_of_ble_eq_true rfl⟩, C0.2.2.2.2 (.static yX5_within) (by decide +kernel), trivial⟩ rfl rfl hl.1 (Nat.le_of_ble_eq_true rfl) dX1_addMachine_43 ⟨Nat.le_of_ble_eq_true rfl, Nat.le_of_ble_eq_true rfl⟩ (fun r43 g43c H locs h43 hH => ?_)
        obtain ⟨e43, rfl⟩ := h43
        rw [e43] at hH
        refine rb_ne hx hb 52 dX1_addMachine_46 (by decide) (fun c46 => ?_) (fun c46 => ?_)
        · obtain ⟨v3, rfl, v31, v32, v33⟩ := rng_nI c46
          refine lv_aload_n hx hb dX1_addMachine_52 rfl (lv_at hl 0 rfl) ?_
          refine rp_get C0 FX hH 1 (by decide) (ci := 1) (k := 0) f1 rfl kiX1 (by decide) kf46 rfl dX1_addMachine_53 ?_
          refine lv_bipush (v := nI 6) hx hb dX1_addMachine_56 (by decide) ?_
          refine ni_clt hx hb 64 dX1_addMachine_58 (by decide) (by omega) (by omega) (fun c58 => ?_) (fun c58 => ?_)
          · refine lv_aload_n hx hb dX1_addMachine_64 rfl (lv_at hl 0 rfl) ?_
            refine rp_get C0 FX hH 1 (by decide) (ci := 1) (k := 3) f1 rfl kiX1 (by decide) kf20 rfl dX1_addMachine_65 ?_
            refine lv_aload_n hx hb dX1_addMachine_68 rfl (lv_at hl 0 rfl) ?_
            refine rp_get C0 FX hH 1 (by decide) (ci := 1) (k := 0) f1 rfl kiX1 (by decide) kf46 rfl dX1_addMachine_69 ?_
            refine rp_aald C0 FX hH 2 1 (by decide) f2 rfl nm (ad (4 + 2 * nm)) (by omega) (by decide) (hfm _ (by omega)) dX1_addMachine_72 ?_
            refine lv_astore (lv' := [(5, .ref (ad (4 + 2 * nm))), (0, .ref (ad 1)), (1, .int (nI v0)), (2, .int (nI v1)), (3, .int (nI v2)), (4, .int (nI v3))]) hx hb dX1_addMachine_73 hl (by decide) rfl (fun ls hl => ?_)
            refine lv_aload hx hb dX1_addMachine_75 (lv_at hl 0 rfl) ?_
            refine lv_iload_n hx hb dX1_addMachine_77 rfl (lv_at hl 2 rfl) ?_
            have ymo78 : g (4 + 2 * nm) = .inr (2, [.int (nI (hm nm 0)), .int (nI (hm nm 1)), .int (nI (hm nm 2)), .int (nI (hm nm 3)), .int (nI (hm nm 4)), .ref (ad (5 + 2 * nm))]) := (hM _ (by omega)).1
            refine rp_put C0 FX hH (4 + 2 * nm) (by omega) (ci := 2) (k := 0) tyX2 tyX2_ok nmX2 ymo78 rfl kiX2 (by decide) kf49 rfl rfl rfl (Nat.le_of_ble_eq_true rfl) dX1_addMachine_78 (fun g1 H locs eq2 nq2 hH => ?_)
            have ymo78 : g1 (4 + 2 * nm) = .inr (2, [.int (nI v0), .int (nI (hm nm 1)), .int (nI (hm nm 2)), .int (nI (hm nm 3)), .int (nI (hm nm 4)), .ref (ad (5 + 2 * nm))]) := eq2
            have f1 : g1 1 = .inr (1, [.int (nI nm), .int (nI fa), .int (nI fb), .ref (ad 2), .ref (ad 3)]) := (nq2 _ (by omega)).trans f1
            have f2 : g1 2 = orr X.2.2.1 6 fm := (nq2 _ (by omega)).trans f2
            have f3 : g1 3 = .inr (0, [.long (lN A), .long (lN B)]) := (nq2 _ (by omega)).trans f3
            have fr : ∀ j, j ≠ 1 → j ≠ (4 + 2 * nm) → g1 j = g j := fun j a0 a1 => (nq2 j (by omega)).trans (fr j a0 a1)
            refine lv_aload hx hb dX1_addMachine_81 (lv_at hl 0 rfl) ?_
            refine lv_iload_n hx hb dX1_addMachine_83 rfl (lv_at hl 3 rfl) ?_
            refine rp_put C0 FX hH (4 + 2 * nm) (by omega) (ci := 2) (k := 1) tyX2 tyX2_ok nmX2 ymo78 rfl kiX2 (by decide) kf52 rfl rfl rfl (Nat.le_of_ble_eq_true rfl) dX1_addMachine_84 (fun g3 H locs eq4 nq4 hH => ?_)
            have ymo78 : g3 (4 + 2 * nm) = .inr (2, [.int (nI v0), .int (nI v1), .int (nI (hm nm 2)), .int (nI (hm nm 3)), .int (nI (hm nm 4)), .ref (ad (5 + 2 * nm))]) := eq4
            have f1 : g3 1 = .inr (1, [.int (nI nm), .int (nI fa), .int (nI fb), .ref (ad 2), .ref (ad 3)]) := (nq4 _ (by omega)).trans f1
            have f2 : g3 2 = orr X.2.2.1 6 fm := (nq4 _ (by omega)).trans f2
            have f3 : g3 3 = .inr (0, [.long (lN A), .long (lN B)]) := (nq4 _ (by omega)).trans f3
            have fr : ∀ j, j ≠ 1 → j ≠ (4 + 2 * nm) → g3 j = g j := fun j a0 a1 => (nq4 j (by omega)).trans (fr j a0 a1)
            refine lv_aload hx hb dX1_addMachine_87 (lv_at hl 0 rfl) ?_
            refine lv_iload_n hx hb dX1_addMachine_89 rfl (lv_at hl 4 rfl) ?_
            refine rp_put C0 FX hH (4 + 2 * nm) (by omega) (ci := 2) (k := 2) tyX2 tyX2_ok nmX2 ymo78 rfl kiX2 (by decide) kf55 rfl rfl rfl (Nat.le_of_ble_eq_true rfl) dX1_addMachine_90 (fun g5 H locs eq6 nq6 hH => ?_)
            have ymo78 : g5 (4 + 2 * nm) = .inr (2, [.int (nI v0), .int (nI v1), .int (nI v2), .int (nI (hm nm 3)), .int (nI (hm nm 4)), .ref (ad (5 + 2 * nm))]) := eq6
            have f1 : g5 1 = .inr (1, [.int (nI nm), .int (nI fa), .int (nI fb), .ref (ad 2), .ref (ad 3)]) := (nq6 _ (by omega)).trans f1
            have f2 : g5 2 = orr X.2.2.1 6 fm := (nq6 _ (by omega)).trans f2
            have f3 : g5 3 = .inr (0, [.long (lN A), .long (lN B)]) := (nq6 _ (by omega)).trans f3
            have fr : ∀ j, j ≠ 1 → j ≠ (4 + 2 * nm) → g5 j = g j := fun j a0 a1 => (nq6 j (by omega)).trans (fr j a0 a1)
            refine lv_aload hx hb dX1_addMachine_93 (lv_at hl 0 rfl) ?_
            refine lv_iload hx hb dX1_addMachine_95 (lv_at hl 5 rfl) ?_
            refine rp_put C0 FX hH (4 + 2 * nm) (by omega) (ci := 2) (k := 3) tyX2 tyX2_ok nmX2 ymo78 rfl kiX2 (by decide) kf58 rfl rfl rfl (Nat.le_of_ble_eq_true rfl) dX1_addMachine_97 (fun g7 H locs eq8 nq8 hH => ?_)
            have ymo78 : g7 (4 + 2 * nm) = .inr (2, [.int (nI v0), .int (nI v1), .int (nI v2), .int (nI v3), .int (nI (hm nm 4)), .ref (ad (5 + 2 * nm))]) := eq8
            have f1 : g7 1 = .inr (1, [.int (nI nm), .int (nI fa), .int (nI fb), .ref (ad 2), .ref (ad 3)]) := (nq8 _ (by omega)).trans f1
            have f2 : g7 2 = orr X.2.2.1 6 fm := (nq8 _ (by omega)).trans f2
            have f3 : g7 3 = .inr (0, [.long (lN A), .long (lN B)]) := (nq8 _ (by omega)).trans f3
            have fr : ∀ j, j ≠ 1 → j ≠ (4 + 2 * nm) → g7 j = g j := fun j a0 a1 => (nq8 j (by omega)).trans (fr j a0 a1)
            refine lv_aload hx hb dX1_addMachine_100 (lv_at hl 0 rfl) ?_
            refine lv_iconst (v := nI 0) hx hb dX1_addMachine_102 (by decide) ?_
            refine rp_put C0 FX hH (4 + 2 * nm) (by omega) (ci := 2) (k := 4) tyX2 tyX2_ok nmX2 ymo78 rfl kiX2 (by decide) kf61 rfl rfl rfl (Nat.le_of_ble_eq_true rfl) dX1_addMachine_103 (fun g9 H locs eq10 nq10 hH => ?_)
            have ymo78 : g9 (4 + 2 * nm) = .inr (2, [.int (nI v0), .int (nI v1), .int (nI v2), .int (nI v3), .int (nI 0), .ref (ad (5 + 2 * nm))]) := eq10
            have f1 : g9 1 = .inr (1, [.int (nI nm), .int (nI fa), .int (nI fb), .ref (ad 2), .ref (ad 3)]) := (nq10 _ (by omega)).trans f1
            have f2 : g9 2 = orr X.2.2.1 6 fm := (nq10 _ (by omega)).trans f2
            have f3 : g9 3 = .inr (0, [.long (lN A), .long (lN B)]) := (nq10 _ (by omega)).trans f3
            have fr : ∀ j, j ≠ 1 → j ≠ (4 + 2 * nm) → g9 j = g j := fun j a0 a1 => (nq10 j (by omega)).trans (fr j a0 a1)
            refine lv_aload_n hx hb dX1_addMachine_106 rfl (lv_at hl 1 rfl) ?_
            refine lv_dup hx hb dX1_addMachine_107 rfl ?_
            refine rp_get C0 FX hH 1 (by decide) (ci := 1) (k := 0) f1 rfl kiX1 (by decide) kf46 rfl dX1_addMachine_108 ?_
            refine lv_iconst (v := nI 1) hx hb dX1_addMachine_111 (by decide) ?_
            refine ni_iadd hx hb dX1_addMachine_112 ?_
            refine rp_put C0 FX hH 1 (by decide) (ci := 1) (k := 0) tyX1 tyX1_ok nmX1 f1 rfl kiX1 (by decide) kf46 rfl rfl rfl (Nat.le_of_ble_eq_true rfl) dX1_addMachine_113 (fun g11 H locs eq12 nq12 hH => ?_)
            have f1 : g11 1 = .inr (1, [.int (nI (nm + 1)), .int (nI fa), .int (nI fb), .ref (ad 2), .ref (ad 3)]) := eq12
            have f2 : g11 2 = orr X.2.2.1 6 fm := (nq12 _ (by omega)).trans f2
            have f3 : g11 3 = .inr (0, [.long (lN A), .long (lN B)]) := (nq12 _ (by omega)).trans f3
            have ymo78 : g11 (4 + 2 * nm) = .inr (2, [.int (nI v0), .int (nI v1), .int (nI v2), .int (nI v3), .int (nI 0), .ref (ad (5 + 2 * nm))]) := (nq12 _ (by omega)).trans ymo78
            have fr : ∀ j, j ≠ 1 → j ≠ (4 + 2 * nm) → g11 j = g j := fun j a0 a1 => (nq12 j (by omega)).trans (fr j a0 a1)
            refine lv_aload_n hx hb dX1_addMachine_116 rfl (lv_at hl 1 rfl) ?_
            refine rp_get C0 FX hH 1 (by decide) (ci := 1) (k := 0) f1 rfl kiX1 (by decide) kf46 rfl dX1_addMachine_117 ?_
            refine lv_iconst (v := nI 1) hx hb dX1_addMachine_120 (by decide) ?_
            refine ni_isub hx hb (by omega) dX1_addMachine_121 ?_
            refine RET _ _ _ _ _ _ dX1_addMachine_122 rfl ?_ hH
            refine postL (by unfold sp_machine; rw [if_pos ⟨(rng_iff (by omega)).mpr (by omega), (rng_iff (by omega)).mpr (by omega), (rng_iff (by omega)).mpr (by omega), (rng_iff (by omega)).mpr (by omega)⟩, if_neg (by show ¬ 6 ≤ nm; omega), tN_nI (by omega), tN_nI (by omega), tN_nI (by omega), tN_nI (by omega)]; rfl) ⟨va_up hm nm (mrow v0 v1 v2 v3), hr, _, _, fm, f1, f2, hfm, f3, ?_, ?_, ?_, ?_⟩ (fun j h => fr j (by omega) (by omega))
            · intro j hj
              by_cases q : j = nm
              · subst q; rw [va_up_self]; exact ⟨ymo78, (fr _ (by omega) (by omega)).trans (hM _ hj).2⟩
              · rw [va_up_ne _ _ q]; exact ⟨(fr _ (by omega) (by omega)).trans (hM _ hj).1, (fr _ (by omega) (by omega)).trans (hM _ hj).2⟩
            · intro j hj i hi5
              have hj : j < nm + 1 := hj
              show va_up hm nm (mrow v0 v1 v2 v3) j i = va_up mc nm (mrow v0 v1 v2 v3) j i
              by_cases q : j = nm
              · subst q; rw [va_up_self, va_up_self]
              · rw [va_up_ne _ _ q, va_up_ne _ _ q]; exact hrel j (by omega) i hi5
            · intro j hj r hr4
              have hj : j < nm + 1 := hj
              have hr4 : r < va_up mc nm (mrow v0 v1 v2 v3) j 4 := hr4
              by_cases q : j = nm
              · subst q; rw [va_up_self] at hr4; exact absurd hr4 (Nat.not_lt_zero _)
              · rw [va_up_ne _ _ q] at hr4; exact hrr j (by omega) r hr4
            · refine ⟨by show nm + 1 ≤ 6; omega, hfa, hfb, fun j hj => ?_⟩
              have hj : j < nm + 1 := hj
              show mcOk (va_up mc nm (mrow v0 v1 v2 v3) j) ∧ ∀ r, r < va_up mc nm (mrow v0 v1 v2 v3) j 4 → 1 ≤ rd j r ∧ rd j r ≤ 1000
              by_cases q : j = nm
              · subst q; rw [va_up_self]; exact ⟨⟨⟨v01, v02⟩, ⟨v11, v12⟩, ⟨v21, v22⟩, v32, Nat.zero_le _⟩, fun r hr => absurd hr (Nat.not_lt_zero _)⟩
              · rw [va_up_ne _ _ q]; exact hmk j (by omega)
          · refine lv_bipush (v := (-4)) hx hb dX1_addMachine_61 (by decide) ?_
            refine RET _ _ _ _ _ _ dX1_addMachine_63 rfl ?_ hH
            exact postL (by unfold sp_machine; rw [if_pos ⟨(rng_iff (by omega)).mpr (by omega), (rng_iff (by omega)).mpr (by omega), (rng_iff (by omega)).mpr (by omega), (rng_iff (by omega)).mpr (by omega)⟩, if_pos (by show 6 ≤ nm; omega)]) ⟨hm, hr, _, _, fm, f1, f2, hfm, f3, hM, hrel, hrr, hok⟩ (fun j _ => rfl)
        · refine lv_bipush (v := (-2)) hx hb dX1_addMachine_49 (by decide) ?_
          refine RET _ _ _ _ _ _ dX1_addMachine_51 rfl ?_ hH
          exact postL (by unfold sp_machine; rw [if_neg (fun z => by first | exact absurd z.1 (by assumption) | exact absurd z.2.1 (by assumption) | exact absurd z.2.2.1 (by assumption) | exact absurd z.2.2.2 (by assumption))]) ⟨hm, hr, _, _, fm, f1, f2, hfm, f3, hM, hrel, hrr, hok⟩ (fun j _ => rfl)
set_option maxHeartbeats 4000000 in
set_option maxRecDepth 100000 in
theorem k_X1_addRoller (l : Launch) (X : Cx) (ad : Nat → Nat) (hi : inj 48 ad) (g : PF) (nm fa fb : Nat) (mc rd : Nat → Nat → Nat) (hR : rLine X ad (nm, fa, fb, mc, rd) g) (p0 p1 : Int32) : Ki l yX1_addRoller wsX1_addRoller zr1 X 48 ad g [.ref (ad 1), .int p0, .int p1] (fun r g' => r = (sp_roller p0 p1 (nm, fa, fb, mc, rd)).1 ∧ rLine X ad (sp_roller p0 p1 (nm, fa, fb, mc, rd)).2 g' ∧ frL g g') := by
  refine Ki.of (cc := cX1_addRoller) (maxL := 4) hi (by decide) rfl (Nat.le_of_ble_eq_true rfl) ?_
  intro p e s m below meth c Q E RET ls hl
  obtain ⟨C0, FX, hH⟩ := E
  have hx := C0.1
  have hb := C0.2.1
  have kl64 := C0.2.2.2.2 (.constantLong RX1 64 (lN 1000)) (by decide +kernel)
  have kiX1 : ∀ w ∈ u_ws RX1 TX1 5, w ∈ wsX1_addRoller := (by decide +kernel)
  have kiX2 : ∀ w ∈ u_ws RX2 TX2 6, w ∈ wsX1_addRoller := (by decide +kernel)
  have kf20 : Cond.fieldLink RX1 20 "YarnMill$Line" "machines" "[LYarnMill$Machine;" ∈ wsX1_addRoller := (by decide +kernel)
  have kf46 : Cond.fieldLink RX1 46 "YarnMill$Line" "size" "I" ∈ wsX1_addRoller := (by decide +kernel)
  have kf61 : Cond.fieldLink RX1 61 "YarnMill$Machine" "rollers" "I" ∈ wsX1_addRoller := (by decide +kernel)
  have kf66 : Cond.fieldLink RX1 66 "YarnMill$Machine" "rounds" "[I" ∈ wsX1_addRoller := (by decide +kernel)
  have hl : lv_has ls 4 [(0, .ref (ad 1)), (1, .int p0), (2, .int p1)] := hl
  obtain ⟨hm, hr, A, B, fm, f1, f2, hfm, f3, hM, hrel, hrr, hok⟩ := hR
  have f1 : g 1 = .inr (1, [.int (nI nm), .int (nI fa), .int (nI fb), .ref (ad 2), .ref (ad 3)]) := f1
  have hrel : ∀ j, j < nm → ∀ i, i < 5 → hm j i = mc j i := hrel
  have hrr : ∀ j, j < nm → ∀ r, r < mc j 4 → hr j r = rd j r := hrr
  have h6 : nm ≤ 6 := hok.1
  have hfa : 1 ≤ fa ∧ fa ≤ 10000 := hok.2.1
  have hfb : 1 ≤ fb ∧ fb ≤ 10000 := hok.2.2.1
  have hmk : ∀ j, j < nm → mcOk (mc j) ∧ ∀ r, r < mc j 4 → 1 ≤ rd j r ∧ rd j r ≤ 1000 := hok.2.2.2
  refine lv_iload_n hx hb dX1_addRoller_0 rfl (lv_at hl 1 rfl) ?_
  refine lv_i2l hx hb dX1_addRoller_1 rfl ?_
  refine lv_lconst (v := lN 0) hx hb dX1_addRoller_2 (by decide) ?_
  refine lv_aload_n hx hb dX1_addRoller_3 rfl (lv_at hl 0 rfl) ?_
  refine rp_get C0 FX hH 1 (by decide) (ci := 1) (k := 0) f1 rfl kiX1 (by decide) kf46 rfl dX1_addRoller_4 ?_
  refine lv_iconst (v := nI 1) hx hb dX1_addRoller_7 (by decide) ?_
  refine lv_isub hx hb dX1_addRoller_8 ?_
  refine lv_i2l hx hb dX1_addRoller_9 rfl ?_
  refine rc_Ni (rest := []) C0 FX hH (k_X5_within_rngS l X ad hi _ p0 nm (by omega)) ⟨va_cnB 3 C0.2.2.2.2 gX1_addRoller_X5_within_n34 rfl rfl rfl (FX.1.2 (RX1, 34, yX5_within) (by decide +kernel)) (C0.2.2.2.2 (.initialized RX5) (by decide +kernel)) (by decide +kernel) ⟨Nat.le_of_ble_eq_true rfl, Nat.le_of_ble_eq_true rfl⟩, C0.2.2.2.2 (.static yX5_within) (by decide +kernel), trivial⟩ rfl rfl hl.1 (Nat.le_of_ble_eq_true rfl) dX1_addRoller_10 ⟨Nat.le_of_ble_eq_true rfl, Nat.le_of_ble_eq_true rfl⟩ (fun r10 g10c H locs h10 hH => ?_)
  obtain ⟨e10, rfl⟩ := h10
  rw [e10] at hH
  refine rb_eq hx hb 28 dX1_addRoller_13 (by decide) (fun c13 => ?_) (fun c13 => ?_)
  · refine lv_bipush (v := (-2)) hx hb dX1_addRoller_28 (by decide) ?_
    refine RET _ _ _ _ _ _ dX1_addRoller_30 rfl ?_ hH
    exact postL (by unfold sp_roller; rw [if_neg (fun z => by first | exact absurd z.1 (by assumption) | exact absurd z.2 (by assumption))]) ⟨hm, hr, _, _, fm, f1, f2, hfm, f3, hM, hrel, hrr, hok⟩ (fun j _ => rfl)
  · obtain ⟨mv, rfl, mv1, mv3⟩ := rngS_nI c13
    refine lv_iload_n hx hb dX1_addRoller_16 rfl (lv_at hl 2 rfl) ?_
    refine lv_i2l hx hb dX1_addRoller_17 rfl ?_
    refine lv_lconst (v := lN 1) hx hb dX1_addRoller_18 (by decide) ?_
    refine lv_ldc2 hx hb C0.2.2.2.1 kl64 dX1_addRoller_19 ?_
    refine rc_Ni (rest := []) C0 FX hH (k_X5_within_rng l X ad hi _ p1 1 1000 (by omega) (by omega)) ⟨va_cnB 3 C0.2.2.2.2 gX1_addRoller_X5_within_n34 rfl rfl rfl (FX.1.2 (RX1, 34, yX5_within) (by decide +kernel)) (C0.2.2.2.2 (.initialized RX5) (by decide +kernel)) (by decide +kernel) ⟨Nat.le_of_ble_eq_true rfl, Nat.le_of_ble_eq_true rfl⟩, C0.2.2.2.2 (.static yX5_within) (by decide +kernel), trivial⟩ rfl rfl hl.1 (Nat.le_of_ble_eq_true rfl) dX1_addRoller_22 ⟨Nat.le_of_ble_eq_true rfl, Nat.le_of_ble_eq_true rfl⟩ (fun r22 g22c H locs h22 hH => ?_)
    obtain ⟨e22, rfl⟩ := h22
    rw [e22] at hH
    refine rb_ne hx hb 31 dX1_addRoller_25 (by decide) (fun c25 => ?_) (fun c25 => ?_)
    · obtain ⟨rv, rfl, rv1, rv2, rv3⟩ := rng_nI c25
      have fr : ∀ j, j ≠ 4 + 2 * mv → j ≠ 5 + 2 * mv → g j = g j := fun j _ _ => rfl
      refine lv_aload_n hx hb dX1_addRoller_31 rfl (lv_at hl 0 rfl) ?_
      refine rp_get C0 FX hH 1 (by decide) (ci := 1) (k := 3) f1 rfl kiX1 (by decide) kf20 rfl dX1_addRoller_32 ?_
      refine lv_iload_n hx hb dX1_addRoller_35 rfl (lv_at hl 1 rfl) ?_
      refine rp_aald C0 FX hH 2 1 (by decide) f2 rfl mv (ad (4 + 2 * mv)) (by omega) (by decide) (hfm _ (by omega)) dX1_addRoller_36 ?_
      refine lv_astore_n (lv' := [(3, .ref (ad (4 + 2 * mv))), (0, .ref (ad 1)), (1, .int (nI mv)), (2, .int (nI rv))]) hx hb dX1_addRoller_37 rfl hl (by decide) rfl (fun ls hl => ?_)
      refine lv_aload_n hx hb dX1_addRoller_38 rfl (lv_at hl 0 rfl) ?_
      have ymo39 : g (4 + 2 * mv) = .inr (2, [.int (nI (mc mv 0)), .int (nI (mc mv 1)), .int (nI (mc mv 2)), .int (nI (mc mv 3)), .int (nI (mc mv 4)), .ref (ad (5 + 2 * mv))]) := mFam_at hM h6 hrel _ (by omega)
      have ho39 := (hmk mv (by omega)).1
      obtain ⟨⟨p39a, p39b⟩, ⟨p39c, p39d⟩, ⟨p39e, p39f⟩, p39g, p39h⟩ := id ho39
      refine rp_get C0 FX hH (4 + 2 * mv) (by omega) (ci := 2) (k := 4) ymo39 rfl kiX2 (by decide) kf61 rfl dX1_addRoller_39 ?_
      refine lv_iconst (v := nI 3) hx hb dX1_addRoller_42 (by decide) ?_
      refine ni_clt hx hb 49 dX1_addRoller_43 (by decide) (by omega) (by omega) (fun c43 => ?_) (fun c43 => ?_)
      · refine lv_aload_n hx hb dX1_addRoller_49 rfl (lv_at hl 0 rfl) ?_
        refine rp_get C0 FX hH (4 + 2 * mv) (by omega) (ci := 2) (k := 5) ymo39 rfl kiX2 (by decide) kf66 rfl dX1_addRoller_50 ?_
        refine lv_aload_n hx hb dX1_addRoller_53 rfl (lv_at hl 0 rfl) ?_
        refine rp_get C0 FX hH (4 + 2 * mv) (by omega) (ci := 2) (k := 4) ymo39 rfl kiX2 (by decide) kf61 rfl dX1_addRoller_54 ?_
        refine lv_iload_n hx hb dX1_addRoller_57 rfl (lv_at hl 3 rfl) ?_
        have ymr58 : g (5 + 2 * mv) = arr X 3 (hr mv) := (hM _ (by omega)).2
        refine rp_iast C0 FX hH (5 + 2 * mv) (by omega) ymr58 (mc mv 4) rv (by omega) (by decide) dX1_addRoller_58 (fun g1 H locs eq2 nq2 hH => ?_)
        have ymr58 : g1 (5 + 2 * mv) = arr X 3 (va_up (hr mv) (mc mv 4) rv) := eq2
        have f1 : g1 1 = .inr (1, [.int (nI nm), .int (nI fa), .int (nI fb), .ref (ad 2), .ref (ad 3)]) := (nq2 _ (by omega)).trans f1
        have f2 : g1 2 = orr X.2.2.1 6 fm := (nq2 _ (by omega)).trans f2
        have f3 : g1 3 = .inr (0, [.long (lN A), .long (lN B)]) := (nq2 _ (by omega)).trans f3
        have ymo39 : g1 (4 + 2 * mv) = .inr (2, [.int (nI (mc mv 0)), .int (nI (mc mv 1)), .int (nI (mc mv 2)), .int (nI (mc mv 3)), .int (nI (mc mv 4)), .ref (ad (5 + 2 * mv))]) := (nq2 _ (by omega)).trans ymo39
        have fr : ∀ j, j ≠ (4 + 2 * mv) → j ≠ (5 + 2 * mv) → g1 j = g j := fun j a0 a1 => (nq2 j (by omega)).trans (fr j a0 a1)
        refine lv_aload_n hx hb dX1_addRoller_59 rfl (lv_at hl 0 rfl) ?_
        refine lv_dup hx hb dX1_addRoller_60 rfl ?_
        refine rp_get C0 FX hH (4 + 2 * mv) (by omega) (ci := 2) (k := 4) ymo39 rfl kiX2 (by decide) kf61 rfl dX1_addRoller_61 ?_
        refine lv_iconst (v := nI 1) hx hb dX1_addRoller_64 (by decide) ?_
        refine ni_iadd hx hb dX1_addRoller_65 ?_
        refine rp_put C0 FX hH (4 + 2 * mv) (by omega) (ci := 2) (k := 4) tyX2 tyX2_ok nmX2 ymo39 rfl kiX2 (by decide) kf61 rfl rfl rfl (Nat.le_of_ble_eq_true rfl) dX1_addRoller_66 (fun g3 H locs eq4 nq4 hH => ?_)
        have ymo39 : g3 (4 + 2 * mv) = .inr (2, [.int (nI (mc mv 0)), .int (nI (mc mv 1)), .int (nI (mc mv 2)), .int (nI (mc mv 3)), .int (nI ((mc mv 4) + 1)), .ref (ad (5 + 2 * mv))]) := eq4
        have f1 : g3 1 = .inr (1, [.int (nI nm), .int (nI fa), .int (nI fb), .ref (ad 2), .ref (ad 3)]) := (nq4 _ (by omega)).trans f1
        have f2 : g3 2 = orr X.2.2.1 6 fm := (nq4 _ (by omega)).trans f2
        have f3 : g3 3 = .inr (0, [.long (lN A), .long (lN B)]) := (nq4 _ (by omega)).trans f3
        have ymr58 : g3 (5 + 2 * mv) = arr X 3 (va_up (hr mv) (mc mv 4) rv) := (nq4 _ (by omega)).trans ymr58
        have fr : ∀ j, j ≠ (4 + 2 * mv) → j ≠ (5 + 2 * mv) → g3 j = g j := fun j a0 a1 => (nq4 j (by omega)).trans (fr j a0 a1)
        refine lv_aload_n hx hb dX1_addRoller_69 rfl (lv_at hl 0 rfl) ?_
        refine rp_get C0 FX hH (4 + 2 * mv) (by omega) (ci := 2) (k := 4) ymo39 rfl kiX2 (by decide) kf61 rfl dX1_addRoller_70 ?_
        refine lv_iconst (v := nI 1) hx hb dX1_addRoller_73 (by decide) ?_
        refine ni_isub hx hb (by omega) dX1_addRoller_74 ?_
        refine RET _ _ _ _ _ _ dX1_addRoller_75 rfl ?_ hH
        have hsm : mc mv 4 + 1 - 1 = mc mv 4 := by omega
        rw [hsm]
        refine postL (by unfold sp_roller; rw [if_pos ⟨(rngS_iff (by omega)).mpr mv1, (rng_iff (by omega)).mpr (by omega)⟩, tN_nI (by omega), tN_nI (by omega), if_neg (by show ¬ 3 ≤ mc mv 4; omega)]) ⟨va_up hm mv (va_up (mc mv) 4 (mc mv 4 + 1)), va_up hr mv (va_up (hr mv) (mc mv 4) rv), _, _, fm, f1, f2, hfm, f3, ?_, ?_, ?_, ?_⟩ (fun j h => fr j (by omega) (by omega))
        · intro j hj
          by_cases q : j = mv
          · subst q; refine ⟨?_, ?_⟩
            · rw [va_up_self]; exact ymo39
            · rw [va_up_self]; exact ymr58
          · rw [va_up_ne _ _ q, va_up_ne _ _ q]; exact ⟨(fr _ (by omega) (by omega)).trans (hM _ hj).1, (fr _ (by omega) (by omega)).trans (hM _ hj).2⟩
        · intro j hj i hi5
          show va_up hm mv (va_up (mc mv) 4 (mc mv 4 + 1)) j i = va_up mc mv (va_up (mc mv) 4 (mc mv 4 + 1)) j i
          by_cases q : j = mv
          · subst q; rw [va_up_self, va_up_self]
          · rw [va_up_ne _ _ q, va_up_ne _ _ q]; exact hrel j hj i hi5
        · intro j hj r hr4
          have hr4 : r < va_up mc mv (va_up (mc mv) 4 (mc mv 4 + 1)) j 4 := hr4
          show va_up hr mv (va_up (hr mv) (mc mv 4) rv) j r = va_up rd mv (va_up (rd mv) (mc mv 4) rv) j r
          by_cases q : j = mv
          · subst q; rw [va_up_self, va_up_self] at hr4; rw [va_up_self, va_up_self]
            by_cases q2 : r = mc j 4
            · rw [q2, va_up_self, va_up_self]
            · rw [va_up_ne _ _ q2, va_up_ne _ _ q2]; exact hrr j hj r (by omega)
          · rw [va_up_ne _ _ q] at hr4; rw [va_up_ne _ _ q, va_up_ne _ _ q]; exact hrr j hj r hr4
        · refine ⟨h6, hfa, hfb, fun j hj => ?_⟩
          show mcOk (va_up mc mv (va_up (mc mv) 4 (mc mv 4 + 1)) j) ∧ ∀ r, r < va_up mc mv (va_up (mc mv) 4 (mc mv 4 + 1)) j 4 → 1 ≤ va_up rd mv (va_up (rd mv) (mc mv 4) rv) j r ∧ va_up rd mv (va_up (rd mv) (mc mv 4) rv) j r ≤ 1000
          by_cases q : j = mv
          · subst q; rw [va_up_self, va_up_self, va_up_self]
            obtain ⟨o0, o1, o2, o3, o4⟩ := (hmk j hj).1
            refine ⟨⟨o0, o1, o2, o3, by rw [va_up_self]; omega⟩, fun r hr4 => ?_⟩
            by_cases q2 : r = mc j 4
            · rw [q2, va_up_self]; exact ⟨rv1, rv2⟩
            · rw [va_up_ne _ _ q2]; exact (hmk j hj).2 r (by omega)
          · rw [va_up_ne _ _ q, va_up_ne _ _ q]; exact hmk j hj
      · refine lv_bipush (v := (-4)) hx hb dX1_addRoller_46 (by decide) ?_
        refine RET _ _ _ _ _ _ dX1_addRoller_48 rfl ?_ hH
        exact postL (by unfold sp_roller; rw [if_pos ⟨(rngS_iff (by omega)).mpr mv1, (rng_iff (by omega)).mpr (by omega)⟩, tN_nI (by omega), if_pos (by show 3 ≤ mc mv 4; omega)]) ⟨hm, hr, _, _, fm, f1, f2, hfm, f3, hM, hrel, hrr, hok⟩ (fun j _ => rfl)
    · refine lv_bipush (v := (-2)) hx hb dX1_addRoller_28 (by decide) ?_
      refine RET _ _ _ _ _ _ dX1_addRoller_30 rfl ?_ hH
      exact postL (by unfold sp_roller; rw [if_neg (fun z => by first | exact absurd z.1 (by assumption) | exact absurd z.2 (by assumption))]) ⟨hm, hr, _, _, fm, f1, f2, hfm, f3, hM, hrel, hrr, hok⟩ (fun j _ => rfl)
