set_option maxHeartbeats 4000000 in
set_option maxRecDepth 100000 in
theorem k_X6_bale (l : Launch) (X : Cx) (ad : Nat → Nat) (hi : inj 48 ad) (g : PF) (nm fa fb : Nat) (mc rd : Nat → Nat → Nat) (nr : Nat → Nat) (ar : Nat → Nat → Nat) (nb : Nat) (num : Nat → Nat) (lay pev : Nat) (pln : Nat → Nat) (tr : Nat) (hR : rMod X ad ((nm, fa, fb, mc, rd), nr, ar, (nb, num, lay, pev, pln, tr)) g) (p0 : Int32) : Ki l yX6_bale wsX6_bale zr1 X 48 ad g [.ref (ad 36), .int p0] (fun r g' => r = (storeOp (sp_bale p0) ((nm, fa, fb, mc, rd), nr, ar, (nb, num, lay, pev, pln, tr))).1 ∧ rMod X ad (storeOp (sp_bale p0) ((nm, fa, fb, mc, rd), nr, ar, (nb, num, lay, pev, pln, tr))).2 g' ∧ frM g g') := by
  refine Ki.of (cc := cX6_bale) (maxL := 2) hi (by decide) rfl (Nat.le_of_ble_eq_true rfl) ?_
  intro p e s m below meth c Q E RET ls hl
  obtain ⟨C0, FX, hH⟩ := E
  have hx := C0.1
  have hb := C0.2.1
  have kl50 := C0.2.2.2.2 (.constantLong RX6 50 (lN 10000)) (by decide +kernel)
  have kiX6 : ∀ w ∈ u_ws RX6 TX6 18, w ∈ wsX6_bale := (by decide +kernel)
  have kf149 : Cond.fieldLink RX6 149 "YarnMillModel" "bales" "I" ∈ wsX6_bale := (by decide +kernel)
  have kf152 : Cond.fieldLink RX6 152 "YarnMillModel" "laydowns" "I" ∈ wsX6_bale := (by decide +kernel)
  have kf44 : Cond.fieldLink RX6 44 "YarnMillModel" "number" "[I" ∈ wsX6_bale := (by decide +kernel)
  have hl : lv_has ls 2 [(0, .ref (ad 36)), (1, .int p0)] := hl
  have fr : ∀ j, (j < 36) → g j = g j := fun j _ => rfl
  obtain ⟨md, ma, mb, ml, mr, mo, cn, ms, fs, nn, pl, pm, f36, f37, f38, f39, f40, f41, f42, f43, f44, f45, f46, f47, hrL, hrR, hrS, hlok, hrok, hsok, hpm⟩ := hR
  have f36 : g 36 = .inr (6, [.int (nI fa), .int (nI fb), .int (nI nm), .ref (ad 37), .ref (ad 38), .ref (ad 39), .ref (ad 40), .ref (ad 41), .ref (ad 42), .ref (ad 43), .ref (ad 44), .ref (ad 45), .int (nI nb), .ref (ad 46), .int (nI lay), .int (nI pm), .ref (ad 47), .int (nI tr)]) := f36
  have hq37 : ∀ j, j < nm → md j = mc j 0 := fun j hj => (hrL.1 j hj).1
  have hq38 : ∀ j, j < nm → ma j = mc j 1 := fun j hj => (hrL.1 j hj).2.1
  have hq39 : ∀ j, j < nm → mb j = mc j 2 := fun j hj => (hrL.1 j hj).2.2.1
  have hq40 : ∀ j, j < nm → ml j = mc j 3 := fun j hj => (hrL.1 j hj).2.2.2.1
  have hq41 : ∀ j, j < nm → mr j = mc j 4 := fun j hj => (hrL.1 j hj).2.2.2.2
  have hmo : ∀ j, j < nm → ∀ r, r < mc j 4 → mo (3 * j + r) = rd j r := hrL.2
  have h6 : nm ≤ 6 := hlok.1
  have hfa : 1 ≤ fa ∧ fa ≤ 10000 := hlok.2.1
  have hfb : 1 ≤ fb ∧ fb ≤ 10000 := hlok.2.2.1
  have hmk : ∀ j, j < nm → mcOk (mc j) ∧ ∀ r, r < mc j 4 → 1 ≤ rd j r ∧ rd j r ≤ 1000 := hlok.2.2.2
  have hcn : ∀ r, r < 8 → cn r = nr r := hrR.1
  have hms : ∀ r, r < 8 → ∀ j, j < nr r → ms (400 * r + j) = ar r j := hrR.2
  have hro : ∀ r, r < 8 → nr r ≤ 400 ∧ ∀ j, j < nr r → ar r j ≤ 1000000 := hrok
  have hnn : ∀ j, j < nb → nn j = num j := hrS.1
  have hper : 0 < lay → pm = pev := hrS.2.1
  have hpl : ∀ j, j < lay * pev → pl j = pln j := hrS.2.2
  obtain ⟨k1, k2, k3, k4, k5, k6, k7⟩ := id hsok
  have k1 : nb ≤ 12 := k1
  have k2 : ∀ j, j < nb → num j ≤ 10000 := k2
  have k3 : 0 < lay → (1 ≤ pev ∧ pev ≤ 6) := k3
  have k4 : lay * pev ≤ 12 := k4
  have k5 : ∀ j, j < lay * pev → pln j ≤ 12 := k5
  have k6 : tr ≤ 100000 := k6
  have k7 : lay ≤ 12 := k7
  refine lv_iload_n hx hb dX6_bale_0 rfl (lv_at hl 1 rfl) ?_
  refine lv_i2l hx hb dX6_bale_1 rfl ?_
  refine lv_lconst (v := lN 0) hx hb dX6_bale_2 (by decide) ?_
  refine lv_ldc2 hx hb C0.2.2.2.1 kl50 dX6_bale_3 ?_
  refine rc_Si (rest := []) C0 FX hH (k_X6_in_rng l X ad hi _ p0 0 10000 (by omega) (by omega)) (va_cwS 3 C0.2.2.2.2 gX6_bale_X6_in rfl rfl rfl (by decide +kernel) ⟨Nat.le_of_ble_eq_true rfl, Nat.le_of_ble_eq_true rfl⟩) rfl rfl hl.1 (Nat.le_of_ble_eq_true rfl) dX6_bale_6 ⟨Nat.le_of_ble_eq_true rfl, Nat.le_of_ble_eq_true rfl⟩ (fun r6 g6c H locs h6 hH => ?_)
  obtain ⟨e6, rfl⟩ := h6
  rw [e6] at hH
  refine rb_ne hx hb 15 dX6_bale_9 (by decide) (fun c9 => ?_) (fun c9 => ?_)
  · obtain ⟨v, rfl, v1, v2, v3⟩ := rng_nI c9
    refine lv_aload_n hx hb dX6_bale_15 rfl (lv_at hl 0 rfl) ?_
    refine rp_get C0 FX hH 36 (by decide) (ci := 6) (k := 12) f36 rfl kiX6 (by decide) kf149 rfl dX6_bale_16 ?_
    refine lv_bipush (v := nI 12) hx hb dX6_bale_19 (by decide) ?_
    refine ni_cne hx hb 27 dX6_bale_21 (by decide) (by omega) (by omega) (fun c21 => ?_) (fun c21 => ?_)
    · refine lv_aload_n hx hb dX6_bale_27 rfl (lv_at hl 0 rfl) ?_
      refine rp_get C0 FX hH 36 (by decide) (ci := 6) (k := 13) f36 rfl kiX6 (by decide) kf44 rfl dX6_bale_28 ?_
      refine lv_aload_n hx hb dX6_bale_31 rfl (lv_at hl 0 rfl) ?_
      refine rp_get C0 FX hH 36 (by decide) (ci := 6) (k := 12) f36 rfl kiX6 (by decide) kf149 rfl dX6_bale_32 ?_
      refine lv_iload_n hx hb dX6_bale_35 rfl (lv_at hl 1 rfl) ?_
      refine rp_iast C0 FX hH 46 (by decide) f46 nb v (by omega) (by decide) dX6_bale_36 (fun g1 H locs eq2 nq2 hH => ?_)
      have f46 : g1 46 = arr X 12 (va_up nn nb v) := eq2
      have f36 : g1 36 = .inr (6, [.int (nI fa), .int (nI fb), .int (nI nm), .ref (ad 37), .ref (ad 38), .ref (ad 39), .ref (ad 40), .ref (ad 41), .ref (ad 42), .ref (ad 43), .ref (ad 44), .ref (ad 45), .int (nI nb), .ref (ad 46), .int (nI lay), .int (nI pm), .ref (ad 47), .int (nI tr)]) := (nq2 _ (by omega)).trans f36
      have f37 : g1 37 = arr X 6 md := (nq2 _ (by omega)).trans f37
      have f38 : g1 38 = arr X 6 ma := (nq2 _ (by omega)).trans f38
      have f39 : g1 39 = arr X 6 mb := (nq2 _ (by omega)).trans f39
      have f40 : g1 40 = arr X 6 ml := (nq2 _ (by omega)).trans f40
      have f41 : g1 41 = arr X 6 mr := (nq2 _ (by omega)).trans f41
      have f42 : g1 42 = arr X 18 mo := (nq2 _ (by omega)).trans f42
      have f43 : g1 43 = arr X 8 cn := (nq2 _ (by omega)).trans f43
      have f44 : g1 44 = arr X 3200 ms := (nq2 _ (by omega)).trans f44
      have f45 : g1 45 = arr X 400 fs := (nq2 _ (by omega)).trans f45
      have f47 : g1 47 = arr X 12 pl := (nq2 _ (by omega)).trans f47
      have fr : ∀ j, (j < 36) → g1 j = g j := fun j a0 => (nq2 j (by omega)).trans (fr j a0)
      refine lv_aload_n hx hb dX6_bale_37 rfl (lv_at hl 0 rfl) ?_
      refine lv_dup hx hb dX6_bale_38 rfl ?_
      refine rp_get C0 FX hH 36 (by decide) (ci := 6) (k := 12) f36 rfl kiX6 (by decide) kf149 rfl dX6_bale_39 ?_
      refine lv_iconst (v := nI 1) hx hb dX6_bale_42 (by decide) ?_
      refine ni_iadd hx hb dX6_bale_43 ?_
      refine rp_put C0 FX hH 36 (by decide) (ci := 6) (k := 12) tyX6 tyX6_ok nmX6 f36 rfl kiX6 (by decide) kf149 rfl rfl rfl (Nat.le_of_ble_eq_true rfl) dX6_bale_44 (fun g3 H locs eq4 nq4 hH => ?_)
      have f36 : g3 36 = .inr (6, [.int (nI fa), .int (nI fb), .int (nI nm), .ref (ad 37), .ref (ad 38), .ref (ad 39), .ref (ad 40), .ref (ad 41), .ref (ad 42), .ref (ad 43), .ref (ad 44), .ref (ad 45), .int (nI (nb + 1)), .ref (ad 46), .int (nI lay), .int (nI pm), .ref (ad 47), .int (nI tr)]) := eq4
      have f37 : g3 37 = arr X 6 md := (nq4 _ (by omega)).trans f37
      have f38 : g3 38 = arr X 6 ma := (nq4 _ (by omega)).trans f38
      have f39 : g3 39 = arr X 6 mb := (nq4 _ (by omega)).trans f39
      have f40 : g3 40 = arr X 6 ml := (nq4 _ (by omega)).trans f40
      have f41 : g3 41 = arr X 6 mr := (nq4 _ (by omega)).trans f41
      have f42 : g3 42 = arr X 18 mo := (nq4 _ (by omega)).trans f42
      have f43 : g3 43 = arr X 8 cn := (nq4 _ (by omega)).trans f43
      have f44 : g3 44 = arr X 3200 ms := (nq4 _ (by omega)).trans f44
      have f45 : g3 45 = arr X 400 fs := (nq4 _ (by omega)).trans f45
      have f46 : g3 46 = arr X 12 (va_up nn nb v) := (nq4 _ (by omega)).trans f46
      have f47 : g3 47 = arr X 12 pl := (nq4 _ (by omega)).trans f47
      have fr : ∀ j, (j < 36) → g3 j = g j := fun j a0 => (nq4 j (by omega)).trans (fr j a0)
      refine lv_aload_n hx hb dX6_bale_47 rfl (lv_at hl 0 rfl) ?_
      refine lv_iconst (v := nI 0) hx hb dX6_bale_48 (by decide) ?_
      refine rp_put C0 FX hH 36 (by decide) (ci := 6) (k := 14) tyX6 tyX6_ok nmX6 f36 rfl kiX6 (by decide) kf152 rfl rfl rfl (Nat.le_of_ble_eq_true rfl) dX6_bale_49 (fun g5 H locs eq6 nq6 hH => ?_)
      have f36 : g5 36 = .inr (6, [.int (nI fa), .int (nI fb), .int (nI nm), .ref (ad 37), .ref (ad 38), .ref (ad 39), .ref (ad 40), .ref (ad 41), .ref (ad 42), .ref (ad 43), .ref (ad 44), .ref (ad 45), .int (nI (nb + 1)), .ref (ad 46), .int (nI 0), .int (nI pm), .ref (ad 47), .int (nI tr)]) := eq6
      have f37 : g5 37 = arr X 6 md := (nq6 _ (by omega)).trans f37
      have f38 : g5 38 = arr X 6 ma := (nq6 _ (by omega)).trans f38
      have f39 : g5 39 = arr X 6 mb := (nq6 _ (by omega)).trans f39
      have f40 : g5 40 = arr X 6 ml := (nq6 _ (by omega)).trans f40
      have f41 : g5 41 = arr X 6 mr := (nq6 _ (by omega)).trans f41
      have f42 : g5 42 = arr X 18 mo := (nq6 _ (by omega)).trans f42
      have f43 : g5 43 = arr X 8 cn := (nq6 _ (by omega)).trans f43
      have f44 : g5 44 = arr X 3200 ms := (nq6 _ (by omega)).trans f44
      have f45 : g5 45 = arr X 400 fs := (nq6 _ (by omega)).trans f45
      have f46 : g5 46 = arr X 12 (va_up nn nb v) := (nq6 _ (by omega)).trans f46
      have f47 : g5 47 = arr X 12 pl := (nq6 _ (by omega)).trans f47
      have fr : ∀ j, (j < 36) → g5 j = g j := fun j a0 => (nq6 j (by omega)).trans (fr j a0)
      refine lv_aload_n hx hb dX6_bale_52 rfl (lv_at hl 0 rfl) ?_
      refine rp_get C0 FX hH 36 (by decide) (ci := 6) (k := 12) f36 rfl kiX6 (by decide) kf149 rfl dX6_bale_53 ?_
      refine lv_iconst (v := nI 1) hx hb dX6_bale_56 (by decide) ?_
      refine ni_isub hx hb (by omega) dX6_bale_57 ?_
      refine RET _ _ _ _ _ _ dX6_bale_58 rfl ?_ hH
      rw [show nb + 1 - 1 = nb by omega]
      refine postM (C' := ((nm, fa, fb, mc, rd), nr, ar, (nb + 1, va_up num nb v, 0, pev, pln, tr))) (by unfold storeOp sp_bale; rw [if_pos ((rng_iff (by omega)).mpr (by omega)), if_neg (by show ¬ 12 ≤ nb; omega), tN_nI (by omega)]) ⟨_, _, _, _, _, _, _, _, _, _, _, _, f36, f37, f38, f39, f40, f41, f42, f43, f44, f45, f46, f47, hrL, hrR, ⟨up_lt hnn, fun h => absurd h (Nat.lt_irrefl 0), fun j h => absurd h (by rw [Nat.zero_mul]; exact Nat.not_lt_zero _)⟩, hlok, hrok, ⟨by show nb + 1 ≤ 12; omega, ?_, fun h => absurd h (Nat.lt_irrefl 0), by show 0 * pev ≤ 12; omega, fun j h => absurd h (by rw [Nat.zero_mul]; exact Nat.not_lt_zero _), k6, Nat.zero_le _⟩, hpm⟩ fr
      intro j hj
      have hj : j < nb + 1 := hj
      show va_up num nb v j ≤ 10000
      by_cases q : j = nb
      · rw [q, va_up_self]; omega
      · rw [va_up_ne _ _ q]; exact k2 j (by omega)
    · refine lv_bipush (v := (-4)) hx hb dX6_bale_24 (by decide) ?_
      refine RET _ _ _ _ _ _ dX6_bale_26 rfl ?_ hH
      exact postM (by unfold storeOp sp_bale; rw [if_pos ((rng_iff (by omega)).mpr (by omega)), if_pos (by show 12 ≤ nb; omega)]) ⟨_, _, _, _, _, _, _, _, _, _, _, _, f36, f37, f38, f39, f40, f41, f42, f43, f44, f45, f46, f47, hrL, hrR, hrS, hlok, hrok, hsok, hpm⟩ fr
  · refine lv_bipush (v := (-2)) hx hb dX6_bale_12 (by decide) ?_
    refine RET _ _ _ _ _ _ dX6_bale_14 rfl ?_ hH
    exact postM (by unfold storeOp sp_bale; rw [if_neg c9]) ⟨_, _, _, _, _, _, _, _, _, _, _, _, f36, f37, f38, f39, f40, f41, f42, f43, f44, f45, f46, f47, hrL, hrR, hrS, hlok, hrok, hsok, hpm⟩ fr
set_option maxHeartbeats 4000000 in
set_option maxRecDepth 100000 in
theorem k_X6_clearBales (l : Launch) (X : Cx) (ad : Nat → Nat) (hi : inj 48 ad) (g : PF) (nm fa fb : Nat) (mc rd : Nat → Nat → Nat) (nr : Nat → Nat) (ar : Nat → Nat → Nat) (nb : Nat) (num : Nat → Nat) (lay pev : Nat) (pln : Nat → Nat) (tr : Nat) (hR : rMod X ad ((nm, fa, fb, mc, rd), nr, ar, (nb, num, lay, pev, pln, tr)) g)  : Ki l yX6_clearBales wsX6_clearBales zr0 X 48 ad g [.ref (ad 36)] (fun r g' => r = (storeOp (sp_clearBales) ((nm, fa, fb, mc, rd), nr, ar, (nb, num, lay, pev, pln, tr))).1 ∧ rMod X ad (storeOp (sp_clearBales) ((nm, fa, fb, mc, rd), nr, ar, (nb, num, lay, pev, pln, tr))).2 g' ∧ frM g g') := by
  refine Ki.of (cc := cX6_clearBales) (maxL := 2) hi (by decide) rfl (Nat.le_of_ble_eq_true rfl) ?_
  intro p e s m below meth c Q E RET ls hl
  obtain ⟨C0, FX, hH⟩ := E
  have hx := C0.1
  have hb := C0.2.1
  have kiX6 : ∀ w ∈ u_ws RX6 TX6 18, w ∈ wsX6_clearBales := (by decide +kernel)
  have kf149 : Cond.fieldLink RX6 149 "YarnMillModel" "bales" "I" ∈ wsX6_clearBales := (by decide +kernel)
  have kf152 : Cond.fieldLink RX6 152 "YarnMillModel" "laydowns" "I" ∈ wsX6_clearBales := (by decide +kernel)
  have hl : lv_has ls 2 [(0, .ref (ad 36))] := hl
  have fr : ∀ j, (j < 36) → g j = g j := fun j _ => rfl
  obtain ⟨md, ma, mb, ml, mr, mo, cn, ms, fs, nn, pl, pm, f36, f37, f38, f39, f40, f41, f42, f43, f44, f45, f46, f47, hrL, hrR, hrS, hlok, hrok, hsok, hpm⟩ := hR
  have f36 : g 36 = .inr (6, [.int (nI fa), .int (nI fb), .int (nI nm), .ref (ad 37), .ref (ad 38), .ref (ad 39), .ref (ad 40), .ref (ad 41), .ref (ad 42), .ref (ad 43), .ref (ad 44), .ref (ad 45), .int (nI nb), .ref (ad 46), .int (nI lay), .int (nI pm), .ref (ad 47), .int (nI tr)]) := f36
  have hq37 : ∀ j, j < nm → md j = mc j 0 := fun j hj => (hrL.1 j hj).1
  have hq38 : ∀ j, j < nm → ma j = mc j 1 := fun j hj => (hrL.1 j hj).2.1
  have hq39 : ∀ j, j < nm → mb j = mc j 2 := fun j hj => (hrL.1 j hj).2.2.1
  have hq40 : ∀ j, j < nm → ml j = mc j 3 := fun j hj => (hrL.1 j hj).2.2.2.1
  have hq41 : ∀ j, j < nm → mr j = mc j 4 := fun j hj => (hrL.1 j hj).2.2.2.2
  have hmo : ∀ j, j < nm → ∀ r, r < mc j 4 → mo (3 * j + r) = rd j r := hrL.2
  have h6 : nm ≤ 6 := hlok.1
  have hfa : 1 ≤ fa ∧ fa ≤ 10000 := hlok.2.1
  have hfb : 1 ≤ fb ∧ fb ≤ 10000 := hlok.2.2.1
  have hmk : ∀ j, j < nm → mcOk (mc j) ∧ ∀ r, r < mc j 4 → 1 ≤ rd j r ∧ rd j r ≤ 1000 := hlok.2.2.2
  have hcn : ∀ r, r < 8 → cn r = nr r := hrR.1
  have hms : ∀ r, r < 8 → ∀ j, j < nr r → ms (400 * r + j) = ar r j := hrR.2
  have hro : ∀ r, r < 8 → nr r ≤ 400 ∧ ∀ j, j < nr r → ar r j ≤ 1000000 := hrok
  have hnn : ∀ j, j < nb → nn j = num j := hrS.1
  have hper : 0 < lay → pm = pev := hrS.2.1
  have hpl : ∀ j, j < lay * pev → pl j = pln j := hrS.2.2
  obtain ⟨k1, k2, k3, k4, k5, k6, k7⟩ := id hsok
  have k1 : nb ≤ 12 := k1
  have k2 : ∀ j, j < nb → num j ≤ 10000 := k2
  have k3 : 0 < lay → (1 ≤ pev ∧ pev ≤ 6) := k3
  have k4 : lay * pev ≤ 12 := k4
  have k5 : ∀ j, j < lay * pev → pln j ≤ 12 := k5
  have k6 : tr ≤ 100000 := k6
  have k7 : lay ≤ 12 := k7
  refine lv_aload_n hx hb dX6_clearBales_0 rfl (lv_at hl 0 rfl) ?_
  refine rp_get C0 FX hH 36 (by decide) (ci := 6) (k := 12) f36 rfl kiX6 (by decide) kf149 rfl dX6_clearBales_1 ?_
  refine lv_istore_n (lv' := [(1, .int (nI nb)), (0, .ref (ad 36))]) hx hb dX6_clearBales_4 rfl hl (by decide) rfl (fun ls hl => ?_)
  refine lv_aload_n hx hb dX6_clearBales_5 rfl (lv_at hl 1 rfl) ?_
  refine lv_iconst (v := nI 0) hx hb dX6_clearBales_6 (by decide) ?_
  refine rp_put C0 FX hH 36 (by decide) (ci := 6) (k := 12) tyX6 tyX6_ok nmX6 f36 rfl kiX6 (by decide) kf149 rfl rfl rfl (Nat.le_of_ble_eq_true rfl) dX6_clearBales_7 (fun g1 H locs eq2 nq2 hH => ?_)
  have f36 : g1 36 = .inr (6, [.int (nI fa), .int (nI fb), .int (nI nm), .ref (ad 37), .ref (ad 38), .ref (ad 39), .ref (ad 40), .ref (ad 41), .ref (ad 42), .ref (ad 43), .ref (ad 44), .ref (ad 45), .int (nI 0), .ref (ad 46), .int (nI lay), .int (nI pm), .ref (ad 47), .int (nI tr)]) := eq2
  have f37 : g1 37 = arr X 6 md := (nq2 _ (by omega)).trans f37
  have f38 : g1 38 = arr X 6 ma := (nq2 _ (by omega)).trans f38
  have f39 : g1 39 = arr X 6 mb := (nq2 _ (by omega)).trans f39
  have f40 : g1 40 = arr X 6 ml := (nq2 _ (by omega)).trans f40
  have f41 : g1 41 = arr X 6 mr := (nq2 _ (by omega)).trans f41
  have f42 : g1 42 = arr X 18 mo := (nq2 _ (by omega)).trans f42
  have f43 : g1 43 = arr X 8 cn := (nq2 _ (by omega)).trans f43
  have f44 : g1 44 = arr X 3200 ms := (nq2 _ (by omega)).trans f44
  have f45 : g1 45 = arr X 400 fs := (nq2 _ (by omega)).trans f45
  have f46 : g1 46 = arr X 12 nn := (nq2 _ (by omega)).trans f46
  have f47 : g1 47 = arr X 12 pl := (nq2 _ (by omega)).trans f47
  have fr : ∀ j, (j < 36) → g1 j = g j := fun j a0 => (nq2 j (by omega)).trans (fr j a0)
  refine lv_aload_n hx hb dX6_clearBales_10 rfl (lv_at hl 1 rfl) ?_
  refine lv_iconst (v := nI 0) hx hb dX6_clearBales_11 (by decide) ?_
  refine rp_put C0 FX hH 36 (by decide) (ci := 6) (k := 14) tyX6 tyX6_ok nmX6 f36 rfl kiX6 (by decide) kf152 rfl rfl rfl (Nat.le_of_ble_eq_true rfl) dX6_clearBales_12 (fun g3 H locs eq4 nq4 hH => ?_)
  have f36 : g3 36 = .inr (6, [.int (nI fa), .int (nI fb), .int (nI nm), .ref (ad 37), .ref (ad 38), .ref (ad 39), .ref (ad 40), .ref (ad 41), .ref (ad 42), .ref (ad 43), .ref (ad 44), .ref (ad 45), .int (nI 0), .ref (ad 46), .int (nI 0), .int (nI pm), .ref (ad 47), .int (nI tr)]) := eq4
  have f37 : g3 37 = arr X 6 md := (nq4 _ (by omega)).trans f37
  have f38 : g3 38 = arr X 6 ma := (nq4 _ (by omega)).trans f38
  have f39 : g3 39 = arr X 6 mb := (nq4 _ (by omega)).trans f39
  have f40 : g3 40 = arr X 6 ml := (nq4 _ (by omega)).trans f40
  have f41 : g3 41 = arr X 6 mr := (nq4 _ (by omega)).trans f41
  have f42 : g3 42 = arr X 18 mo := (nq4 _ (by omega)).trans f42
  have f43 : g3 43 = arr X 8 cn := (nq4 _ (by omega)).trans f43
  have f44 : g3 44 = arr X 3200 ms := (nq4 _ (by omega)).trans f44
  have f45 : g3 45 = arr X 400 fs := (nq4 _ (by omega)).trans f45
  have f46 : g3 46 = arr X 12 nn := (nq4 _ (by omega)).trans f46
  have f47 : g3 47 = arr X 12 pl := (nq4 _ (by omega)).trans f47
  have fr : ∀ j, (j < 36) → g3 j = g j := fun j a0 => (nq4 j (by omega)).trans (fr j a0)
  refine lv_iload_n hx hb dX6_clearBales_15 rfl (lv_at hl 0 rfl) ?_
  refine RET _ _ _ _ _ _ dX6_clearBales_16 rfl ?_ hH
  exact postM (C' := ((nm, fa, fb, mc, rd), nr, ar, (0, num, 0, pev, pln, tr))) rfl ⟨_, _, _, _, _, _, _, _, _, _, _, _, f36, f37, f38, f39, f40, f41, f42, f43, f44, f45, f46, f47, hrL, hrR, ⟨fun j h => absurd h (Nat.not_lt_zero _), fun h => absurd h (Nat.lt_irrefl 0), fun j h => absurd h (by rw [Nat.zero_mul]; exact Nat.not_lt_zero _)⟩, hlok, hrok, ⟨Nat.zero_le _, fun j h => absurd h (Nat.not_lt_zero _), fun h => absurd h (Nat.lt_irrefl 0), by show 0 * pev ≤ 12; omega, fun j h => absurd h (by rw [Nat.zero_mul]; exact Nat.not_lt_zero _), k6, Nat.zero_le _⟩, hpm⟩ fr
set_option maxHeartbeats 4000000 in
set_option maxRecDepth 100000 in
theorem k_X6_planAt (l : Launch) (X : Cx) (ad : Nat → Nat) (hi : inj 48 ad) (g : PF) (nm fa fb : Nat) (mc rd : Nat → Nat → Nat) (nr : Nat → Nat) (ar : Nat → Nat → Nat) (nb : Nat) (num : Nat → Nat) (lay pev : Nat) (pln : Nat → Nat) (tr : Nat) (hR : rMod X ad ((nm, fa, fb, mc, rd), nr, ar, (nb, num, lay, pev, pln, tr)) g) (p0 p1 : Int32) : Ki l yX6_planAt wsX6_planAt zr1 X 48 ad g [.ref (ad 36), .int p0, .int p1] (fun r g' => g' = g ∧ r = sp_planAt p0 p1 (nb, num, lay, pev, pln, tr)) := by
  refine Ki.of (cc := cX6_planAt) (maxL := 3) hi (by decide) rfl (Nat.le_of_ble_eq_true rfl) ?_
  intro p e s m below meth c Q E RET ls hl
  obtain ⟨C0, FX, hH⟩ := E
  have hx := C0.1
  have hb := C0.2.1
  have kiX6 : ∀ w ∈ u_ws RX6 TX6 18, w ∈ wsX6_planAt := (by decide +kernel)
  have kf152 : Cond.fieldLink RX6 152 "YarnMillModel" "laydowns" "I" ∈ wsX6_planAt := (by decide +kernel)
  have kf160 : Cond.fieldLink RX6 160 "YarnMillModel" "perLaydown" "I" ∈ wsX6_planAt := (by decide +kernel)
  have kf47 : Cond.fieldLink RX6 47 "YarnMillModel" "plan" "[I" ∈ wsX6_planAt := (by decide +kernel)
  have hl : lv_has ls 3 [(0, .ref (ad 36)), (1, .int p0), (2, .int p1)] := hl
  obtain ⟨md, ma, mb, ml, mr, mo, cn, ms, fs, nn, pl, pm, f36, f37, f38, f39, f40, f41, f42, f43, f44, f45, f46, f47, hrL, hrR, hrS, hlok, hrok, hsok, hpm⟩ := hR
  have f36 : g 36 = .inr (6, [.int (nI fa), .int (nI fb), .int (nI nm), .ref (ad 37), .ref (ad 38), .ref (ad 39), .ref (ad 40), .ref (ad 41), .ref (ad 42), .ref (ad 43), .ref (ad 44), .ref (ad 45), .int (nI nb), .ref (ad 46), .int (nI lay), .int (nI pm), .ref (ad 47), .int (nI tr)]) := f36
  have hq37 : ∀ j, j < nm → md j = mc j 0 := fun j hj => (hrL.1 j hj).1
  have hq38 : ∀ j, j < nm → ma j = mc j 1 := fun j hj => (hrL.1 j hj).2.1
  have hq39 : ∀ j, j < nm → mb j = mc j 2 := fun j hj => (hrL.1 j hj).2.2.1
  have hq40 : ∀ j, j < nm → ml j = mc j 3 := fun j hj => (hrL.1 j hj).2.2.2.1
  have hq41 : ∀ j, j < nm → mr j = mc j 4 := fun j hj => (hrL.1 j hj).2.2.2.2
  have hmo : ∀ j, j < nm → ∀ r, r < mc j 4 → mo (3 * j + r) = rd j r := hrL.2
  have h6 : nm ≤ 6 := hlok.1
  have hfa : 1 ≤ fa ∧ fa ≤ 10000 := hlok.2.1
  have hfb : 1 ≤ fb ∧ fb ≤ 10000 := hlok.2.2.1
  have hmk : ∀ j, j < nm → mcOk (mc j) ∧ ∀ r, r < mc j 4 → 1 ≤ rd j r ∧ rd j r ≤ 1000 := hlok.2.2.2
  have hcn : ∀ r, r < 8 → cn r = nr r := hrR.1
  have hms : ∀ r, r < 8 → ∀ j, j < nr r → ms (400 * r + j) = ar r j := hrR.2
  have hro : ∀ r, r < 8 → nr r ≤ 400 ∧ ∀ j, j < nr r → ar r j ≤ 1000000 := hrok
  have hnn : ∀ j, j < nb → nn j = num j := hrS.1
  have hper : 0 < lay → pm = pev := hrS.2.1
  have hpl : ∀ j, j < lay * pev → pl j = pln j := hrS.2.2
  obtain ⟨k1, k2, k3, k4, k5, k6, k7⟩ := id hsok
  have k1 : nb ≤ 12 := k1
  have k2 : ∀ j, j < nb → num j ≤ 10000 := k2
  have k3 : 0 < lay → (1 ≤ pev ∧ pev ≤ 6) := k3
  have k4 : lay * pev ≤ 12 := k4
  have k5 : ∀ j, j < lay * pev → pln j ≤ 12 := k5
  have k6 : tr ≤ 100000 := k6
  have k7 : lay ≤ 12 := k7
  refine lv_iload_n hx hb dX6_planAt_0 rfl (lv_at hl 1 rfl) ?_
  refine lv_i2l hx hb dX6_planAt_1 rfl ?_
  refine lv_lconst (v := lN 0) hx hb dX6_planAt_2 (by decide) ?_
  refine lv_aload_n hx hb dX6_planAt_3 rfl (lv_at hl 0 rfl) ?_
  refine rp_get C0 FX hH 36 (by decide) (ci := 6) (k := 14) f36 rfl kiX6 (by decide) kf152 rfl dX6_planAt_4 ?_
  refine lv_iconst (v := nI 1) hx hb dX6_planAt_7 (by decide) ?_
  refine lv_isub hx hb dX6_planAt_8 ?_
  refine lv_i2l hx hb dX6_planAt_9 rfl ?_
  refine rc_Si (rest := []) C0 FX hH (k_X6_in_rngS l X ad hi _ p0 lay (by omega)) (va_cwS 3 C0.2.2.2.2 gX6_planAt_X6_in rfl rfl rfl (by decide +kernel) ⟨Nat.le_of_ble_eq_true rfl, Nat.le_of_ble_eq_true rfl⟩) rfl rfl hl.1 (Nat.le_of_ble_eq_true rfl) dX6_planAt_10 ⟨Nat.le_of_ble_eq_true rfl, Nat.le_of_ble_eq_true rfl⟩ (fun r10 g10c H locs h10 hH => ?_)
  obtain ⟨e10, rfl⟩ := h10
  rw [e10] at hH
  refine rb_eq hx hb 48 dX6_planAt_13 (by decide) (fun c13 => ?_) (fun c13 => ?_)
  · refine lv_iconst (v := (-1)) hx hb dX6_planAt_48 (by decide) ?_
    refine RET _ _ _ _ _ _ dX6_planAt_49 rfl ?_ hH
    refine ⟨rfl, ?_⟩
    unfold sp_planAt
    rw [if_neg (fun z => absurd z.1 c13)]
  · obtain ⟨kv, rfl, kv1, kv3⟩ := rngS_nI c13
    have hec9 := hper (by omega)
    have hk39 := k3 (by omega)
    refine lv_iload_n hx hb dX6_planAt_16 rfl (lv_at hl 2 rfl) ?_
    refine lv_i2l hx hb dX6_planAt_17 rfl ?_
    refine lv_lconst (v := lN 0) hx hb dX6_planAt_18 (by decide) ?_
    refine lv_aload_n hx hb dX6_planAt_19 rfl (lv_at hl 0 rfl) ?_
    refine rp_get C0 FX hH 36 (by decide) (ci := 6) (k := 15) f36 rfl kiX6 (by decide) kf160 rfl dX6_planAt_20 ?_
    refine lv_iconst (v := nI 1) hx hb dX6_planAt_23 (by decide) ?_
    refine lv_isub hx hb dX6_planAt_24 ?_
    refine lv_i2l hx hb dX6_planAt_25 rfl ?_
    refine rc_Si (rest := []) C0 FX hH (k_X6_in_rngS l X ad hi _ p1 pm (by omega)) (va_cwS 3 C0.2.2.2.2 gX6_planAt_X6_in rfl rfl rfl (by decide +kernel) ⟨Nat.le_of_ble_eq_true rfl, Nat.le_of_ble_eq_true rfl⟩) rfl rfl hl.1 (Nat.le_of_ble_eq_true rfl) dX6_planAt_26 ⟨Nat.le_of_ble_eq_true rfl, Nat.le_of_ble_eq_true rfl⟩ (fun r26 g26c H locs h26 hH => ?_)
    obtain ⟨e26, rfl⟩ := h26
    rw [e26] at hH
    refine rb_eq hx hb 48 dX6_planAt_29 (by decide) (fun c29 => ?_) (fun c29 => ?_)
    · refine lv_iconst (v := (-1)) hx hb dX6_planAt_48 (by decide) ?_
      refine RET _ _ _ _ _ _ dX6_planAt_49 rfl ?_ hH
      refine ⟨rfl, ?_⟩
      unfold sp_planAt
      rw [if_neg (fun z => c29 (by rw [hec9]; exact z.2))]
    · obtain ⟨iv, rfl, iv1, iv3⟩ := rngS_nI c29
      have hml := Nat.mul_le_mul_right pev (show kv + 1 ≤ lay by omega)
      rw [Nat.succ_mul] at hml
      have hcm := Nat.mul_comm pm kv
      rw [hec9] at hcm iv1
      refine lv_aload_n hx hb dX6_planAt_32 rfl (lv_at hl 0 rfl) ?_
      refine rp_get C0 FX hH 36 (by decide) (ci := 6) (k := 16) f36 rfl kiX6 (by decide) kf47 rfl dX6_planAt_33 ?_
      refine lv_aload_n hx hb dX6_planAt_36 rfl (lv_at hl 0 rfl) ?_
      refine rp_get C0 FX hH 36 (by decide) (ci := 6) (k := 15) f36 rfl kiX6 (by decide) kf160 rfl dX6_planAt_37 ?_
      refine lv_iload_n hx hb dX6_planAt_40 rfl (lv_at hl 1 rfl) ?_
      refine ni_imul hx hb dX6_planAt_41 ?_
      refine lv_iload_n hx hb dX6_planAt_42 rfl (lv_at hl 2 rfl) ?_
      refine ni_iadd hx hb dX6_planAt_43 ?_
      refine rp_iald C0 FX hH 47 (by decide) (v := pln (kv * pev + iv)) f47 ((pm * kv) + iv) (by rw [hec9, Nat.mul_comm]; omega) (by decide) (by rw [hec9, Nat.mul_comm]; exact hpl _ (by omega)) dX6_planAt_44 ?_
      refine lv_goto (tgt := 49) hx hb dX6_planAt_45 (by decide) ?_
      refine RET _ _ _ _ _ _ dX6_planAt_49 rfl ?_ hH
      refine ⟨rfl, ?_⟩
      unfold sp_planAt
      rw [if_pos (show rngS (nI kv) lay ∧ rngS (nI iv) pev from ⟨(rngS_iff (by omega)).mpr kv1, (rngS_iff (by omega)).mpr iv1⟩), tN_nI (by omega), tN_nI (by omega)]
set_option maxHeartbeats 4000000 in
set_option maxRecDepth 100000 in
theorem k_X6_tries (l : Launch) (X : Cx) (ad : Nat → Nat) (hi : inj 48 ad) (g : PF) (nm fa fb : Nat) (mc rd : Nat → Nat → Nat) (nr : Nat → Nat) (ar : Nat → Nat → Nat) (nb : Nat) (num : Nat → Nat) (lay pev : Nat) (pln : Nat → Nat) (tr : Nat) (hR : rMod X ad ((nm, fa, fb, mc, rd), nr, ar, (nb, num, lay, pev, pln, tr)) g)  : Ki l yX6_tries wsX6_tries zr0 X 48 ad g [.ref (ad 36)] (fun r g' => g' = g ∧ r = nI tr) := by
  refine Ki.of (cc := cX6_tries) (maxL := 1) hi (by decide) rfl (Nat.le_of_ble_eq_true rfl) ?_
  intro p e s m below meth c Q E RET ls hl
  obtain ⟨C0, FX, hH⟩ := E
  have hx := C0.1
  have hb := C0.2.1
  have kiX6 : ∀ w ∈ u_ws RX6 TX6 18, w ∈ wsX6_tries := (by decide +kernel)
  have kf157 : Cond.fieldLink RX6 157 "YarnMillModel" "tries" "I" ∈ wsX6_tries := (by decide +kernel)
  have hl : lv_has ls 1 [(0, .ref (ad 36))] := hl
  obtain ⟨md, ma, mb, ml, mr, mo, cn, ms, fs, nn, pl, pm, f36, f37, f38, f39, f40, f41, f42, f43, f44, f45, f46, f47, hrL, hrR, hrS, hlok, hrok, hsok, hpm⟩ := hR
  have f36 : g 36 = .inr (6, [.int (nI fa), .int (nI fb), .int (nI nm), .ref (ad 37), .ref (ad 38), .ref (ad 39), .ref (ad 40), .ref (ad 41), .ref (ad 42), .ref (ad 43), .ref (ad 44), .ref (ad 45), .int (nI nb), .ref (ad 46), .int (nI lay), .int (nI pm), .ref (ad 47), .int (nI tr)]) := f36
  have hq37 : ∀ j, j < nm → md j = mc j 0 := fun j hj => (hrL.1 j hj).1
  have hq38 : ∀ j, j < nm → ma j = mc j 1 := fun j hj => (hrL.1 j hj).2.1
  have hq39 : ∀ j, j < nm → mb j = mc j 2 := fun j hj => (hrL.1 j hj).2.2.1
  have hq40 : ∀ j, j < nm → ml j = mc j 3 := fun j hj => (hrL.1 j hj).2.2.2.1
  have hq41 : ∀ j, j < nm → mr j = mc j 4 := fun j hj => (hrL.1 j hj).2.2.2.2
  have hmo : ∀ j, j < nm → ∀ r, r < mc j 4 → mo (3 * j + r) = rd j r := hrL.2
  have h6 : nm ≤ 6 := hlok.1
  have hfa : 1 ≤ fa ∧ fa ≤ 10000 := hlok.2.1
  have hfb : 1 ≤ fb ∧ fb ≤ 10000 := hlok.2.2.1
  have hmk : ∀ j, j < nm → mcOk (mc j) ∧ ∀ r, r < mc j 4 → 1 ≤ rd j r ∧ rd j r ≤ 1000 := hlok.2.2.2
  have hcn : ∀ r, r < 8 → cn r = nr r := hrR.1
  have hms : ∀ r, r < 8 → ∀ j, j < nr r → ms (400 * r + j) = ar r j := hrR.2
  have hro : ∀ r, r < 8 → nr r ≤ 400 ∧ ∀ j, j < nr r → ar r j ≤ 1000000 := hrok
  have hnn : ∀ j, j < nb → nn j = num j := hrS.1
  have hper : 0 < lay → pm = pev := hrS.2.1
  have hpl : ∀ j, j < lay * pev → pl j = pln j := hrS.2.2
  obtain ⟨k1, k2, k3, k4, k5, k6, k7⟩ := id hsok
  have k1 : nb ≤ 12 := k1
  have k2 : ∀ j, j < nb → num j ≤ 10000 := k2
  have k3 : 0 < lay → (1 ≤ pev ∧ pev ≤ 6) := k3
  have k4 : lay * pev ≤ 12 := k4
  have k5 : ∀ j, j < lay * pev → pln j ≤ 12 := k5
  have k6 : tr ≤ 100000 := k6
  have k7 : lay ≤ 12 := k7
  refine lv_aload_n hx hb dX6_tries_0 rfl (lv_at hl 0 rfl) ?_
  refine rp_get C0 FX hH 36 (by decide) (ci := 6) (k := 17) f36 rfl kiX6 (by decide) kf157 rfl dX6_tries_1 ?_
  refine RET _ _ _ _ _ _ dX6_tries_4 rfl ?_ hH
  exact ⟨rfl, rfl⟩
theorem mny4 {C : ClS} {k : Nat} (h : 4 ≤ k) : mny C k = sm C.2.1 8 := by
  obtain ⟨j, rfl⟩ : ∃ j, k = j + 4 := ⟨k - 4, by omega⟩
  rfl
set_option maxHeartbeats 4000000 in
set_option maxRecDepth 100000 in
theorem k_X6_manyOf (l : Launch) (X : Cx) (ad : Nat → Nat) (hi : inj 48 ad) (g : PF) (nm fa fb : Nat) (mc rd : Nat → Nat → Nat) (nr : Nat → Nat) (ar : Nat → Nat → Nat) (nb : Nat) (num : Nat → Nat) (lay pev : Nat) (pln : Nat → Nat) (tr : Nat) (hR : rMod X ad ((nm, fa, fb, mc, rd), nr, ar, (nb, num, lay, pev, pln, tr)) g) (kv : Nat) (hkv : kv ≤ 4) : Ki l yX6_manyOf wsX6_manyOf zr0 X 48 ad g [.ref (ad 36), .int (nI kv)] (fun r g' => g' = g ∧ r = nI (mny ((nm, fa, fb, mc, rd), nr, ar, (nb, num, lay, pev, pln, tr)) kv)) := by
  refine Ki.of (cc := cX6_manyOf) (maxL := 4) hi (by decide) rfl (Nat.le_of_ble_eq_true rfl) ?_
  intro p e s m below meth c Q E RET ls hl
  obtain ⟨C0, FX, hH⟩ := E
  have hx := C0.1
  have hb := C0.2.1
  have kiX6 : ∀ w ∈ u_ws RX6 TX6 18, w ∈ wsX6_manyOf := (by decide +kernel)
  have kf149 : Cond.fieldLink RX6 149 "YarnMillModel" "bales" "I" ∈ wsX6_manyOf := (by decide +kernel)
  have kf152 : Cond.fieldLink RX6 152 "YarnMillModel" "laydowns" "I" ∈ wsX6_manyOf := (by decide +kernel)
  have kf29 : Cond.fieldLink RX6 29 "YarnMillModel" "rollers" "[I" ∈ wsX6_manyOf := (by decide +kernel)
  have kf35 : Cond.fieldLink RX6 35 "YarnMillModel" "cells" "[I" ∈ wsX6_manyOf := (by decide +kernel)
  have kf64 : Cond.fieldLink RX6 64 "YarnMillModel" "machines" "I" ∈ wsX6_manyOf := (by decide +kernel)
  have hl : lv_has ls 4 [(0, .ref (ad 36)), (1, .int (nI kv))] := hl
  obtain ⟨md, ma, mb, ml, mr, mo, cn, ms, fs, nn, pl, pm, f36, f37, f38, f39, f40, f41, f42, f43, f44, f45, f46, f47, hrL, hrR, hrS, hlok, hrok, hsok, hpm⟩ := hR
  have f36 : g 36 = .inr (6, [.int (nI fa), .int (nI fb), .int (nI nm), .ref (ad 37), .ref (ad 38), .ref (ad 39), .ref (ad 40), .ref (ad 41), .ref (ad 42), .ref (ad 43), .ref (ad 44), .ref (ad 45), .int (nI nb), .ref (ad 46), .int (nI lay), .int (nI pm), .ref (ad 47), .int (nI tr)]) := f36
  have hq37 : ∀ j, j < nm → md j = mc j 0 := fun j hj => (hrL.1 j hj).1
  have hq38 : ∀ j, j < nm → ma j = mc j 1 := fun j hj => (hrL.1 j hj).2.1
  have hq39 : ∀ j, j < nm → mb j = mc j 2 := fun j hj => (hrL.1 j hj).2.2.1
  have hq40 : ∀ j, j < nm → ml j = mc j 3 := fun j hj => (hrL.1 j hj).2.2.2.1
  have hq41 : ∀ j, j < nm → mr j = mc j 4 := fun j hj => (hrL.1 j hj).2.2.2.2
  have hmo : ∀ j, j < nm → ∀ r, r < mc j 4 → mo (3 * j + r) = rd j r := hrL.2
  have h6 : nm ≤ 6 := hlok.1
  have hfa : 1 ≤ fa ∧ fa ≤ 10000 := hlok.2.1
  have hfb : 1 ≤ fb ∧ fb ≤ 10000 := hlok.2.2.1
  have hmk : ∀ j, j < nm → mcOk (mc j) ∧ ∀ r, r < mc j 4 → 1 ≤ rd j r ∧ rd j r ≤ 1000 := hlok.2.2.2
  have hcn : ∀ r, r < 8 → cn r = nr r := hrR.1
  have hms : ∀ r, r < 8 → ∀ j, j < nr r → ms (400 * r + j) = ar r j := hrR.2
  have hro : ∀ r, r < 8 → nr r ≤ 400 ∧ ∀ j, j < nr r → ar r j ≤ 1000000 := hrok
  have hnn : ∀ j, j < nb → nn j = num j := hrS.1
  have hper : 0 < lay → pm = pev := hrS.2.1
  have hpl : ∀ j, j < lay * pev → pl j = pln j := hrS.2.2
  obtain ⟨k1, k2, k3, k4, k5, k6, k7⟩ := id hsok
  have k1 : nb ≤ 12 := k1
  have k2 : ∀ j, j < nb → num j ≤ 10000 := k2
  have k3 : 0 < lay → (1 ≤ pev ∧ pev ≤ 6) := k3
  have k4 : lay * pev ≤ 12 := k4
  have k5 : ∀ j, j < lay * pev → pln j ≤ 12 := k5
  have k6 : tr ≤ 100000 := k6
  have k7 : lay ≤ 12 := k7
  refine lv_iconst (v := nI 0) hx hb dX6_manyOf_0 (by decide) ?_
  refine lv_istore_n (lv' := [(2, .int (nI 0)), (0, .ref (ad 36)), (1, .int (nI kv))]) hx hb dX6_manyOf_1 rfl hl (by decide) rfl (fun ls hl => ?_)
  refine lv_iconst (v := nI 0) hx hb dX6_manyOf_2 (by decide) ?_
  refine lv_istore_n (lv' := [(3, .int (nI 0)), (2, .int (nI 0)), (0, .ref (ad 36)), (1, .int (nI kv))]) hx hb dX6_manyOf_3 rfl hl (by decide) rfl (fun ls hl => ?_)
  have L4 : ∀ (fu : Nat) (S : Nat) (i : Nat) (ls : Array Slot), (i ≤ nm) → (S = if kv = 1 then sm (fun j => mc j 4) i else 0) → (0 < i → kv = 1) → nm - i < fu → lv_has ls 4 [(3, .int (nI i)), (2, .int (nI S)), (0, .ref (ad 36)), (1, .int (nI kv))] → W p l e zr0 s m ([.ref (ad 36), .int (nI kv)] : List Value).toArray below meth c s.heap [] 0 0 Q (F0 m 4 ls []) := by
    intro fu
    induction fu with
    | zero =>
      intro S i  ls i1 i2 i3 hm
      exact absurd hm (Nat.not_lt_zero _)
    | succ fu ih =>
      have ih4 := ih; clear ih
      intro S i  ls i1 i2 i3 hm4  hl
      refine lv_iload_n hx hb dX6_manyOf_4 rfl (lv_at hl 0 rfl) ?_
      refine lv_aload_n hx hb dX6_manyOf_5 rfl (lv_at hl 2 rfl) ?_
      refine rp_get C0 FX hH 36 (by decide) (ci := 6) (k := 2) f36 rfl kiX6 (by decide) kf64 rfl dX6_manyOf_6 ?_
      refine ni_cge hx hb 32 dX6_manyOf_9 (by decide) (by omega) (by omega) (fun c9 => ?_) (fun c9 => ?_)
      · refine lv_iconst (v := nI 0) hx hb dX6_manyOf_32 (by decide) ?_
        refine lv_istore_n (lv' := [(3, .int (nI 0)), (2, .int (nI S)), (0, .ref (ad 36)), (1, .int (nI kv))]) hx hb dX6_manyOf_33 rfl hl (by decide) rfl (fun ls hl => ?_)
        have L34 : ∀ (fu : Nat) (S : Nat) (j : Nat) (ls : Array Slot), (j ≤ 8) → ((kv = 1 → S = rollers (nm, fa, fb, mc, rd)) ∧ (kv = 4 → S = sm nr j)) → 8 - j < fu → lv_has ls 4 [(3, .int (nI j)), (2, .int (nI S)), (0, .ref (ad 36)), (1, .int (nI kv))] → W p l e zr0 s m ([.ref (ad 36), .int (nI kv)] : List Value).toArray below meth c s.heap [] 0 0 Q (F0 m 34 ls []) := by
          intro fu
          induction fu with
          | zero =>
            intro S j  ls j1 j4 hm
            exact absurd hm (Nat.not_lt_zero _)
          | succ fu ih =>
            have ih34 := ih; clear ih
            intro S j  ls j1 j4 hm34  hl
            refine lv_iload_n hx hb dX6_manyOf_34 rfl (lv_at hl 0 rfl) ?_
            refine lv_bipush (v := nI 8) hx hb dX6_manyOf_35 (by decide) ?_
            refine ni_cge hx hb 60 dX6_manyOf_37 (by decide) (by omega) (by omega) (fun c37 => ?_) (fun c37 => ?_)
            · have j5 : kv = 4 → j = 8 := fun _ => by omega
              refine lv_iload_n hx hb dX6_manyOf_60 rfl (lv_at hl 3 rfl) ?_
              refine ni_ne0 hx hb 71 dX6_manyOf_61 (by decide) (by omega) (fun c61 => ?_) (fun c61 => ?_)
              · refine lv_iload_n hx hb dX6_manyOf_71 rfl (lv_at hl 3 rfl) ?_
                refine lv_iconst (v := nI 2) hx hb dX6_manyOf_72 (by decide) ?_
                refine ni_cne hx hb 83 dX6_manyOf_73 (by decide) (by omega) (by omega) (fun c73 => ?_) (fun c73 => ?_)
                · refine lv_iload_n hx hb dX6_manyOf_83 rfl (lv_at hl 3 rfl) ?_
                  refine lv_iconst (v := nI 3) hx hb dX6_manyOf_84 (by decide) ?_
                  refine ni_cne hx hb 95 dX6_manyOf_85 (by decide) (by omega) (by omega) (fun c85 => ?_) (fun c85 => ?_)
                  · refine lv_iload_n hx hb dX6_manyOf_95 rfl (lv_at hl 1 rfl) ?_
                    refine RET _ _ _ _ _ _ dX6_manyOf_96 rfl ?_ hH
                    refine ⟨rfl, ?_⟩
                    rcases (show kv = 1 ∨ kv = 4 by omega) with q | q
                    · subst q; rw [j4.1 rfl]; rfl
                    · subst q; rw [j4.2 rfl, j5 rfl]; rfl
                  · refine lv_aload_n hx hb dX6_manyOf_88 rfl (lv_at hl 2 rfl) ?_
                    refine rp_get C0 FX hH 36 (by decide) (ci := 6) (k := 14) f36 rfl kiX6 (by decide) kf152 rfl dX6_manyOf_89 ?_
                    refine lv_goto (tgt := 96) hx hb dX6_manyOf_92 (by decide) ?_
                    refine RET _ _ _ _ _ _ dX6_manyOf_96 rfl ?_ hH
                    exact ⟨rfl, by rw [c85]; rfl⟩
                · refine lv_aload_n hx hb dX6_manyOf_76 rfl (lv_at hl 2 rfl) ?_
                  refine rp_get C0 FX hH 36 (by decide) (ci := 6) (k := 12) f36 rfl kiX6 (by decide) kf149 rfl dX6_manyOf_77 ?_
                  refine lv_goto (tgt := 96) hx hb dX6_manyOf_80 (by decide) ?_
                  refine RET _ _ _ _ _ _ dX6_manyOf_96 rfl ?_ hH
                  exact ⟨rfl, by rw [c73]; rfl⟩
              · refine lv_aload_n hx hb dX6_manyOf_64 rfl (lv_at hl 2 rfl) ?_
                refine rp_get C0 FX hH 36 (by decide) (ci := 6) (k := 2) f36 rfl kiX6 (by decide) kf64 rfl dX6_manyOf_65 ?_
                refine lv_goto (tgt := 96) hx hb dX6_manyOf_68 (by decide) ?_
                refine RET _ _ _ _ _ _ dX6_manyOf_96 rfl ?_ hH
                exact ⟨rfl, by rw [c61]; rfl⟩
            · refine lv_iload_n hx hb dX6_manyOf_40 rfl (lv_at hl 3 rfl) ?_
              refine lv_iconst (v := nI 4) hx hb dX6_manyOf_41 (by decide) ?_
              refine ni_cne hx hb 60 dX6_manyOf_42 (by decide) (by omega) (by omega) (fun c42 => ?_) (fun c42 => ?_)
              · have j5 : kv = 4 → j = 8 := fun q => absurd q c42
                refine lv_iload_n hx hb dX6_manyOf_60 rfl (lv_at hl 3 rfl) ?_
                refine ni_ne0 hx hb 71 dX6_manyOf_61 (by decide) (by omega) (fun c61 => ?_) (fun c61 => ?_)
                · refine lv_iload_n hx hb dX6_manyOf_71 rfl (lv_at hl 3 rfl) ?_
                  refine lv_iconst (v := nI 2) hx hb dX6_manyOf_72 (by decide) ?_
                  refine ni_cne hx hb 83 dX6_manyOf_73 (by decide) (by omega) (by omega) (fun c73 => ?_) (fun c73 => ?_)
                  · refine lv_iload_n hx hb dX6_manyOf_83 rfl (lv_at hl 3 rfl) ?_
                    refine lv_iconst (v := nI 3) hx hb dX6_manyOf_84 (by decide) ?_
                    refine ni_cne hx hb 95 dX6_manyOf_85 (by decide) (by omega) (by omega) (fun c85 => ?_) (fun c85 => ?_)
                    · refine lv_iload_n hx hb dX6_manyOf_95 rfl (lv_at hl 1 rfl) ?_
                      refine RET _ _ _ _ _ _ dX6_manyOf_96 rfl ?_ hH
                      refine ⟨rfl, ?_⟩
                      rcases (show kv = 1 ∨ kv = 4 by omega) with q | q
                      · subst q; rw [j4.1 rfl]; rfl
                      · subst q; rw [j4.2 rfl, j5 rfl]; rfl
                    · refine lv_aload_n hx hb dX6_manyOf_88 rfl (lv_at hl 2 rfl) ?_
                      refine rp_get C0 FX hH 36 (by decide) (ci := 6) (k := 14) f36 rfl kiX6 (by decide) kf152 rfl dX6_manyOf_89 ?_
                      refine lv_goto (tgt := 96) hx hb dX6_manyOf_92 (by decide) ?_
                      refine RET _ _ _ _ _ _ dX6_manyOf_96 rfl ?_ hH
                      exact ⟨rfl, by rw [c85]; rfl⟩
                  · refine lv_aload_n hx hb dX6_manyOf_76 rfl (lv_at hl 2 rfl) ?_
                    refine rp_get C0 FX hH 36 (by decide) (ci := 6) (k := 12) f36 rfl kiX6 (by decide) kf149 rfl dX6_manyOf_77 ?_
                    refine lv_goto (tgt := 96) hx hb dX6_manyOf_80 (by decide) ?_
                    refine RET _ _ _ _ _ _ dX6_manyOf_96 rfl ?_ hH
                    exact ⟨rfl, by rw [c73]; rfl⟩
                · refine lv_aload_n hx hb dX6_manyOf_64 rfl (lv_at hl 2 rfl) ?_
                  refine rp_get C0 FX hH 36 (by decide) (ci := 6) (k := 2) f36 rfl kiX6 (by decide) kf64 rfl dX6_manyOf_65 ?_
                  refine lv_goto (tgt := 96) hx hb dX6_manyOf_68 (by decide) ?_
                  refine RET _ _ _ _ _ _ dX6_manyOf_96 rfl ?_ hH
                  exact ⟨rfl, by rw [c61]; rfl⟩
              · refine lv_iload_n hx hb dX6_manyOf_45 rfl (lv_at hl 1 rfl) ?_
                refine lv_aload_n hx hb dX6_manyOf_46 rfl (lv_at hl 2 rfl) ?_
                refine rp_get C0 FX hH 36 (by decide) (ci := 6) (k := 9) f36 rfl kiX6 (by decide) kf35 rfl dX6_manyOf_47 ?_
                refine lv_iload_n hx hb dX6_manyOf_50 rfl (lv_at hl 0 rfl) ?_
                refine rp_iald C0 FX hH 43 (by decide) (v := nr j) f43 j (by omega) (by decide) (hcn _ (by omega)) dX6_manyOf_51 ?_
                refine ni_iadd hx hb dX6_manyOf_52 ?_
                refine lv_istore_n (lv' := [(2, .int (nI (S + (nr j)))), (3, .int (nI j)), (0, .ref (ad 36)), (1, .int (nI kv))]) hx hb dX6_manyOf_53 rfl hl (by decide) rfl (fun ls hl => ?_)
                refine lv_iinc (v := nI (j + 1)) (lv' := [(3, .int (nI (j + 1))), (2, .int (nI (S + (nr j)))), (0, .ref (ad 36)), (1, .int (nI kv))]) hx hb dX6_manyOf_54 hl (k := 1) rfl (ni_inc1 _) (by decide) rfl (fun ls hl => ?_)
                refine lv_goto (tgt := 34) hx hb dX6_manyOf_57 (by decide) ?_
                exact ih34 (S + (nr j)) (j + 1) ls (by omega) (⟨fun q => absurd c42 (by omega), fun q => by rw [j4.2 q]; rfl⟩) (by omega) (lv_sub hl [0, 1, 2, 3] rfl)
        exact L34 ((8 - 0) + 1) S 0 ls (by omega) (⟨fun q => by rw [i2, if_pos q, show i = nm by first | omega | exact absurd q c14]; rfl, fun q => by rw [i2, if_neg (by omega)]; rfl⟩) (Nat.lt_succ_self _) (lv_sub hl [0, 1, 2, 3] rfl)
      · refine lv_iload_n hx hb dX6_manyOf_12 rfl (lv_at hl 3 rfl) ?_
        refine lv_iconst (v := nI 1) hx hb dX6_manyOf_13 (by decide) ?_
        refine ni_cne hx hb 32 dX6_manyOf_14 (by decide) (by omega) (by omega) (fun c14 => ?_) (fun c14 => ?_)
        · refine lv_iconst (v := nI 0) hx hb dX6_manyOf_32 (by decide) ?_
          refine lv_istore_n (lv' := [(3, .int (nI 0)), (2, .int (nI S)), (0, .ref (ad 36)), (1, .int (nI kv))]) hx hb dX6_manyOf_33 rfl hl (by decide) rfl (fun ls hl => ?_)
          have L34 : ∀ (fu : Nat) (S : Nat) (j : Nat) (ls : Array Slot), (j ≤ 8) → ((kv = 1 → S = rollers (nm, fa, fb, mc, rd)) ∧ (kv = 4 → S = sm nr j)) → 8 - j < fu → lv_has ls 4 [(3, .int (nI j)), (2, .int (nI S)), (0, .ref (ad 36)), (1, .int (nI kv))] → W p l e zr0 s m ([.ref (ad 36), .int (nI kv)] : List Value).toArray below meth c s.heap [] 0 0 Q (F0 m 34 ls []) := by
            intro fu
            induction fu with
            | zero =>
              intro S j  ls j1 j4 hm
              exact absurd hm (Nat.not_lt_zero _)
            | succ fu ih =>
              have ih34 := ih; clear ih
              intro S j  ls j1 j4 hm34  hl
              refine lv_iload_n hx hb dX6_manyOf_34 rfl (lv_at hl 0 rfl) ?_
              refine lv_bipush (v := nI 8) hx hb dX6_manyOf_35 (by decide) ?_
              refine ni_cge hx hb 60 dX6_manyOf_37 (by decide) (by omega) (by omega) (fun c37 => ?_) (fun c37 => ?_)
              · have j5 : kv = 4 → j = 8 := fun _ => by omega
                refine lv_iload_n hx hb dX6_manyOf_60 rfl (lv_at hl 3 rfl) ?_
                refine ni_ne0 hx hb 71 dX6_manyOf_61 (by decide) (by omega) (fun c61 => ?_) (fun c61 => ?_)
                · refine lv_iload_n hx hb dX6_manyOf_71 rfl (lv_at hl 3 rfl) ?_
                  refine lv_iconst (v := nI 2) hx hb dX6_manyOf_72 (by decide) ?_
                  refine ni_cne hx hb 83 dX6_manyOf_73 (by decide) (by omega) (by omega) (fun c73 => ?_) (fun c73 => ?_)
                  · refine lv_iload_n hx hb dX6_manyOf_83 rfl (lv_at hl 3 rfl) ?_
                    refine lv_iconst (v := nI 3) hx hb dX6_manyOf_84 (by decide) ?_
                    refine ni_cne hx hb 95 dX6_manyOf_85 (by decide) (by omega) (by omega) (fun c85 => ?_) (fun c85 => ?_)
                    · refine lv_iload_n hx hb dX6_manyOf_95 rfl (lv_at hl 1 rfl) ?_
                      refine RET _ _ _ _ _ _ dX6_manyOf_96 rfl ?_ hH
                      refine ⟨rfl, ?_⟩
                      rcases (show kv = 1 ∨ kv = 4 by omega) with q | q
                      · subst q; rw [j4.1 rfl]; rfl
                      · subst q; rw [j4.2 rfl, j5 rfl]; rfl
                    · refine lv_aload_n hx hb dX6_manyOf_88 rfl (lv_at hl 2 rfl) ?_
                      refine rp_get C0 FX hH 36 (by decide) (ci := 6) (k := 14) f36 rfl kiX6 (by decide) kf152 rfl dX6_manyOf_89 ?_
                      refine lv_goto (tgt := 96) hx hb dX6_manyOf_92 (by decide) ?_
                      refine RET _ _ _ _ _ _ dX6_manyOf_96 rfl ?_ hH
                      exact ⟨rfl, by rw [c85]; rfl⟩
                  · refine lv_aload_n hx hb dX6_manyOf_76 rfl (lv_at hl 2 rfl) ?_
                    refine rp_get C0 FX hH 36 (by decide) (ci := 6) (k := 12) f36 rfl kiX6 (by decide) kf149 rfl dX6_manyOf_77 ?_
                    refine lv_goto (tgt := 96) hx hb dX6_manyOf_80 (by decide) ?_
                    refine RET _ _ _ _ _ _ dX6_manyOf_96 rfl ?_ hH
                    exact ⟨rfl, by rw [c73]; rfl⟩
                · refine lv_aload_n hx hb dX6_manyOf_64 rfl (lv_at hl 2 rfl) ?_
                  refine rp_get C0 FX hH 36 (by decide) (ci := 6) (k := 2) f36 rfl kiX6 (by decide) kf64 rfl dX6_manyOf_65 ?_
                  refine lv_goto (tgt := 96) hx hb dX6_manyOf_68 (by decide) ?_
                  refine RET _ _ _ _ _ _ dX6_manyOf_96 rfl ?_ hH
                  exact ⟨rfl, by rw [c61]; rfl⟩
              · refine lv_iload_n hx hb dX6_manyOf_40 rfl (lv_at hl 3 rfl) ?_
                refine lv_iconst (v := nI 4) hx hb dX6_manyOf_41 (by decide) ?_
                refine ni_cne hx hb 60 dX6_manyOf_42 (by decide) (by omega) (by omega) (fun c42 => ?_) (fun c42 => ?_)
                · have j5 : kv = 4 → j = 8 := fun q => absurd q c42
                  refine lv_iload_n hx hb dX6_manyOf_60 rfl (lv_at hl 3 rfl) ?_
                  refine ni_ne0 hx hb 71 dX6_manyOf_61 (by decide) (by omega) (fun c61 => ?_) (fun c61 => ?_)
                  · refine lv_iload_n hx hb dX6_manyOf_71 rfl (lv_at hl 3 rfl) ?_
                    refine lv_iconst (v := nI 2) hx hb dX6_manyOf_72 (by decide) ?_
                    refine ni_cne hx hb 83 dX6_manyOf_73 (by decide) (by omega) (by omega) (fun c73 => ?_) (fun c73 => ?_)
                    · refine lv_iload_n hx hb dX6_manyOf_83 rfl (lv_at hl 3 rfl) ?_
                      refine lv_iconst (v := nI 3) hx hb dX6_manyOf_84 (by decide) ?_
                      refine ni_cne hx hb 95 dX6_manyOf_85 (by decide) (by omega) (by omega) (fun c85 => ?_) (fun c85 => ?_)
                      · refine lv_iload_n hx hb dX6_manyOf_95 rfl (lv_at hl 1 rfl) ?_
                        refine RET _ _ _ _ _ _ dX6_manyOf_96 rfl ?_ hH
                        refine ⟨rfl, ?_⟩
                        rcases (show kv = 1 ∨ kv = 4 by omega) with q | q
                        · subst q; rw [j4.1 rfl]; rfl
                        · subst q; rw [j4.2 rfl, j5 rfl]; rfl
                      · refine lv_aload_n hx hb dX6_manyOf_88 rfl (lv_at hl 2 rfl) ?_
                        refine rp_get C0 FX hH 36 (by decide) (ci := 6) (k := 14) f36 rfl kiX6 (by decide) kf152 rfl dX6_manyOf_89 ?_
                        refine lv_goto (tgt := 96) hx hb dX6_manyOf_92 (by decide) ?_
                        refine RET _ _ _ _ _ _ dX6_manyOf_96 rfl ?_ hH
                        exact ⟨rfl, by rw [c85]; rfl⟩
                    · refine lv_aload_n hx hb dX6_manyOf_76 rfl (lv_at hl 2 rfl) ?_
                      refine rp_get C0 FX hH 36 (by decide) (ci := 6) (k := 12) f36 rfl kiX6 (by decide) kf149 rfl dX6_manyOf_77 ?_
                      refine lv_goto (tgt := 96) hx hb dX6_manyOf_80 (by decide) ?_
                      refine RET _ _ _ _ _ _ dX6_manyOf_96 rfl ?_ hH
                      exact ⟨rfl, by rw [c73]; rfl⟩
                  · refine lv_aload_n hx hb dX6_manyOf_64 rfl (lv_at hl 2 rfl) ?_
                    refine rp_get C0 FX hH 36 (by decide) (ci := 6) (k := 2) f36 rfl kiX6 (by decide) kf64 rfl dX6_manyOf_65 ?_
                    refine lv_goto (tgt := 96) hx hb dX6_manyOf_68 (by decide) ?_
                    refine RET _ _ _ _ _ _ dX6_manyOf_96 rfl ?_ hH
                    exact ⟨rfl, by rw [c61]; rfl⟩
                · refine lv_iload_n hx hb dX6_manyOf_45 rfl (lv_at hl 1 rfl) ?_
                  refine lv_aload_n hx hb dX6_manyOf_46 rfl (lv_at hl 2 rfl) ?_
                  refine rp_get C0 FX hH 36 (by decide) (ci := 6) (k := 9) f36 rfl kiX6 (by decide) kf35 rfl dX6_manyOf_47 ?_
                  refine lv_iload_n hx hb dX6_manyOf_50 rfl (lv_at hl 0 rfl) ?_
                  refine rp_iald C0 FX hH 43 (by decide) (v := nr j) f43 j (by omega) (by decide) (hcn _ (by omega)) dX6_manyOf_51 ?_
                  refine ni_iadd hx hb dX6_manyOf_52 ?_
                  refine lv_istore_n (lv' := [(2, .int (nI (S + (nr j)))), (3, .int (nI j)), (0, .ref (ad 36)), (1, .int (nI kv))]) hx hb dX6_manyOf_53 rfl hl (by decide) rfl (fun ls hl => ?_)
                  refine lv_iinc (v := nI (j + 1)) (lv' := [(3, .int (nI (j + 1))), (2, .int (nI (S + (nr j)))), (0, .ref (ad 36)), (1, .int (nI kv))]) hx hb dX6_manyOf_54 hl (k := 1) rfl (ni_inc1 _) (by decide) rfl (fun ls hl => ?_)
                  refine lv_goto (tgt := 34) hx hb dX6_manyOf_57 (by decide) ?_
                  exact ih34 (S + (nr j)) (j + 1) ls (by omega) (⟨fun q => absurd c42 (by omega), fun q => by rw [j4.2 q]; rfl⟩) (by omega) (lv_sub hl [0, 1, 2, 3] rfl)
          exact L34 ((8 - 0) + 1) S 0 ls (by omega) (⟨fun q => by rw [i2, if_pos q, show i = nm by first | omega | exact absurd q c14]; rfl, fun q => by rw [i2, if_neg (by omega)]; rfl⟩) (Nat.lt_succ_self _) (lv_sub hl [0, 1, 2, 3] rfl)
        · refine lv_iload_n hx hb dX6_manyOf_17 rfl (lv_at hl 1 rfl) ?_
          refine lv_aload_n hx hb dX6_manyOf_18 rfl (lv_at hl 2 rfl) ?_
          refine rp_get C0 FX hH 36 (by decide) (ci := 6) (k := 7) f36 rfl kiX6 (by decide) kf29 rfl dX6_manyOf_19 ?_
          refine lv_iload_n hx hb dX6_manyOf_22 rfl (lv_at hl 0 rfl) ?_
          refine rp_iald C0 FX hH 41 (by decide) (v := mc i 4) f41 i (by omega) (by decide) (hq41 _ (by omega)) dX6_manyOf_23 ?_
          refine ni_iadd hx hb dX6_manyOf_24 ?_
          refine lv_istore_n (lv' := [(2, .int (nI (S + (mc i 4)))), (3, .int (nI i)), (0, .ref (ad 36)), (1, .int (nI kv))]) hx hb dX6_manyOf_25 rfl hl (by decide) rfl (fun ls hl => ?_)
          refine lv_iinc (v := nI (i + 1)) (lv' := [(3, .int (nI (i + 1))), (2, .int (nI (S + (mc i 4)))), (0, .ref (ad 36)), (1, .int (nI kv))]) hx hb dX6_manyOf_26 hl (k := 1) rfl (ni_inc1 _) (by decide) rfl (fun ls hl => ?_)
          refine lv_goto (tgt := 4) hx hb dX6_manyOf_29 (by decide) ?_
          exact ih4 (S + (mc i 4)) (i + 1) ls (by omega) (by rw [i2, if_pos c14, if_pos c14]; rfl) (fun _ => c14) (by omega) (lv_sub hl [0, 1, 2, 3] rfl)
  exact L4 ((nm - 0) + 1) 0 0 ls (by omega) (by split <;> rfl) (fun q => absurd q (Nat.lt_irrefl 0)) (Nat.lt_succ_self _) (lv_sub hl [0, 1, 2, 3] rfl)
set_option maxHeartbeats 4000000 in
set_option maxRecDepth 100000 in
theorem k_X6_many (l : Launch) (X : Cx) (ad : Nat → Nat) (hi : inj 48 ad) (g : PF) (nm fa fb : Nat) (mc rd : Nat → Nat → Nat) (nr : Nat → Nat) (ar : Nat → Nat → Nat) (nb : Nat) (num : Nat → Nat) (lay pev : Nat) (pln : Nat → Nat) (tr : Nat) (hR : rMod X ad ((nm, fa, fb, mc, rd), nr, ar, (nb, num, lay, pev, pln, tr)) g) (p0 : Int32) : Ki l yX6_many wsX6_many zr1 X 48 ad g [.ref (ad 36), .int p0] (fun r g' => g' = g ∧ r = sp_many p0 ((nm, fa, fb, mc, rd), nr, ar, (nb, num, lay, pev, pln, tr))) := by
  refine Ki.of (cc := cX6_many) (maxL := 2) hi (by decide) rfl (Nat.le_of_ble_eq_true rfl) ?_
  intro p e s m below meth c Q E RET ls hl
  obtain ⟨C0, FX, hH⟩ := E
  have hx := C0.1
  have hb := C0.2.1
  have kl171 := C0.2.2.2.2 (.constantLong RX6 171 (lN 4)) (by decide +kernel)
  have hl : lv_has ls 2 [(0, .ref (ad 36)), (1, .int p0)] := hl
  obtain ⟨md, ma, mb, ml, mr, mo, cn, ms, fs, nn, pl, pm, f36, f37, f38, f39, f40, f41, f42, f43, f44, f45, f46, f47, hrL, hrR, hrS, hlok, hrok, hsok, hpm⟩ := hR
  have f36 : g 36 = .inr (6, [.int (nI fa), .int (nI fb), .int (nI nm), .ref (ad 37), .ref (ad 38), .ref (ad 39), .ref (ad 40), .ref (ad 41), .ref (ad 42), .ref (ad 43), .ref (ad 44), .ref (ad 45), .int (nI nb), .ref (ad 46), .int (nI lay), .int (nI pm), .ref (ad 47), .int (nI tr)]) := f36
  have hq37 : ∀ j, j < nm → md j = mc j 0 := fun j hj => (hrL.1 j hj).1
  have hq38 : ∀ j, j < nm → ma j = mc j 1 := fun j hj => (hrL.1 j hj).2.1
  have hq39 : ∀ j, j < nm → mb j = mc j 2 := fun j hj => (hrL.1 j hj).2.2.1
  have hq40 : ∀ j, j < nm → ml j = mc j 3 := fun j hj => (hrL.1 j hj).2.2.2.1
  have hq41 : ∀ j, j < nm → mr j = mc j 4 := fun j hj => (hrL.1 j hj).2.2.2.2
  have hmo : ∀ j, j < nm → ∀ r, r < mc j 4 → mo (3 * j + r) = rd j r := hrL.2
  have h6 : nm ≤ 6 := hlok.1
  have hfa : 1 ≤ fa ∧ fa ≤ 10000 := hlok.2.1
  have hfb : 1 ≤ fb ∧ fb ≤ 10000 := hlok.2.2.1
  have hmk : ∀ j, j < nm → mcOk (mc j) ∧ ∀ r, r < mc j 4 → 1 ≤ rd j r ∧ rd j r ≤ 1000 := hlok.2.2.2
  have hcn : ∀ r, r < 8 → cn r = nr r := hrR.1
  have hms : ∀ r, r < 8 → ∀ j, j < nr r → ms (400 * r + j) = ar r j := hrR.2
  have hro : ∀ r, r < 8 → nr r ≤ 400 ∧ ∀ j, j < nr r → ar r j ≤ 1000000 := hrok
  have hnn : ∀ j, j < nb → nn j = num j := hrS.1
  have hper : 0 < lay → pm = pev := hrS.2.1
  have hpl : ∀ j, j < lay * pev → pl j = pln j := hrS.2.2
  obtain ⟨k1, k2, k3, k4, k5, k6, k7⟩ := id hsok
  have k1 : nb ≤ 12 := k1
  have k2 : ∀ j, j < nb → num j ≤ 10000 := k2
  have k3 : 0 < lay → (1 ≤ pev ∧ pev ≤ 6) := k3
  have k4 : lay * pev ≤ 12 := k4
  have k5 : ∀ j, j < lay * pev → pln j ≤ 12 := k5
  have k6 : tr ≤ 100000 := k6
  have k7 : lay ≤ 12 := k7
  refine lv_iload_n hx hb dX6_many_0 rfl (lv_at hl 1 rfl) ?_
  refine lv_i2l hx hb dX6_many_1 rfl ?_
  refine lv_lconst (v := lN 0) hx hb dX6_many_2 (by decide) ?_
  refine lv_ldc2 hx hb C0.2.2.2.1 kl171 dX6_many_3 ?_
  refine rc_Si (rest := []) C0 FX hH (k_X6_in_rng l X ad hi _ p0 0 4 (by omega) (by omega)) (va_cwS 3 C0.2.2.2.2 gX6_many_X6_in rfl rfl rfl (by decide +kernel) ⟨Nat.le_of_ble_eq_true rfl, Nat.le_of_ble_eq_true rfl⟩) rfl rfl hl.1 (Nat.le_of_ble_eq_true rfl) dX6_many_6 ⟨Nat.le_of_ble_eq_true rfl, Nat.le_of_ble_eq_true rfl⟩ (fun r6 g6c H locs h6 hH => ?_)
  obtain ⟨e6, rfl⟩ := h6
  rw [e6] at hH
  refine rb_eq hx hb 20 dX6_many_9 (by decide) (fun c9 => ?_) (fun c9 => ?_)
  · refine lv_bipush (v := (-2)) hx hb dX6_many_20 (by decide) ?_
    refine RET _ _ _ _ _ _ dX6_many_22 rfl ?_ hH
    refine ⟨rfl, ?_⟩
    unfold sp_many
    rw [if_neg c9]
  · obtain ⟨kv, rfl, kv1, kv2, kv3⟩ := rng_nI c9
    refine lv_aload_n hx hb dX6_many_12 rfl (lv_at hl 0 rfl) ?_
    refine lv_iload_n hx hb dX6_many_13 rfl (lv_at hl 1 rfl) ?_
    refine rc_Vi (rest := []) C0 FX hH 36 (by decide) f36 rfl (k_X6_manyOf l X ad hi _ nm fa fb mc rd nr ar nb num lay pev pln tr ⟨_, _, _, _, _, _, _, _, _, _, _, _, f36, f37, f38, f39, f40, f41, f42, f43, f44, f45, f46, f47, hrL, hrR, hrS, hlok, hrok, hsok, hpm⟩ kv (by omega)) (cwV 1 C0.2.2.2.2 gX6_many_X6_manyOf rfl rfl rfl (by decide +kernel) ⟨Nat.le_of_ble_eq_true rfl, Nat.le_of_ble_eq_true rfl⟩) rfl rfl hl.1 (Nat.le_of_ble_eq_true rfl) dX6_many_14 ⟨Nat.le_of_ble_eq_true rfl, Nat.le_of_ble_eq_true rfl⟩ (fun r14 g14c H locs h14 hH => ?_)
    obtain ⟨e14, rfl⟩ := h14
    rw [e14] at hH
    refine lv_goto (tgt := 22) hx hb dX6_many_17 (by decide) ?_
    refine RET _ _ _ _ _ _ dX6_many_22 rfl ?_ hH
    refine ⟨rfl, ?_⟩
    unfold sp_many
    rw [if_pos ((rng_iff (by omega)).mpr (by omega)), tN_nI (by omega)]
theorem mny_le2 {L : LnS} {nr : Nat → Nat} {ar : Nat → Nat → Nat} {B : StS} (h1 : lineOk L) (h2 : rowsOk nr ar) (h3 : storeOk B) : ∀ k, mny (L, nr, ar, B) k ≤ 3200
  | 0 => by have := h1.1; show L.1 ≤ 3200; omega
  | 1 => by have := rollers_le h1; show rollers L ≤ 3200; omega
  | 2 => by have := h3.1; show B.1 ≤ 3200; omega
  | 3 => by have := h3.2.2.2.2.2.2; show B.2.2.1 ≤ 3200; omega
  | _ + 4 => by
    have h : sm nr 8 ≤ 8 * 400 := sm_le (fun j hj => (h2 j hj).1)
    show sm nr 8 ≤ 3200
    omega
set_option maxHeartbeats 4000000 in
set_option maxRecDepth 100000 in
theorem k_X6_digest (l : Launch) (X : Cx) (ad : Nat → Nat) (hi : inj 48 ad) (g : PF) (nm fa fb : Nat) (mc rd : Nat → Nat → Nat) (nr : Nat → Nat) (ar : Nat → Nat → Nat) (nb : Nat) (num : Nat → Nat) (lay pev : Nat) (pln : Nat → Nat) (tr : Nat) (hR : rMod X ad ((nm, fa, fb, mc, rd), nr, ar, (nb, num, lay, pev, pln, tr)) g)  : Kl l yX6_digest wsX6_digest zr2 X 48 ad g [.ref (ad 36)] (fun r g' => g' = g ∧ r = sp_digest ((nm, fa, fb, mc, rd), nr, ar, (nb, num, lay, pev, pln, tr))) := by
  refine Kl.of (cc := cX6_digest) (maxL := 5) hi (by decide) rfl (Nat.le_of_ble_eq_true rfl) ?_
  intro p e s m below meth c Q E RET ls hl
  obtain ⟨C0, FX, hH⟩ := E
  have hx := C0.1
  have hb := C0.2.1
  have kl177 := C0.2.2.2.2 (.constantLong RX6 177 (lN 149)) (by decide +kernel)
  have kl179 := C0.2.2.2.2 (.constantLong RX6 179 (lN 31)) (by decide +kernel)
  have kiX6 : ∀ w ∈ u_ws RX6 TX6 18, w ∈ wsX6_digest := (by decide +kernel)
  have kf152 : Cond.fieldLink RX6 152 "YarnMillModel" "laydowns" "I" ∈ wsX6_digest := (by decide +kernel)
  have kf160 : Cond.fieldLink RX6 160 "YarnMillModel" "perLaydown" "I" ∈ wsX6_digest := (by decide +kernel)
  have kf35 : Cond.fieldLink RX6 35 "YarnMillModel" "cells" "[I" ∈ wsX6_digest := (by decide +kernel)
  have kf38 : Cond.fieldLink RX6 38 "YarnMillModel" "mass" "[I" ∈ wsX6_digest := (by decide +kernel)
  have kf47 : Cond.fieldLink RX6 47 "YarnMillModel" "plan" "[I" ∈ wsX6_digest := (by decide +kernel)
  have kf64 : Cond.fieldLink RX6 64 "YarnMillModel" "machines" "I" ∈ wsX6_digest := (by decide +kernel)
  have hl : lv_has ls 5 [(0, .ref (ad 36))] := hl
  obtain ⟨md, ma, mb, ml, mr, mo, cn, ms, fs, nn, pl, pm, f36, f37, f38, f39, f40, f41, f42, f43, f44, f45, f46, f47, hrL, hrR, hrS, hlok, hrok, hsok, hpm⟩ := hR
  have f36 : g 36 = .inr (6, [.int (nI fa), .int (nI fb), .int (nI nm), .ref (ad 37), .ref (ad 38), .ref (ad 39), .ref (ad 40), .ref (ad 41), .ref (ad 42), .ref (ad 43), .ref (ad 44), .ref (ad 45), .int (nI nb), .ref (ad 46), .int (nI lay), .int (nI pm), .ref (ad 47), .int (nI tr)]) := f36
  have hq37 : ∀ j, j < nm → md j = mc j 0 := fun j hj => (hrL.1 j hj).1
  have hq38 : ∀ j, j < nm → ma j = mc j 1 := fun j hj => (hrL.1 j hj).2.1
  have hq39 : ∀ j, j < nm → mb j = mc j 2 := fun j hj => (hrL.1 j hj).2.2.1
  have hq40 : ∀ j, j < nm → ml j = mc j 3 := fun j hj => (hrL.1 j hj).2.2.2.1
  have hq41 : ∀ j, j < nm → mr j = mc j 4 := fun j hj => (hrL.1 j hj).2.2.2.2
  have hmo : ∀ j, j < nm → ∀ r, r < mc j 4 → mo (3 * j + r) = rd j r := hrL.2
  have h6 : nm ≤ 6 := hlok.1
  have hfa : 1 ≤ fa ∧ fa ≤ 10000 := hlok.2.1
  have hfb : 1 ≤ fb ∧ fb ≤ 10000 := hlok.2.2.1
  have hmk : ∀ j, j < nm → mcOk (mc j) ∧ ∀ r, r < mc j 4 → 1 ≤ rd j r ∧ rd j r ≤ 1000 := hlok.2.2.2
  have hcn : ∀ r, r < 8 → cn r = nr r := hrR.1
  have hms : ∀ r, r < 8 → ∀ j, j < nr r → ms (400 * r + j) = ar r j := hrR.2
  have hro : ∀ r, r < 8 → nr r ≤ 400 ∧ ∀ j, j < nr r → ar r j ≤ 1000000 := hrok
  have hnn : ∀ j, j < nb → nn j = num j := hrS.1
  have hper : 0 < lay → pm = pev := hrS.2.1
  have hpl : ∀ j, j < lay * pev → pl j = pln j := hrS.2.2
  obtain ⟨k1, k2, k3, k4, k5, k6, k7⟩ := id hsok
  have k1 : nb ≤ 12 := k1
  have k2 : ∀ j, j < nb → num j ≤ 10000 := k2
  have k3 : 0 < lay → (1 ≤ pev ∧ pev ≤ 6) := k3
  have k4 : lay * pev ≤ 12 := k4
  have k5 : ∀ j, j < lay * pev → pln j ≤ 12 := k5
  have k6 : tr ≤ 100000 := k6
  have k7 : lay ≤ 12 := k7
  have hny : ∀ k, mny ((nm, fa, fb, mc, rd), nr, ar, (nb, num, lay, pev, pln, tr)) k ≤ 3200 := mny_le2 hlok hrok hsok
  have hle : lay * pm = lay * pev := by
    rcases Nat.eq_zero_or_pos lay with q | q
    · rw [q, Nat.zero_mul, Nat.zero_mul]
    · rw [hper q]
  refine lv_ldc2 hx hb C0.2.2.2.1 kl177 dX6_digest_0 ?_
  refine lv_lstore_n (lv' := [(1, .long (lN 149)), (0, .ref (ad 36))]) hx hb dX6_digest_3 rfl hl (by decide) rfl (fun ls hl => ?_)
  refine lv_iconst (v := nI 0) hx hb dX6_digest_4 (by decide) ?_
  refine lv_istore_n (lv' := [(3, .int (nI 0)), (1, .long (lN 149)), (0, .ref (ad 36))]) hx hb dX6_digest_5 rfl hl (by decide) rfl (fun ls hl => ?_)
  have L6 : ∀ (fu : Nat) (hh : Int64) (i : Nat) (H : Heap) (locs : List Loc) (ls : Array Slot), (i ≤ 5) → (hh = dg0 ((nm, fa, fb, mc, rd), nr, ar, (nb, num, lay, pev, pln, tr)) i) → 5 - i < fu → WH X 48 ad (pA 48 ad s.heap.size) s g H locs → lv_has ls 5 [(3, .int (nI i)), (1, .long hh), (0, .ref (ad 36))] → W p l e zr2 s m ([.ref (ad 36)] : List Value).toArray below meth c H locs 0 0 Q (F0 m 6 ls []) := by
    intro fu
    induction fu with
    | zero =>
      intro hh i H locs ls i1 i2 hm
      exact absurd hm (Nat.not_lt_zero _)
    | succ fu ih =>
      have ih6 := ih; clear ih
      intro hh i H locs ls i1 i2 hm6 hH hl
      have hq := hny i
      refine lv_iload_n hx hb dX6_digest_6 rfl (lv_at hl 0 rfl) ?_
      refine lv_iconst (v := nI 5) hx hb dX6_digest_7 (by decide) ?_
      refine ni_cge hx hb 30 dX6_digest_8 (by decide) (by omega) (by omega) (fun c8 => ?_) (fun c8 => ?_)
      · refine lv_ldc2 hx hb C0.2.2.2.1 kl179 dX6_digest_30 ?_
        refine lv_lload_n hx hb dX6_digest_33 rfl (lv_at hl 1 rfl) ?_
        refine lv_lmul hx hb dX6_digest_34 ?_
        refine lv_aload_n hx hb dX6_digest_35 rfl (lv_at hl 2 rfl) ?_
        refine lv_aload_n hx hb dX6_digest_36 rfl (lv_at hl 2 rfl) ?_
        refine rp_get C0 FX hH 36 (by decide) (ci := 6) (k := 2) f36 rfl kiX6 (by decide) kf64 rfl dX6_digest_37 ?_
        refine lv_iconst (v := nI 0) hx hb dX6_digest_40 (by decide) ?_
        refine rc_Vl (rest := [.long ((lN 31) * hh)]) C0 FX hH 36 (by decide) f36 rfl (k_X6_countOf l X ad hi _ nm fa fb mc rd nr ar nb num lay pev pln tr ⟨_, _, _, _, _, _, _, _, _, _, _, _, f36, f37, f38, f39, f40, f41, f42, f43, f44, f45, f46, f47, hrL, hrR, hrS, hlok, hrok, hsok, hpm⟩ nm (by omega) (nI 0)) (cwV 2 C0.2.2.2.2 gX6_digest_X6_countOf rfl rfl rfl (by decide +kernel) ⟨Nat.le_of_ble_eq_true rfl, Nat.le_of_ble_eq_true rfl⟩) rfl rfl hl.1 (Nat.le_of_ble_eq_true rfl) dX6_digest_41 ⟨Nat.le_of_ble_eq_true rfl, Nat.le_of_ble_eq_true rfl⟩ (fun r41 g41c H locs h41 hH => ?_)
        obtain ⟨e41, rfl⟩ := h41
        rw [e41] at hH
        refine lv_ladd hx hb dX6_digest_44 ?_
        refine lv_lstore_n (lv' := [(1, .long (((lN 31) * hh) + (sp_countOf nm (nI 0) (nm, fa, fb, mc, rd)))), (3, .int (nI i)), (0, .ref (ad 36))]) hx hb dX6_digest_45 rfl hl (by decide) rfl (fun ls hl => ?_)
        refine lv_ldc2 hx hb C0.2.2.2.1 kl179 dX6_digest_46 ?_
        refine lv_lload_n hx hb dX6_digest_49 rfl (lv_at hl 0 rfl) ?_
        refine lv_lmul hx hb dX6_digest_50 ?_
        refine lv_aload_n hx hb dX6_digest_51 rfl (lv_at hl 2 rfl) ?_
        refine lv_aload_n hx hb dX6_digest_52 rfl (lv_at hl 2 rfl) ?_
        refine rp_get C0 FX hH 36 (by decide) (ci := 6) (k := 2) f36 rfl kiX6 (by decide) kf64 rfl dX6_digest_53 ?_
        refine lv_iconst (v := nI 1) hx hb dX6_digest_56 (by decide) ?_
        refine rc_Vl (rest := [.long ((lN 31) * (((lN 31) * hh) + (sp_countOf nm (nI 0) (nm, fa, fb, mc, rd))))]) C0 FX hH 36 (by decide) f36 rfl (k_X6_countOf l X ad hi _ nm fa fb mc rd nr ar nb num lay pev pln tr ⟨_, _, _, _, _, _, _, _, _, _, _, _, f36, f37, f38, f39, f40, f41, f42, f43, f44, f45, f46, f47, hrL, hrR, hrS, hlok, hrok, hsok, hpm⟩ nm (by omega) (nI 1)) (cwV 2 C0.2.2.2.2 gX6_digest_X6_countOf rfl rfl rfl (by decide +kernel) ⟨Nat.le_of_ble_eq_true rfl, Nat.le_of_ble_eq_true rfl⟩) rfl rfl hl.1 (Nat.le_of_ble_eq_true rfl) dX6_digest_57 ⟨Nat.le_of_ble_eq_true rfl, Nat.le_of_ble_eq_true rfl⟩ (fun r57 g57c H locs h57 hH => ?_)
        obtain ⟨e57, rfl⟩ := h57
        rw [e57] at hH
        refine lv_ladd hx hb dX6_digest_60 ?_
        refine lv_lstore_n (lv' := [(1, .long (((lN 31) * (((lN 31) * hh) + (sp_countOf nm (nI 0) (nm, fa, fb, mc, rd)))) + (sp_countOf nm (nI 1) (nm, fa, fb, mc, rd)))), (3, .int (nI i)), (0, .ref (ad 36))]) hx hb dX6_digest_61 rfl hl (by decide) rfl (fun ls hl => ?_)
        refine lv_iconst (v := nI 0) hx hb dX6_digest_62 (by decide) ?_
        refine lv_istore_n (lv' := [(3, .int (nI 0)), (1, .long (((lN 31) * (((lN 31) * hh) + (sp_countOf nm (nI 0) (nm, fa, fb, mc, rd)))) + (sp_countOf nm (nI 1) (nm, fa, fb, mc, rd)))), (0, .ref (ad 36))]) hx hb dX6_digest_63 rfl hl (by decide) rfl (fun ls hl => ?_)
        have L64 : ∀ (fu : Nat) (hh : Int64) (i : Nat) (H : Heap) (locs : List Loc) (ls : Array Slot), (i ≤ 8) → (hh = dgr (lN 31 * (lN 31 * dg0 ((nm, fa, fb, mc, rd), nr, ar, (nb, num, lay, pev, pln, tr)) 5 + sp_countOf nm (nI 0) (nm, fa, fb, mc, rd)) + sp_countOf nm (nI 1) (nm, fa, fb, mc, rd)) nr ar i) → 8 - i < fu → WH X 48 ad (pA 48 ad s.heap.size) s g H locs → lv_has ls 5 [(3, .int (nI i)), (1, .long hh), (0, .ref (ad 36))] → W p l e zr2 s m ([.ref (ad 36)] : List Value).toArray below meth c H locs 0 0 Q (F0 m 64 ls []) := by
          intro fu
          induction fu with
          | zero =>
            intro hh i H locs ls j1 j2 hm
            exact absurd hm (Nat.not_lt_zero _)
          | succ fu ih =>
            have ih64 := ih; clear ih
            intro hh i H locs ls j1 j2 hm64 hH hl
            refine lv_iload_n hx hb dX6_digest_64 rfl (lv_at hl 0 rfl) ?_
            refine lv_bipush (v := nI 8) hx hb dX6_digest_65 (by decide) ?_
            refine ni_cge hx hb 117 dX6_digest_67 (by decide) (by omega) (by omega) (fun c67 => ?_) (fun c67 => ?_)
            · refine lv_iconst (v := nI 0) hx hb dX6_digest_117 (by decide) ?_
              refine lv_istore_n (lv' := [(3, .int (nI 0)), (1, .long hh), (0, .ref (ad 36))]) hx hb dX6_digest_118 rfl hl (by decide) rfl (fun ls hl => ?_)
              have L119 : ∀ (fu : Nat) (hh : Int64) (i : Nat) (H : Heap) (locs : List Loc) (ls : Array Slot), (i ≤ lay * pev) → (hh = mx (dgr (lN 31 * (lN 31 * dg0 ((nm, fa, fb, mc, rd), nr, ar, (nb, num, lay, pev, pln, tr)) 5 + sp_countOf nm (nI 0) (nm, fa, fb, mc, rd)) + sp_countOf nm (nI 1) (nm, fa, fb, mc, rd)) nr ar 8) pln i) → lay * pev - i < fu → WH X 48 ad (pA 48 ad s.heap.size) s g H locs → lv_has ls 5 [(3, .int (nI i)), (1, .long hh), (0, .ref (ad 36))] → W p l e zr2 s m ([.ref (ad 36)] : List Value).toArray below meth c H locs 0 0 Q (F0 m 119 ls []) := by
                intro fu
                induction fu with
                | zero =>
                  intro hh i H locs ls n1 n2 hm
                  exact absurd hm (Nat.not_lt_zero _)
                | succ fu ih =>
                  have ih119 := ih; clear ih
                  intro hh i H locs ls n1 n2 hm119 hH hl
                  have hqp := k5 i
                  refine lv_iload_n hx hb dX6_digest_119 rfl (lv_at hl 0 rfl) ?_
                  refine lv_aload_n hx hb dX6_digest_120 rfl (lv_at hl 2 rfl) ?_
                  refine rp_get C0 FX hH 36 (by decide) (ci := 6) (k := 14) f36 rfl kiX6 (by decide) kf152 rfl dX6_digest_121 ?_
                  refine lv_aload_n hx hb dX6_digest_124 rfl (lv_at hl 2 rfl) ?_
                  refine rp_get C0 FX hH 36 (by decide) (ci := 6) (k := 15) f36 rfl kiX6 (by decide) kf160 rfl dX6_digest_125 ?_
                  refine ni_imul hx hb dX6_digest_128 ?_
                  refine ni_cge hx hb 152 dX6_digest_129 (by decide) (by omega) (by omega) (fun c129 => ?_) (fun c129 => ?_)
                  · refine lv_lload_n hx hb dX6_digest_152 rfl (lv_at hl 1 rfl) ?_
                    refine RET _ _ _ _ _ _ dX6_digest_153 ?_ hH
                    refine ⟨rfl, ?_⟩
                    unfold sp_digest
                    rw [n2, show i = lay * pev by omega]
                  · refine lv_ldc2 hx hb C0.2.2.2.1 kl179 dX6_digest_132 ?_
                    refine lv_lload_n hx hb dX6_digest_135 rfl (lv_at hl 1 rfl) ?_
                    refine lv_lmul hx hb dX6_digest_136 ?_
                    refine lv_aload_n hx hb dX6_digest_137 rfl (lv_at hl 2 rfl) ?_
                    refine rp_get C0 FX hH 36 (by decide) (ci := 6) (k := 16) f36 rfl kiX6 (by decide) kf47 rfl dX6_digest_138 ?_
                    refine lv_iload_n hx hb dX6_digest_141 rfl (lv_at hl 0 rfl) ?_
                    refine rp_iald C0 FX hH 47 (by decide) (v := pln i) f47 i (by omega) (by decide) (hpl _ (by omega)) dX6_digest_142 ?_
                    refine ni_i2l hx hb (by have := hqp (by omega); omega) dX6_digest_143 ?_
                    refine lv_ladd hx hb dX6_digest_144 ?_
                    refine lv_lstore_n (lv' := [(1, .long (((lN 31) * hh) + (lN (pln i)))), (3, .int (nI i)), (0, .ref (ad 36))]) hx hb dX6_digest_145 rfl hl (by decide) rfl (fun ls hl => ?_)
                    refine lv_iinc (v := nI (i + 1)) (lv' := [(3, .int (nI (i + 1))), (1, .long (((lN 31) * hh) + (lN (pln i)))), (0, .ref (ad 36))]) hx hb dX6_digest_146 hl (k := 1) rfl (ni_inc1 _) (by decide) rfl (fun ls hl => ?_)
                    refine lv_goto (tgt := 119) hx hb dX6_digest_149 (by decide) ?_
                    exact ih119 (((lN 31) * hh) + (lN (pln i))) (i + 1) _ _ ls (by omega) (by rw [n2]; rfl) (by omega) hH (lv_sub hl [0, 1, 2] rfl)
              exact L119 ((lay * pev - 0) + 1) hh 0 _ _ ls (Nat.zero_le _) (by rw [j2, show i = 8 by omega]; rfl) (Nat.lt_succ_self _) hH (lv_sub hl [0, 1, 2] rfl)
            · refine lv_iconst (v := nI 0) hx hb dX6_digest_70 (by decide) ?_
              refine lv_istore (lv' := [(4, .int (nI 0)), (3, .int (nI i)), (1, .long hh), (0, .ref (ad 36))]) hx hb dX6_digest_71 hl (by decide) rfl (fun ls hl => ?_)
              have L73 : ∀ (fu : Nat) (hh : Int64) (j : Nat) (H : Heap) (locs : List Loc) (ls : Array Slot), (j ≤ nr i) → (hh = mx (dgr (lN 31 * (lN 31 * dg0 ((nm, fa, fb, mc, rd), nr, ar, (nb, num, lay, pev, pln, tr)) 5 + sp_countOf nm (nI 0) (nm, fa, fb, mc, rd)) + sp_countOf nm (nI 1) (nm, fa, fb, mc, rd)) nr ar i) (ar i) j) → nr i - j < fu → WH X 48 ad (pA 48 ad s.heap.size) s g H locs → lv_has ls 5 [(4, .int (nI j)), (3, .int (nI i)), (1, .long hh), (0, .ref (ad 36))] → W p l e zr2 s m ([.ref (ad 36)] : List Value).toArray below meth c H locs 0 0 Q (F0 m 73 ls []) := by
                intro fu
                induction fu with
                | zero =>
                  intro hh j H locs ls m1 m2 hm
                  exact absurd hm (Nat.not_lt_zero _)
                | succ fu ih =>
                  have ih73 := ih; clear ih
                  intro hh j H locs ls m1 m2 hm73 hH hl
                  have hro9 := (hro i (by omega)).1
                  have hqr := (hro i (by omega)).2 j
                  refine lv_iload hx hb dX6_digest_73 (lv_at hl 0 rfl) ?_
                  refine lv_aload_n hx hb dX6_digest_75 rfl (lv_at hl 3 rfl) ?_
                  refine rp_get C0 FX hH 36 (by decide) (ci := 6) (k := 9) f36 rfl kiX6 (by decide) kf35 rfl dX6_digest_76 ?_
                  refine lv_iload_n hx hb dX6_digest_79 rfl (lv_at hl 1 rfl) ?_
                  refine rp_iald C0 FX hH 43 (by decide) (v := nr i) f43 i (by omega) (by decide) (hcn _ (by omega)) dX6_digest_80 ?_
                  refine ni_cge hx hb 111 dX6_digest_81 (by decide) (by omega) (by omega) (fun c81 => ?_) (fun c81 => ?_)
                  · refine lv_iinc (v := nI (i + 1)) (lv' := [(3, .int (nI (i + 1))), (4, .int (nI j)), (1, .long hh), (0, .ref (ad 36))]) hx hb dX6_digest_111 hl (k := 1) rfl (ni_inc1 _) (by decide) rfl (fun ls hl => ?_)
                    refine lv_goto (tgt := 64) hx hb dX6_digest_114 (by decide) ?_
                    exact ih64 hh (i + 1) _ _ ls (by omega) (by rw [m2, show j = nr i by omega]; rfl) (by omega) hH (lv_sub hl [0, 2, 3] rfl)
                  · refine lv_ldc2 hx hb C0.2.2.2.1 kl179 dX6_digest_84 ?_
                    refine lv_lload_n hx hb dX6_digest_87 rfl (lv_at hl 2 rfl) ?_
                    refine lv_lmul hx hb dX6_digest_88 ?_
                    refine lv_aload_n hx hb dX6_digest_89 rfl (lv_at hl 3 rfl) ?_
                    refine rp_get C0 FX hH 36 (by decide) (ci := 6) (k := 10) f36 rfl kiX6 (by decide) kf38 rfl dX6_digest_90 ?_
                    refine lv_sipush (v := nI 400) hx hb dX6_digest_93 (by decide) ?_
                    refine lv_iload_n hx hb dX6_digest_96 rfl (lv_at hl 1 rfl) ?_
                    refine ni_imul hx hb dX6_digest_97 ?_
                    refine lv_iload hx hb dX6_digest_98 (lv_at hl 0 rfl) ?_
                    refine ni_iadd hx hb dX6_digest_100 ?_
                    refine rp_iald C0 FX hH 44 (by decide) (v := ar i j) f44 ((400 * i) + j) (by omega) (by decide) (hms i (by omega) _ (by omega)) dX6_digest_101 ?_
                    refine ni_i2l hx hb (by have := hqr c81; omega) dX6_digest_102 ?_
                    refine lv_ladd hx hb dX6_digest_103 ?_
                    refine lv_lstore_n (lv' := [(1, .long (((lN 31) * hh) + (lN (ar i j)))), (4, .int (nI j)), (3, .int (nI i)), (0, .ref (ad 36))]) hx hb dX6_digest_104 rfl hl (by decide) rfl (fun ls hl => ?_)
                    refine lv_iinc (v := nI (j + 1)) (lv' := [(4, .int (nI (j + 1))), (1, .long (((lN 31) * hh) + (lN (ar i j)))), (3, .int (nI i)), (0, .ref (ad 36))]) hx hb dX6_digest_105 hl (k := 1) rfl (ni_inc1 _) (by decide) rfl (fun ls hl => ?_)
                    refine lv_goto (tgt := 73) hx hb dX6_digest_108 (by decide) ?_
                    exact ih73 (((lN 31) * hh) + (lN (ar i j))) (j + 1) _ _ ls (by omega) (by rw [m2]; rfl) (by omega) hH (lv_sub hl [0, 2, 1, 3] rfl)
              exact L73 ((nr i - 0) + 1) hh 0 _ _ ls (Nat.zero_le _) (j2) (Nat.lt_succ_self _) hH (lv_sub hl [0, 1, 2, 3] rfl)
        exact L64 ((8 - 0) + 1) (((lN 31) * (((lN 31) * hh) + (sp_countOf nm (nI 0) (nm, fa, fb, mc, rd)))) + (sp_countOf nm (nI 1) (nm, fa, fb, mc, rd))) 0 _ _ ls (by omega) (by rw [i2, show i = 5 by omega]; rfl) (Nat.lt_succ_self _) hH (lv_sub hl [0, 1, 2] rfl)
      · refine lv_ldc2 hx hb C0.2.2.2.1 kl179 dX6_digest_11 ?_
        refine lv_lload_n hx hb dX6_digest_14 rfl (lv_at hl 1 rfl) ?_
        refine lv_lmul hx hb dX6_digest_15 ?_
        refine lv_aload_n hx hb dX6_digest_16 rfl (lv_at hl 2 rfl) ?_
        refine lv_iload_n hx hb dX6_digest_17 rfl (lv_at hl 0 rfl) ?_
        refine rc_Vi (rest := [.long ((lN 31) * hh)]) C0 FX hH 36 (by decide) f36 rfl (k_X6_manyOf l X ad hi _ nm fa fb mc rd nr ar nb num lay pev pln tr ⟨_, _, _, _, _, _, _, _, _, _, _, _, f36, f37, f38, f39, f40, f41, f42, f43, f44, f45, f46, f47, hrL, hrR, hrS, hlok, hrok, hsok, hpm⟩ i (by omega)) (cwV 1 C0.2.2.2.2 gX6_digest_X6_manyOf rfl rfl rfl (by decide +kernel) ⟨Nat.le_of_ble_eq_true rfl, Nat.le_of_ble_eq_true rfl⟩) rfl rfl hl.1 (Nat.le_of_ble_eq_true rfl) dX6_digest_18 ⟨Nat.le_of_ble_eq_true rfl, Nat.le_of_ble_eq_true rfl⟩ (fun r18 g18c H locs h18 hH => ?_)
        obtain ⟨e18, rfl⟩ := h18
        rw [e18] at hH
        refine ni_i2l hx hb (by omega) dX6_digest_21 ?_
        refine lv_ladd hx hb dX6_digest_22 ?_
        refine lv_lstore_n (lv' := [(1, .long (((lN 31) * hh) + (lN (mny ((nm, fa, fb, mc, rd), nr, ar, (nb, num, lay, pev, pln, tr)) i)))), (3, .int (nI i)), (0, .ref (ad 36))]) hx hb dX6_digest_23 rfl hl (by decide) rfl (fun ls hl => ?_)
        refine lv_iinc (v := nI (i + 1)) (lv' := [(3, .int (nI (i + 1))), (1, .long (((lN 31) * hh) + (lN (mny ((nm, fa, fb, mc, rd), nr, ar, (nb, num, lay, pev, pln, tr)) i)))), (0, .ref (ad 36))]) hx hb dX6_digest_24 hl (k := 1) rfl (ni_inc1 _) (by decide) rfl (fun ls hl => ?_)
        refine lv_goto (tgt := 6) hx hb dX6_digest_27 (by decide) ?_
        exact ih6 (((lN 31) * hh) + (lN (mny ((nm, fa, fb, mc, rd), nr, ar, (nb, num, lay, pev, pln, tr)) i))) (i + 1) _ _ ls (by omega) (by rw [i2]; rfl) (by omega) hH (lv_sub hl [0, 1, 2] rfl)
  exact L6 ((5 - 0) + 1) (lN 149) 0 _ _ ls (by omega) (by rfl) (Nat.lt_succ_self _) hH (lv_sub hl [0, 1, 2] rfl)
