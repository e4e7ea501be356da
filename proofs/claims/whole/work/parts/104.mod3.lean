set_option maxHeartbeats 4000000 in
set_option maxRecDepth 100000 in
theorem k_X6_empty (l : Launch) (X : Cx) (ad : Nat → Nat) (hi : inj 48 ad) (g : PF) (nm fa fb : Nat) (mc rd : Nat → Nat → Nat) (nr : Nat → Nat) (ar : Nat → Nat → Nat) (nb : Nat) (num : Nat → Nat) (lay pev : Nat) (pln : Nat → Nat) (tr : Nat) (hR : rMod X ad ((nm, fa, fb, mc, rd), nr, ar, (nb, num, lay, pev, pln, tr)) g) (p0 : Int32) : Ki l yX6_empty wsX6_empty zr2 X 48 ad g [.ref (ad 36), .int p0] (fun r g' => r = (rowOp (sp_empty) p0 ((nm, fa, fb, mc, rd), nr, ar, (nb, num, lay, pev, pln, tr))).1 ∧ rMod X ad (rowOp (sp_empty) p0 ((nm, fa, fb, mc, rd), nr, ar, (nb, num, lay, pev, pln, tr))).2 g' ∧ frM g g') := by
  refine Ki.of (cc := cX6_empty) (maxL := 3) hi (by decide) rfl (Nat.le_of_ble_eq_true rfl) ?_
  intro p e s m below meth c Q E RET ls hl
  obtain ⟨C0, FX, hH⟩ := E
  have hx := C0.1
  have hb := C0.2.1
  have kiX6 : ∀ w ∈ u_ws RX6 TX6 18, w ∈ wsX6_empty := (by decide +kernel)
  have kf35 : Cond.fieldLink RX6 35 "YarnMillModel" "cells" "[I" ∈ wsX6_empty := (by decide +kernel)
  have hl : lv_has ls 3 [(0, .ref (ad 36)), (1, .int p0)] := hl
  have fr : ∀ j, (j < 36) → g j = g j := fun j _ => rfl
  obtain ⟨md, ma, mb, ml, mr, mo, cn, ms, fs, nn, pl, pm, f36, f37, f38, f39, f40, f41, f42, f43, f44, f45, f46, f47, hrL, hrR, hrS, hlok, hrok, hsok, hpm⟩ := hR
  have f36 : g 36 = .inr (6, [.int (nI fa), .int (nI fb), .int (nI nm), .ref (ad 37), .ref (ad 38), .ref (ad 39), .ref (ad 40), .ref (ad 41), .ref (ad 42), .ref (ad 43), .ref (ad 44), .ref (ad 45), .int (nI nb), .ref (ad 46), .int (nI lay), .int (nI pm), .ref (ad 47), .int (nI tr)]) := f36
  have hq37 : ∀ j, j < nm → md j = mc j 0 := fun j hj => (hrL.1 j hj).1
  have hq38 : ∀ j, j < nm → ma j = mc j 1 := fun j hj => (hrL.1 j hj).2.1
  have hq39 : ∀ j, j < nm → mb j = mc j 2 := fun j hj => (hrL.1 j hj).2.2.1
  have hq40 : ∀ j, j < nm → ml j = mc j 3 := fun j hj => (hrL.1 j hj).2.2.2.1
  have hq41 : ∀ j, j < nm → mr j = mc j 4 := fun j hj => (hrL.1 j hj).2.2.2.2
  have hmo : ∀ j, j < nm → ∀ r, r < mc j 4 → mo (3 * j + r) = rd j r := hrL.2
  have h6 : nm ≤ 6 := hlok.1
  have hfa : 1 ≤ fa ∧ fa ≤ 10000 := hlok.2.1
  have hfb : 1 ≤ fb ∧ fb ≤ 10000 := hlok.2.2.1
  have hmk : ∀ j, j < nm → mcOk (mc j) ∧ ∀ r, r < mc j 4 → 1 ≤ rd j r ∧ rd j r ≤ 1000 := hlok.2.2.2
  have hcn : ∀ r, r < 8 → cn r = nr r := hrR.1
  have hms : ∀ r, r < 8 → ∀ j, j < nr r → ms (400 * r + j) = ar r j := hrR.2
  have hro : ∀ r, r < 8 → nr r ≤ 400 ∧ ∀ j, j < nr r → ar r j ≤ 1000000 := hrok
  have hnn : ∀ j, j < nb → nn j = num j := hrS.1
  have hper : 0 < lay → pm = pev := hrS.2.1
  have hpl : ∀ j, j < lay * pev → pl j = pln j := hrS.2.2
  obtain ⟨k1, k2, k3, k4, k5, k6, k7⟩ := id hsok
  have k1 : nb ≤ 12 := k1
  have k2 : ∀ j, j < nb → num j ≤ 10000 := k2
  have k3 : 0 < lay → (1 ≤ pev ∧ pev ≤ 6) := k3
  have k4 : lay * pev ≤ 12 := k4
  have k5 : ∀ j, j < lay * pev → pln j ≤ 12 := k5
  have k6 : tr ≤ 100000 := k6
  have k7 : lay ≤ 12 := k7
  refine lv_iload_n hx hb dX6_empty_0 rfl (lv_at hl 1 rfl) ?_
  refine rc_Si (rest := []) C0 FX hH (k_X6_isRow l X ad hi _ p0) (va_cwS 1 C0.2.2.2.2 gX6_empty_X6_isRow rfl rfl rfl (by decide +kernel) ⟨Nat.le_of_ble_eq_true rfl, Nat.le_of_ble_eq_true rfl⟩) rfl rfl hl.1 (Nat.le_of_ble_eq_true rfl) dX6_empty_1 ⟨Nat.le_of_ble_eq_true rfl, Nat.le_of_ble_eq_true rfl⟩ (fun r1 g1c H locs h1 hH => ?_)
  obtain ⟨e1, rfl⟩ := h1
  rw [e1] at hH
  refine rb_ne hx hb 10 dX6_empty_4 (by decide) (fun c4 => ?_) (fun c4 => ?_)
  · obtain ⟨rv, rfl, rv1, rv2, rv3⟩ := rng_nI c4
    refine lv_aload_n hx hb dX6_empty_10 rfl (lv_at hl 0 rfl) ?_
    refine rp_get C0 FX hH 36 (by decide) (ci := 6) (k := 9) f36 rfl kiX6 (by decide) kf35 rfl dX6_empty_11 ?_
    refine lv_iload_n hx hb dX6_empty_14 rfl (lv_at hl 1 rfl) ?_
    refine rp_iald C0 FX hH 43 (by decide) (v := nr rv) f43 rv (by omega) (by decide) (hcn _ (by omega)) dX6_empty_15 ?_
    refine lv_istore_n (lv' := [(2, .int (nI (nr rv))), (0, .ref (ad 36)), (1, .int (nI rv))]) hx hb dX6_empty_16 rfl hl (by decide) rfl (fun ls hl => ?_)
    refine lv_aload_n hx hb dX6_empty_17 rfl (lv_at hl 1 rfl) ?_
    refine rp_get C0 FX hH 36 (by decide) (ci := 6) (k := 9) f36 rfl kiX6 (by decide) kf35 rfl dX6_empty_18 ?_
    refine lv_iload_n hx hb dX6_empty_21 rfl (lv_at hl 2 rfl) ?_
    refine lv_iconst (v := nI 0) hx hb dX6_empty_22 (by decide) ?_
    refine rp_iast C0 FX hH 43 (by decide) f43 rv 0 (by omega) (by decide) dX6_empty_23 (fun g1 H locs eq2 nq2 hH => ?_)
    have f43 : g1 43 = arr X 8 (va_up cn rv 0) := eq2
    have f36 : g1 36 = .inr (6, [.int (nI fa), .int (nI fb), .int (nI nm), .ref (ad 37), .ref (ad 38), .ref (ad 39), .ref (ad 40), .ref (ad 41), .ref (ad 42), .ref (ad 43), .ref (ad 44), .ref (ad 45), .int (nI nb), .ref (ad 46), .int (nI lay), .int (nI pm), .ref (ad 47), .int (nI tr)]) := (nq2 _ (by omega)).trans f36
    have f37 : g1 37 = arr X 6 md := (nq2 _ (by omega)).trans f37
    have f38 : g1 38 = arr X 6 ma := (nq2 _ (by omega)).trans f38
    have f39 : g1 39 = arr X 6 mb := (nq2 _ (by omega)).trans f39
    have f40 : g1 40 = arr X 6 ml := (nq2 _ (by omega)).trans f40
    have f41 : g1 41 = arr X 6 mr := (nq2 _ (by omega)).trans f41
    have f42 : g1 42 = arr X 18 mo := (nq2 _ (by omega)).trans f42
    have f44 : g1 44 = arr X 3200 ms := (nq2 _ (by omega)).trans f44
    have f45 : g1 45 = arr X 400 fs := (nq2 _ (by omega)).trans f45
    have f46 : g1 46 = arr X 12 nn := (nq2 _ (by omega)).trans f46
    have f47 : g1 47 = arr X 12 pl := (nq2 _ (by omega)).trans f47
    have fr : ∀ j, (j < 36) → g1 j = g j := fun j a0 => (nq2 j (by omega)).trans (fr j a0)
    refine lv_iload_n hx hb dX6_empty_24 rfl (lv_at hl 0 rfl) ?_
    refine RET _ _ _ _ _ _ dX6_empty_25 rfl ?_ hH
    exact mod_row rv2 rfl ⟨_, _, _, _, _, _, _, _, _, _, _, _, f36, f37, f38, f39, f40, f41, f42, f43, f44, f45, f46, f47, hrL, relR_up hrR hrok rv2 (fun r hr => by by_cases q : r = rv; rw [q, va_up_self, va_up_self]; rw [va_up_ne _ _ q, va_up_ne _ _ q]; exact hcn r hr) (fun j hj => absurd hj (Nat.not_lt_zero _)) (fun _ _ => rfl), hrS, hlok, rowsOk_up hrok (Nat.zero_le _) (fun j hj => absurd hj (Nat.not_lt_zero _)), hsok, hpm⟩ fr
  · refine lv_bipush (v := (-2)) hx hb dX6_empty_7 (by decide) ?_
    refine RET _ _ _ _ _ _ dX6_empty_9 rfl ?_ hH
    exact mod_bad (by assumption) ⟨_, _, _, _, _, _, _, _, _, _, _, _, f36, f37, f38, f39, f40, f41, f42, f43, f44, f45, f46, f47, hrL, hrR, hrS, hlok, hrok, hsok, hpm⟩
set_option maxHeartbeats 4000000 in
set_option maxRecDepth 100000 in
theorem k_X6_cell (l : Launch) (X : Cx) (ad : Nat → Nat) (hi : inj 48 ad) (g : PF) (nm fa fb : Nat) (mc rd : Nat → Nat → Nat) (nr : Nat → Nat) (ar : Nat → Nat → Nat) (nb : Nat) (num : Nat → Nat) (lay pev : Nat) (pln : Nat → Nat) (tr : Nat) (hR : rMod X ad ((nm, fa, fb, mc, rd), nr, ar, (nb, num, lay, pev, pln, tr)) g) (p0 p1 : Int32) : Ki l yX6_cell wsX6_cell zr2 X 48 ad g [.ref (ad 36), .int p0, .int p1] (fun r g' => r = (rowOp (sp_cell p1) p0 ((nm, fa, fb, mc, rd), nr, ar, (nb, num, lay, pev, pln, tr))).1 ∧ rMod X ad (rowOp (sp_cell p1) p0 ((nm, fa, fb, mc, rd), nr, ar, (nb, num, lay, pev, pln, tr))).2 g' ∧ frM g g') := by
  refine Ki.of (cc := cX6_cell) (maxL := 3) hi (by decide) rfl (Nat.le_of_ble_eq_true rfl) ?_
  intro p e s m below meth c Q E RET ls hl
  obtain ⟨C0, FX, hH⟩ := E
  have hx := C0.1
  have hb := C0.2.1
  have kiX6 : ∀ w ∈ u_ws RX6 TX6 18, w ∈ wsX6_cell := (by decide +kernel)
  have kf35 : Cond.fieldLink RX6 35 "YarnMillModel" "cells" "[I" ∈ wsX6_cell := (by decide +kernel)
  have kf38 : Cond.fieldLink RX6 38 "YarnMillModel" "mass" "[I" ∈ wsX6_cell := (by decide +kernel)
  have hl : lv_has ls 3 [(0, .ref (ad 36)), (1, .int p0), (2, .int p1)] := hl
  have fr : ∀ j, (j < 36) → g j = g j := fun j _ => rfl
  obtain ⟨md, ma, mb, ml, mr, mo, cn, ms, fs, nn, pl, pm, f36, f37, f38, f39, f40, f41, f42, f43, f44, f45, f46, f47, hrL, hrR, hrS, hlok, hrok, hsok, hpm⟩ := hR
  have f36 : g 36 = .inr (6, [.int (nI fa), .int (nI fb), .int (nI nm), .ref (ad 37), .ref (ad 38), .ref (ad 39), .ref (ad 40), .ref (ad 41), .ref (ad 42), .ref (ad 43), .ref (ad 44), .ref (ad 45), .int (nI nb), .ref (ad 46), .int (nI lay), .int (nI pm), .ref (ad 47), .int (nI tr)]) := f36
  have hq37 : ∀ j, j < nm → md j = mc j 0 := fun j hj => (hrL.1 j hj).1
  have hq38 : ∀ j, j < nm → ma j = mc j 1 := fun j hj => (hrL.1 j hj).2.1
  have hq39 : ∀ j, j < nm → mb j = mc j 2 := fun j hj => (hrL.1 j hj).2.2.1
  have hq40 : ∀ j, j < nm → ml j = mc j 3 := fun j hj => (hrL.1 j hj).2.2.2.1
  have hq41 : ∀ j, j < nm → mr j = mc j 4 := fun j hj => (hrL.1 j hj).2.2.2.2
  have hmo : ∀ j, j < nm → ∀ r, r < mc j 4 → mo (3 * j + r) = rd j r := hrL.2
  have h6 : nm ≤ 6 := hlok.1
  have hfa : 1 ≤ fa ∧ fa ≤ 10000 := hlok.2.1
  have hfb : 1 ≤ fb ∧ fb ≤ 10000 := hlok.2.2.1
  have hmk : ∀ j, j < nm → mcOk (mc j) ∧ ∀ r, r < mc j 4 → 1 ≤ rd j r ∧ rd j r ≤ 1000 := hlok.2.2.2
  have hcn : ∀ r, r < 8 → cn r = nr r := hrR.1
  have hms : ∀ r, r < 8 → ∀ j, j < nr r → ms (400 * r + j) = ar r j := hrR.2
  have hro : ∀ r, r < 8 → nr r ≤ 400 ∧ ∀ j, j < nr r → ar r j ≤ 1000000 := hrok
  have hnn : ∀ j, j < nb → nn j = num j := hrS.1
  have hper : 0 < lay → pm = pev := hrS.2.1
  have hpl : ∀ j, j < lay * pev → pl j = pln j := hrS.2.2
  obtain ⟨k1, k2, k3, k4, k5, k6, k7⟩ := id hsok
  have k1 : nb ≤ 12 := k1
  have k2 : ∀ j, j < nb → num j ≤ 10000 := k2
  have k3 : 0 < lay → (1 ≤ pev ∧ pev ≤ 6) := k3
  have k4 : lay * pev ≤ 12 := k4
  have k5 : ∀ j, j < lay * pev → pln j ≤ 12 := k5
  have k6 : tr ≤ 100000 := k6
  have k7 : lay ≤ 12 := k7
  refine lv_iload_n hx hb dX6_cell_0 rfl (lv_at hl 1 rfl) ?_
  refine rc_Si (rest := []) C0 FX hH (k_X6_isRow l X ad hi _ p0) (va_cwS 1 C0.2.2.2.2 gX6_cell_X6_isRow rfl rfl rfl (by decide +kernel) ⟨Nat.le_of_ble_eq_true rfl, Nat.le_of_ble_eq_true rfl⟩) rfl rfl hl.1 (Nat.le_of_ble_eq_true rfl) dX6_cell_1 ⟨Nat.le_of_ble_eq_true rfl, Nat.le_of_ble_eq_true rfl⟩ (fun r1 g1c H locs h1 hH => ?_)
  obtain ⟨e1, rfl⟩ := h1
  rw [e1] at hH
  refine rb_eq hx hb 15 dX6_cell_4 (by decide) (fun c4 => ?_) (fun c4 => ?_)
  · refine lv_bipush (v := (-2)) hx hb dX6_cell_15 (by decide) ?_
    refine RET _ _ _ _ _ _ dX6_cell_17 rfl ?_ hH
    exact mod_bad (by assumption) ⟨_, _, _, _, _, _, _, _, _, _, _, _, f36, f37, f38, f39, f40, f41, f42, f43, f44, f45, f46, f47, hrL, hrR, hrS, hlok, hrok, hsok, hpm⟩
  · obtain ⟨rv, rfl, rv1, rv2, rv3⟩ := rng_nI c4
    refine lv_iload_n hx hb dX6_cell_7 rfl (lv_at hl 2 rfl) ?_
    refine lv_i2l hx hb dX6_cell_8 rfl ?_
    refine rc_Si (rest := []) C0 FX hH (k_X6_isMass_rng l X ad hi _ p1) (va_cwS 1 C0.2.2.2.2 gX6_cell_X6_isMass rfl rfl rfl (by decide +kernel) ⟨Nat.le_of_ble_eq_true rfl, Nat.le_of_ble_eq_true rfl⟩) rfl rfl hl.1 (Nat.le_of_ble_eq_true rfl) dX6_cell_9 ⟨Nat.le_of_ble_eq_true rfl, Nat.le_of_ble_eq_true rfl⟩ (fun r9 g9c H locs h9 hH => ?_)
    obtain ⟨e9, rfl⟩ := h9
    rw [e9] at hH
    refine rb_ne hx hb 18 dX6_cell_12 (by decide) (fun c12 => ?_) (fun c12 => ?_)
    · obtain ⟨v, rfl, v1, v2, v3⟩ := rng_nI c12
      have hro9 := (hro rv (by omega)).1
      have hra9 := (hro rv (by omega)).2
      refine lv_aload_n hx hb dX6_cell_18 rfl (lv_at hl 0 rfl) ?_
      refine rp_get C0 FX hH 36 (by decide) (ci := 6) (k := 9) f36 rfl kiX6 (by decide) kf35 rfl dX6_cell_19 ?_
      refine lv_iload_n hx hb dX6_cell_22 rfl (lv_at hl 1 rfl) ?_
      refine rp_iald C0 FX hH 43 (by decide) (v := nr rv) f43 rv (by omega) (by decide) (hcn _ (by omega)) dX6_cell_23 ?_
      refine lv_sipush (v := nI 400) hx hb dX6_cell_24 (by decide) ?_
      refine ni_cne hx hb 33 dX6_cell_27 (by decide) (by omega) (by omega) (fun c27 => ?_) (fun c27 => ?_)
      · refine lv_aload_n hx hb dX6_cell_33 rfl (lv_at hl 0 rfl) ?_
        refine rp_get C0 FX hH 36 (by decide) (ci := 6) (k := 10) f36 rfl kiX6 (by decide) kf38 rfl dX6_cell_34 ?_
        refine lv_sipush (v := nI 400) hx hb dX6_cell_37 (by decide) ?_
        refine lv_iload_n hx hb dX6_cell_40 rfl (lv_at hl 1 rfl) ?_
        refine ni_imul hx hb dX6_cell_41 ?_
        refine lv_aload_n hx hb dX6_cell_42 rfl (lv_at hl 0 rfl) ?_
        refine rp_get C0 FX hH 36 (by decide) (ci := 6) (k := 9) f36 rfl kiX6 (by decide) kf35 rfl dX6_cell_43 ?_
        refine lv_iload_n hx hb dX6_cell_46 rfl (lv_at hl 1 rfl) ?_
        refine rp_iald C0 FX hH 43 (by decide) (v := nr rv) f43 rv (by omega) (by decide) (hcn _ (by omega)) dX6_cell_47 ?_
        refine ni_iadd hx hb dX6_cell_48 ?_
        refine lv_iload_n hx hb dX6_cell_49 rfl (lv_at hl 2 rfl) ?_
        refine rp_iast C0 FX hH 44 (by decide) f44 ((400 * rv) + (nr rv)) v (by omega) (by decide) dX6_cell_50 (fun g1 H locs eq2 nq2 hH => ?_)
        have f44 : g1 44 = arr X 3200 (va_up ms ((400 * rv) + (nr rv)) v) := eq2
        have f36 : g1 36 = .inr (6, [.int (nI fa), .int (nI fb), .int (nI nm), .ref (ad 37), .ref (ad 38), .ref (ad 39), .ref (ad 40), .ref (ad 41), .ref (ad 42), .ref (ad 43), .ref (ad 44), .ref (ad 45), .int (nI nb), .ref (ad 46), .int (nI lay), .int (nI pm), .ref (ad 47), .int (nI tr)]) := (nq2 _ (by omega)).trans f36
        have f37 : g1 37 = arr X 6 md := (nq2 _ (by omega)).trans f37
        have f38 : g1 38 = arr X 6 ma := (nq2 _ (by omega)).trans f38
        have f39 : g1 39 = arr X 6 mb := (nq2 _ (by omega)).trans f39
        have f40 : g1 40 = arr X 6 ml := (nq2 _ (by omega)).trans f40
        have f41 : g1 41 = arr X 6 mr := (nq2 _ (by omega)).trans f41
        have f42 : g1 42 = arr X 18 mo := (nq2 _ (by omega)).trans f42
        have f43 : g1 43 = arr X 8 cn := (nq2 _ (by omega)).trans f43
        have f45 : g1 45 = arr X 400 fs := (nq2 _ (by omega)).trans f45
        have f46 : g1 46 = arr X 12 nn := (nq2 _ (by omega)).trans f46
        have f47 : g1 47 = arr X 12 pl := (nq2 _ (by omega)).trans f47
        have fr : ∀ j, (j < 36) → g1 j = g j := fun j a0 => (nq2 j (by omega)).trans (fr j a0)
        refine lv_aload_n hx hb dX6_cell_51 rfl (lv_at hl 0 rfl) ?_
        refine rp_get C0 FX hH 36 (by decide) (ci := 6) (k := 9) f36 rfl kiX6 (by decide) kf35 rfl dX6_cell_52 ?_
        refine lv_iload_n hx hb dX6_cell_55 rfl (lv_at hl 1 rfl) ?_
        refine lv_dup2_11 hx hb dX6_cell_56 rfl rfl ?_
        refine rp_iald C0 FX hH 43 (by decide) (v := nr rv) f43 rv (by omega) (by decide) (hcn _ (by omega)) dX6_cell_57 ?_
        refine lv_iconst (v := nI 1) hx hb dX6_cell_58 (by decide) ?_
        refine ni_iadd hx hb dX6_cell_59 ?_
        refine rp_iast C0 FX hH 43 (by decide) f43 rv ((nr rv) + 1) (by omega) (by decide) dX6_cell_60 (fun g3 H locs eq4 nq4 hH => ?_)
        have f43 : g3 43 = arr X 8 (va_up cn rv ((nr rv) + 1)) := eq4
        have f36 : g3 36 = .inr (6, [.int (nI fa), .int (nI fb), .int (nI nm), .ref (ad 37), .ref (ad 38), .ref (ad 39), .ref (ad 40), .ref (ad 41), .ref (ad 42), .ref (ad 43), .ref (ad 44), .ref (ad 45), .int (nI nb), .ref (ad 46), .int (nI lay), .int (nI pm), .ref (ad 47), .int (nI tr)]) := (nq4 _ (by omega)).trans f36
        have f37 : g3 37 = arr X 6 md := (nq4 _ (by omega)).trans f37
        have f38 : g3 38 = arr X 6 ma := (nq4 _ (by omega)).trans f38
        have f39 : g3 39 = arr X 6 mb := (nq4 _ (by omega)).trans f39
        have f40 : g3 40 = arr X 6 ml := (nq4 _ (by omega)).trans f40
        have f41 : g3 41 = arr X 6 mr := (nq4 _ (by omega)).trans f41
        have f42 : g3 42 = arr X 18 mo := (nq4 _ (by omega)).trans f42
        have f44 : g3 44 = arr X 3200 (va_up ms ((400 * rv) + (nr rv)) v) := (nq4 _ (by omega)).trans f44
        have f45 : g3 45 = arr X 400 fs := (nq4 _ (by omega)).trans f45
        have f46 : g3 46 = arr X 12 nn := (nq4 _ (by omega)).trans f46
        have f47 : g3 47 = arr X 12 pl := (nq4 _ (by omega)).trans f47
        have fr : ∀ j, (j < 36) → g3 j = g j := fun j a0 => (nq4 j (by omega)).trans (fr j a0)
        refine lv_aload_n hx hb dX6_cell_61 rfl (lv_at hl 0 rfl) ?_
        refine rp_get C0 FX hH 36 (by decide) (ci := 6) (k := 9) f36 rfl kiX6 (by decide) kf35 rfl dX6_cell_62 ?_
        refine lv_iload_n hx hb dX6_cell_65 rfl (lv_at hl 1 rfl) ?_
        refine rp_iald C0 FX hH 43 (by decide) (v := (va_up cn rv ((nr rv) + 1)) rv) f43 rv (by omega) (by decide) rfl dX6_cell_66 ?_
        refine RET _ _ _ _ _ _ dX6_cell_67 rfl ?_ hH
        rw [va_up_self]
        refine mod_row (n1 := nr rv + 1) (a1 := va_up (ar rv) (nr rv) v) rv2 (by unfold sp_cell; rw [if_pos ((rng_iff (by omega)).mpr (by omega)), if_neg (by show ¬ 400 ≤ nr rv; omega), tN_nI (by omega)]) ⟨_, _, _, _, _, _, _, _, _, _, _, _, f36, f37, f38, f39, f40, f41, f42, f43, f44, f45, f46, f47, hrL, relR_up hrR hrok rv2 (fun r hr => by by_cases q : r = rv; rw [q, va_up_self, va_up_self]; rw [va_up_ne _ _ q, va_up_ne _ _ q]; exact hcn r hr) ?_ ?_, hrS, hlok, ?_, hsok, hpm⟩ fr
        · intro j hj
          by_cases q : j = nr rv
          · subst q; rw [va_up_self, va_up_self]
          · rw [va_up_ne _ _ q, va_up_ne _ _ (by omega)]; exact hms rv (by omega) j (by omega)
        · intro i hi5; rw [va_up_ne _ _ (by omega)]
        · exact rowsOk_up hrok (by omega) (fun j hj => by by_cases q : j = nr rv; rw [q, va_up_self]; omega; rw [va_up_ne _ _ q]; exact hra9 j (by omega))
      · refine lv_bipush (v := (-4)) hx hb dX6_cell_30 (by decide) ?_
        refine RET _ _ _ _ _ _ dX6_cell_32 rfl ?_ hH
        exact mod_same rv2 (by unfold sp_cell; rw [if_pos ((rng_iff (by omega)).mpr (by omega)), if_pos (by show 400 ≤ nr rv; omega)]) ⟨_, _, _, _, _, _, _, _, _, _, _, _, f36, f37, f38, f39, f40, f41, f42, f43, f44, f45, f46, f47, hrL, hrR, hrS, hlok, hrok, hsok, hpm⟩ fr
    · refine lv_bipush (v := (-2)) hx hb dX6_cell_15 (by decide) ?_
      refine RET _ _ _ _ _ _ dX6_cell_17 rfl ?_ hH
      exact mod_same rv2 (by unfold sp_cell; rw [if_neg (by assumption)]) ⟨_, _, _, _, _, _, _, _, _, _, _, _, f36, f37, f38, f39, f40, f41, f42, f43, f44, f45, f46, f47, hrL, hrR, hrS, hlok, hrok, hsok, hpm⟩ fr
set_option maxHeartbeats 4000000 in
set_option maxRecDepth 100000 in
theorem k_X6_at (l : Launch) (X : Cx) (ad : Nat → Nat) (hi : inj 48 ad) (g : PF) (nm fa fb : Nat) (mc rd : Nat → Nat → Nat) (nr : Nat → Nat) (ar : Nat → Nat → Nat) (nb : Nat) (num : Nat → Nat) (lay pev : Nat) (pln : Nat → Nat) (tr : Nat) (hR : rMod X ad ((nm, fa, fb, mc, rd), nr, ar, (nb, num, lay, pev, pln, tr)) g) (p0 p1 : Int32) : Ki l yX6_at wsX6_at zr2 X 48 ad g [.ref (ad 36), .int p0, .int p1] (fun r g' => g' = g ∧ r = rowRd (sp_at p1) (-2) p0 ((nm, fa, fb, mc, rd), nr, ar, (nb, num, lay, pev, pln, tr))) := by
  refine Ki.of (cc := cX6_at) (maxL := 3) hi (by decide) rfl (Nat.le_of_ble_eq_true rfl) ?_
  intro p e s m below meth c Q E RET ls hl
  obtain ⟨C0, FX, hH⟩ := E
  have hx := C0.1
  have hb := C0.2.1
  have kiX6 : ∀ w ∈ u_ws RX6 TX6 18, w ∈ wsX6_at := (by decide +kernel)
  have kf35 : Cond.fieldLink RX6 35 "YarnMillModel" "cells" "[I" ∈ wsX6_at := (by decide +kernel)
  have kf38 : Cond.fieldLink RX6 38 "YarnMillModel" "mass" "[I" ∈ wsX6_at := (by decide +kernel)
  have hl : lv_has ls 3 [(0, .ref (ad 36)), (1, .int p0), (2, .int p1)] := hl
  obtain ⟨md, ma, mb, ml, mr, mo, cn, ms, fs, nn, pl, pm, f36, f37, f38, f39, f40, f41, f42, f43, f44, f45, f46, f47, hrL, hrR, hrS, hlok, hrok, hsok, hpm⟩ := hR
  have f36 : g 36 = .inr (6, [.int (nI fa), .int (nI fb), .int (nI nm), .ref (ad 37), .ref (ad 38), .ref (ad 39), .ref (ad 40), .ref (ad 41), .ref (ad 42), .ref (ad 43), .ref (ad 44), .ref (ad 45), .int (nI nb), .ref (ad 46), .int (nI lay), .int (nI pm), .ref (ad 47), .int (nI tr)]) := f36
  have hq37 : ∀ j, j < nm → md j = mc j 0 := fun j hj => (hrL.1 j hj).1
  have hq38 : ∀ j, j < nm → ma j = mc j 1 := fun j hj => (hrL.1 j hj).2.1
  have hq39 : ∀ j, j < nm → mb j = mc j 2 := fun j hj => (hrL.1 j hj).2.2.1
  have hq40 : ∀ j, j < nm → ml j = mc j 3 := fun j hj => (hrL.1 j hj).2.2.2.1
  have hq41 : ∀ j, j < nm → mr j = mc j 4 := fun j hj => (hrL.1 j hj).2.2.2.2
  have hmo : ∀ j, j < nm → ∀ r, r < mc j 4 → mo (3 * j + r) = rd j r := hrL.2
  have h6 : nm ≤ 6 := hlok.1
  have hfa : 1 ≤ fa ∧ fa ≤ 10000 := hlok.2.1
  have hfb : 1 ≤ fb ∧ fb ≤ 10000 := hlok.2.2.1
  have hmk : ∀ j, j < nm → mcOk (mc j) ∧ ∀ r, r < mc j 4 → 1 ≤ rd j r ∧ rd j r ≤ 1000 := hlok.2.2.2
  have hcn : ∀ r, r < 8 → cn r = nr r := hrR.1
  have hms : ∀ r, r < 8 → ∀ j, j < nr r → ms (400 * r + j) = ar r j := hrR.2
  have hro : ∀ r, r < 8 → nr r ≤ 400 ∧ ∀ j, j < nr r → ar r j ≤ 1000000 := hrok
  have hnn : ∀ j, j < nb → nn j = num j := hrS.1
  have hper : 0 < lay → pm = pev := hrS.2.1
  have hpl : ∀ j, j < lay * pev → pl j = pln j := hrS.2.2
  obtain ⟨k1, k2, k3, k4, k5, k6, k7⟩ := id hsok
  have k1 : nb ≤ 12 := k1
  have k2 : ∀ j, j < nb → num j ≤ 10000 := k2
  have k3 : 0 < lay → (1 ≤ pev ∧ pev ≤ 6) := k3
  have k4 : lay * pev ≤ 12 := k4
  have k5 : ∀ j, j < lay * pev → pln j ≤ 12 := k5
  have k6 : tr ≤ 100000 := k6
  have k7 : lay ≤ 12 := k7
  refine lv_iload_n hx hb dX6_at_0 rfl (lv_at hl 1 rfl) ?_
  refine rc_Si (rest := []) C0 FX hH (k_X6_isRow l X ad hi _ p0) (va_cwS 1 C0.2.2.2.2 gX6_at_X6_isRow rfl rfl rfl (by decide +kernel) ⟨Nat.le_of_ble_eq_true rfl, Nat.le_of_ble_eq_true rfl⟩) rfl rfl hl.1 (Nat.le_of_ble_eq_true rfl) dX6_at_1 ⟨Nat.le_of_ble_eq_true rfl, Nat.le_of_ble_eq_true rfl⟩ (fun r1 g1c H locs h1 hH => ?_)
  obtain ⟨e1, rfl⟩ := h1
  rw [e1] at hH
  refine rb_ne hx hb 12 dX6_at_4 (by decide) (fun c4 => ?_) (fun c4 => ?_)
  · obtain ⟨rv, rfl, rv1, rv2, rv3⟩ := rng_nI c4
    have hro9 := (hro rv (by omega)).1
    have hra9 := (hro rv (by omega)).2
    refine lv_iload_n hx hb dX6_at_12 rfl (lv_at hl 2 rfl) ?_
    refine lv_i2l hx hb dX6_at_13 rfl ?_
    refine lv_lconst (v := lN 0) hx hb dX6_at_14 (by decide) ?_
    refine lv_aload_n hx hb dX6_at_15 rfl (lv_at hl 0 rfl) ?_
    refine rp_get C0 FX hH 36 (by decide) (ci := 6) (k := 9) f36 rfl kiX6 (by decide) kf35 rfl dX6_at_16 ?_
    refine lv_iload_n hx hb dX6_at_19 rfl (lv_at hl 1 rfl) ?_
    refine rp_iald C0 FX hH 43 (by decide) (v := nr rv) f43 rv (by omega) (by decide) (hcn _ (by omega)) dX6_at_20 ?_
    refine lv_iconst (v := nI 1) hx hb dX6_at_21 (by decide) ?_
    refine lv_isub hx hb dX6_at_22 ?_
    refine lv_i2l hx hb dX6_at_23 rfl ?_
    refine rc_Si (rest := []) C0 FX hH (k_X6_in_rngS l X ad hi _ p1 ((nr rv)) (by omega)) (va_cwS 3 C0.2.2.2.2 gX6_at_X6_in rfl rfl rfl (by decide +kernel) ⟨Nat.le_of_ble_eq_true rfl, Nat.le_of_ble_eq_true rfl⟩) rfl rfl hl.1 (Nat.le_of_ble_eq_true rfl) dX6_at_24 ⟨Nat.le_of_ble_eq_true rfl, Nat.le_of_ble_eq_true rfl⟩ (fun r24 g24c H locs h24 hH => ?_)
    obtain ⟨e24, rfl⟩ := h24
    rw [e24] at hH
    refine rb_eq hx hb 45 dX6_at_27 (by decide) (fun c27 => ?_) (fun c27 => ?_)
    · refine lv_iconst (v := (-1)) hx hb dX6_at_45 (by decide) ?_
      refine RET _ _ _ _ _ _ dX6_at_46 rfl ?_ hH
      refine ⟨rfl, (?_ : _ = _)⟩
      rw [rd_row rv2]
      show _ = sp_at _ (nr rv) (ar rv)
      unfold sp_at
      rw [if_neg (by assumption)]
    · obtain ⟨i, rfl, i1, i3⟩ := rngS_nI c27
      refine lv_aload_n hx hb dX6_at_30 rfl (lv_at hl 0 rfl) ?_
      refine rp_get C0 FX hH 36 (by decide) (ci := 6) (k := 10) f36 rfl kiX6 (by decide) kf38 rfl dX6_at_31 ?_
      refine lv_sipush (v := nI 400) hx hb dX6_at_34 (by decide) ?_
      refine lv_iload_n hx hb dX6_at_37 rfl (lv_at hl 1 rfl) ?_
      refine ni_imul hx hb dX6_at_38 ?_
      refine lv_iload_n hx hb dX6_at_39 rfl (lv_at hl 2 rfl) ?_
      refine ni_iadd hx hb dX6_at_40 ?_
      refine rp_iald C0 FX hH 44 (by decide) (v := ar rv i) f44 ((400 * rv) + i) (by omega) (by decide) (hms rv (by omega) _ (by omega)) dX6_at_41 ?_
      refine lv_goto (tgt := 46) hx hb dX6_at_42 (by decide) ?_
      refine RET _ _ _ _ _ _ dX6_at_46 rfl ?_ hH
      refine ⟨rfl, (?_ : _ = _)⟩
      rw [rd_row rv2]
      show _ = sp_at _ (nr rv) (ar rv)
      unfold sp_at
      rw [if_pos ((rngS_iff (by omega)).mpr (by omega)), tN_nI (by omega)]
  · refine lv_bipush (v := (-2)) hx hb dX6_at_7 (by decide) ?_
    refine lv_goto (tgt := 46) hx hb dX6_at_9 (by decide) ?_
    refine RET _ _ _ _ _ _ dX6_at_46 rfl ?_ hH
    exact ⟨rfl, (rd_bad (by assumption)).symm⟩
set_option maxHeartbeats 4000000 in
set_option maxRecDepth 100000 in
theorem k_X6_sum (l : Launch) (X : Cx) (ad : Nat → Nat) (hi : inj 48 ad) (g : PF) (nm fa fb : Nat) (mc rd : Nat → Nat → Nat) (nr : Nat → Nat) (ar : Nat → Nat → Nat) (nb : Nat) (num : Nat → Nat) (lay pev : Nat) (pln : Nat → Nat) (tr : Nat) (hR : rMod X ad ((nm, fa, fb, mc, rd), nr, ar, (nb, num, lay, pev, pln, tr)) g) (rv : Nat) (hrv : rv ≤ 7) : Kl l yX6_sum wsX6_sum zr0 X 48 ad g [.ref (ad 36), .int (nI rv)] (fun r g' => g' = g ∧ r = lN (sm (ar rv) (nr rv))) := by
  refine Kl.of (cc := cX6_sum) (maxL := 5) hi (by decide) rfl (Nat.le_of_ble_eq_true rfl) ?_
  intro p e s m below meth c Q E RET ls hl
  obtain ⟨C0, FX, hH⟩ := E
  have hx := C0.1
  have hb := C0.2.1
  have kiX6 : ∀ w ∈ u_ws RX6 TX6 18, w ∈ wsX6_sum := (by decide +kernel)
  have kf35 : Cond.fieldLink RX6 35 "YarnMillModel" "cells" "[I" ∈ wsX6_sum := (by decide +kernel)
  have kf38 : Cond.fieldLink RX6 38 "YarnMillModel" "mass" "[I" ∈ wsX6_sum := (by decide +kernel)
  have hl : lv_has ls 5 [(0, .ref (ad 36)), (1, .int (nI rv))] := hl
  obtain ⟨md, ma, mb, ml, mr, mo, cn, ms, fs, nn, pl, pm, f36, f37, f38, f39, f40, f41, f42, f43, f44, f45, f46, f47, hrL, hrR, hrS, hlok, hrok, hsok, hpm⟩ := hR
  have f36 : g 36 = .inr (6, [.int (nI fa), .int (nI fb), .int (nI nm), .ref (ad 37), .ref (ad 38), .ref (ad 39), .ref (ad 40), .ref (ad 41), .ref (ad 42), .ref (ad 43), .ref (ad 44), .ref (ad 45), .int (nI nb), .ref (ad 46), .int (nI lay), .int (nI pm), .ref (ad 47), .int (nI tr)]) := f36
  have hq37 : ∀ j, j < nm → md j = mc j 0 := fun j hj => (hrL.1 j hj).1
  have hq38 : ∀ j, j < nm → ma j = mc j 1 := fun j hj => (hrL.1 j hj).2.1
  have hq39 : ∀ j, j < nm → mb j = mc j 2 := fun j hj => (hrL.1 j hj).2.2.1
  have hq40 : ∀ j, j < nm → ml j = mc j 3 := fun j hj => (hrL.1 j hj).2.2.2.1
  have hq41 : ∀ j, j < nm → mr j = mc j 4 := fun j hj => (hrL.1 j hj).2.2.2.2
  have hmo : ∀ j, j < nm → ∀ r, r < mc j 4 → mo (3 * j + r) = rd j r := hrL.2
  have h6 : nm ≤ 6 := hlok.1
  have hfa : 1 ≤ fa ∧ fa ≤ 10000 := hlok.2.1
  have hfb : 1 ≤ fb ∧ fb ≤ 10000 := hlok.2.2.1
  have hmk : ∀ j, j < nm → mcOk (mc j) ∧ ∀ r, r < mc j 4 → 1 ≤ rd j r ∧ rd j r ≤ 1000 := hlok.2.2.2
  have hcn : ∀ r, r < 8 → cn r = nr r := hrR.1
  have hms : ∀ r, r < 8 → ∀ j, j < nr r → ms (400 * r + j) = ar r j := hrR.2
  have hro : ∀ r, r < 8 → nr r ≤ 400 ∧ ∀ j, j < nr r → ar r j ≤ 1000000 := hrok
  have hnn : ∀ j, j < nb → nn j = num j := hrS.1
  have hper : 0 < lay → pm = pev := hrS.2.1
  have hpl : ∀ j, j < lay * pev → pl j = pln j := hrS.2.2
  obtain ⟨k1, k2, k3, k4, k5, k6, k7⟩ := id hsok
  have k1 : nb ≤ 12 := k1
  have k2 : ∀ j, j < nb → num j ≤ 10000 := k2
  have k3 : 0 < lay → (1 ≤ pev ∧ pev ≤ 6) := k3
  have k4 : lay * pev ≤ 12 := k4
  have k5 : ∀ j, j < lay * pev → pln j ≤ 12 := k5
  have k6 : tr ≤ 100000 := k6
  have k7 : lay ≤ 12 := k7
  have hro9 := (hro rv (by omega)).1
  have hra9 := (hro rv (by omega)).2
  refine lv_lconst (v := lN 0) hx hb dX6_sum_0 (by decide) ?_
  refine lv_lstore_n (lv' := [(2, .long (lN 0)), (0, .ref (ad 36)), (1, .int (nI rv))]) hx hb dX6_sum_1 rfl hl (by decide) rfl (fun ls hl => ?_)
  refine lv_iconst (v := nI 0) hx hb dX6_sum_2 (by decide) ?_
  refine lv_istore (lv' := [(4, .int (nI 0)), (2, .long (lN 0)), (0, .ref (ad 36)), (1, .int (nI rv))]) hx hb dX6_sum_3 hl (by decide) rfl (fun ls hl => ?_)
  have L5 : ∀ (fu : Nat) (S : Nat) (i : Nat) (ls : Array Slot), (i ≤ nr rv) → (S = sm (ar rv) i) → nr rv - i < fu → lv_has ls 5 [(4, .int (nI i)), (2, .long (lN S)), (0, .ref (ad 36)), (1, .int (nI rv))] → W p l e zr0 s m ([.ref (ad 36), .int (nI rv)] : List Value).toArray below meth c s.heap [] 0 0 Q (F0 m 5 ls []) := by
    intro fu
    induction fu with
    | zero =>
      intro S i  ls i1 i2 hm
      exact absurd hm (Nat.not_lt_zero _)
    | succ fu ih =>
      have ih5 := ih; clear ih
      intro S i  ls i1 i2 hm5  hl
      have hq := hra9 i
      refine lv_iload hx hb dX6_sum_5 (lv_at hl 0 rfl) ?_
      refine lv_aload_n hx hb dX6_sum_7 rfl (lv_at hl 2 rfl) ?_
      refine rp_get C0 FX hH 36 (by decide) (ci := 6) (k := 9) f36 rfl kiX6 (by decide) kf35 rfl dX6_sum_8 ?_
      refine lv_iload_n hx hb dX6_sum_11 rfl (lv_at hl 3 rfl) ?_
      refine rp_iald C0 FX hH 43 (by decide) (v := nr rv) f43 rv (by omega) (by decide) (hcn _ (by omega)) dX6_sum_12 ?_
      refine ni_cge hx hb 39 dX6_sum_13 (by decide) (by omega) (by omega) (fun c13 => ?_) (fun c13 => ?_)
      · refine lv_lload_n hx hb dX6_sum_39 rfl (lv_at hl 1 rfl) ?_
        refine RET _ _ _ _ _ _ dX6_sum_40 ?_ hH
        exact ⟨rfl, by rw [i2, show i = nr rv by omega]⟩
      · refine lv_lload_n hx hb dX6_sum_16 rfl (lv_at hl 1 rfl) ?_
        refine lv_aload_n hx hb dX6_sum_17 rfl (lv_at hl 2 rfl) ?_
        refine rp_get C0 FX hH 36 (by decide) (ci := 6) (k := 10) f36 rfl kiX6 (by decide) kf38 rfl dX6_sum_18 ?_
        refine lv_sipush (v := nI 400) hx hb dX6_sum_21 (by decide) ?_
        refine lv_iload_n hx hb dX6_sum_24 rfl (lv_at hl 3 rfl) ?_
        refine ni_imul hx hb dX6_sum_25 ?_
        refine lv_iload hx hb dX6_sum_26 (lv_at hl 0 rfl) ?_
        refine ni_iadd hx hb dX6_sum_28 ?_
        refine rp_iald C0 FX hH 44 (by decide) (v := ar rv i) f44 ((400 * rv) + i) (by omega) (by decide) (hms rv (by omega) _ (by omega)) dX6_sum_29 ?_
        refine ni_i2l hx hb (by have := hq c13; omega) dX6_sum_30 ?_
        refine ni_ladd hx hb dX6_sum_31 ?_
        refine lv_lstore_n (lv' := [(2, .long (lN (S + (ar rv i)))), (4, .int (nI i)), (0, .ref (ad 36)), (1, .int (nI rv))]) hx hb dX6_sum_32 rfl hl (by decide) rfl (fun ls hl => ?_)
        refine lv_iinc (v := nI (i + 1)) (lv' := [(4, .int (nI (i + 1))), (2, .long (lN (S + (ar rv i)))), (0, .ref (ad 36)), (1, .int (nI rv))]) hx hb dX6_sum_33 hl (k := 1) rfl (ni_inc1 _) (by decide) rfl (fun ls hl => ?_)
        refine lv_goto (tgt := 5) hx hb dX6_sum_36 (by decide) ?_
        exact ih5 (S + (ar rv i)) (i + 1) ls (by omega) (by rw [i2]; rfl) (by omega) (lv_sub hl [0, 1, 2, 3] rfl)
  exact L5 ((nr rv - 0) + 1) 0 0 ls (by omega) (by rfl) (Nat.lt_succ_self _) (lv_sub hl [0, 1, 2, 3] rfl)
set_option maxHeartbeats 4000000 in
set_option maxRecDepth 100000 in
theorem k_X6_about (l : Launch) (X : Cx) (ad : Nat → Nat) (hi : inj 48 ad) (g : PF) (nm fa fb : Nat) (mc rd : Nat → Nat → Nat) (nr : Nat → Nat) (ar : Nat → Nat → Nat) (nb : Nat) (num : Nat → Nat) (lay pev : Nat) (pln : Nat → Nat) (tr : Nat) (hR : rMod X ad ((nm, fa, fb, mc, rd), nr, ar, (nb, num, lay, pev, pln, tr)) g) (p0 p1 : Int32) : Kl l yX6_about wsX6_about zr2 X 48 ad g [.ref (ad 36), .int p0, .int p1] (fun r g' => g' = g ∧ r = rowRd (sp_about p1) (-1) p0 ((nm, fa, fb, mc, rd), nr, ar, (nb, num, lay, pev, pln, tr))) := by
  refine Kl.of (cc := cX6_about) (maxL := 6) hi (by decide) rfl (Nat.le_of_ble_eq_true rfl) ?_
  intro p e s m below meth c Q E RET ls hl
  obtain ⟨C0, FX, hH⟩ := E
  have hx := C0.1
  have hb := C0.2.1
  have kl118 := C0.2.2.2.2 (.constantLong RX6 118 (lN 2)) (by decide +kernel)
  have kl124 := C0.2.2.2.2 (.constantLong RX6 124 (-1)) (by decide +kernel)
  have kiX6 : ∀ w ∈ u_ws RX6 TX6 18, w ∈ wsX6_about := (by decide +kernel)
  have kf35 : Cond.fieldLink RX6 35 "YarnMillModel" "cells" "[I" ∈ wsX6_about := (by decide +kernel)
  have kf38 : Cond.fieldLink RX6 38 "YarnMillModel" "mass" "[I" ∈ wsX6_about := (by decide +kernel)
  have hl : lv_has ls 6 [(0, .ref (ad 36)), (1, .int p0), (2, .int p1)] := hl
  obtain ⟨md, ma, mb, ml, mr, mo, cn, ms, fs, nn, pl, pm, f36, f37, f38, f39, f40, f41, f42, f43, f44, f45, f46, f47, hrL, hrR, hrS, hlok, hrok, hsok, hpm⟩ := hR
  have f36 : g 36 = .inr (6, [.int (nI fa), .int (nI fb), .int (nI nm), .ref (ad 37), .ref (ad 38), .ref (ad 39), .ref (ad 40), .ref (ad 41), .ref (ad 42), .ref (ad 43), .ref (ad 44), .ref (ad 45), .int (nI nb), .ref (ad 46), .int (nI lay), .int (nI pm), .ref (ad 47), .int (nI tr)]) := f36
  have hq37 : ∀ j, j < nm → md j = mc j 0 := fun j hj => (hrL.1 j hj).1
  have hq38 : ∀ j, j < nm → ma j = mc j 1 := fun j hj => (hrL.1 j hj).2.1
  have hq39 : ∀ j, j < nm → mb j = mc j 2 := fun j hj => (hrL.1 j hj).2.2.1
  have hq40 : ∀ j, j < nm → ml j = mc j 3 := fun j hj => (hrL.1 j hj).2.2.2.1
  have hq41 : ∀ j, j < nm → mr j = mc j 4 := fun j hj => (hrL.1 j hj).2.2.2.2
  have hmo : ∀ j, j < nm → ∀ r, r < mc j 4 → mo (3 * j + r) = rd j r := hrL.2
  have h6 : nm ≤ 6 := hlok.1
  have hfa : 1 ≤ fa ∧ fa ≤ 10000 := hlok.2.1
  have hfb : 1 ≤ fb ∧ fb ≤ 10000 := hlok.2.2.1
  have hmk : ∀ j, j < nm → mcOk (mc j) ∧ ∀ r, r < mc j 4 → 1 ≤ rd j r ∧ rd j r ≤ 1000 := hlok.2.2.2
  have hcn : ∀ r, r < 8 → cn r = nr r := hrR.1
  have hms : ∀ r, r < 8 → ∀ j, j < nr r → ms (400 * r + j) = ar r j := hrR.2
  have hro : ∀ r, r < 8 → nr r ≤ 400 ∧ ∀ j, j < nr r → ar r j ≤ 1000000 := hrok
  have hnn : ∀ j, j < nb → nn j = num j := hrS.1
  have hper : 0 < lay → pm = pev := hrS.2.1
  have hpl : ∀ j, j < lay * pev → pl j = pln j := hrS.2.2
  obtain ⟨k1, k2, k3, k4, k5, k6, k7⟩ := id hsok
  have k1 : nb ≤ 12 := k1
  have k2 : ∀ j, j < nb → num j ≤ 10000 := k2
  have k3 : 0 < lay → (1 ≤ pev ∧ pev ≤ 6) := k3
  have k4 : lay * pev ≤ 12 := k4
  have k5 : ∀ j, j < lay * pev → pln j ≤ 12 := k5
  have k6 : tr ≤ 100000 := k6
  have k7 : lay ≤ 12 := k7
  refine lv_iload_n hx hb dX6_about_0 rfl (lv_at hl 1 rfl) ?_
  refine rc_Si (rest := []) C0 FX hH (k_X6_isRow l X ad hi _ p0) (va_cwS 1 C0.2.2.2.2 gX6_about_X6_isRow rfl rfl rfl (by decide +kernel) ⟨Nat.le_of_ble_eq_true rfl, Nat.le_of_ble_eq_true rfl⟩) rfl rfl hl.1 (Nat.le_of_ble_eq_true rfl) dX6_about_1 ⟨Nat.le_of_ble_eq_true rfl, Nat.le_of_ble_eq_true rfl⟩ (fun r1 g1c H locs h1 hH => ?_)
  obtain ⟨e1, rfl⟩ := h1
  rw [e1] at hH
  refine rb_eq hx hb 19 dX6_about_4 (by decide) (fun c4 => ?_) (fun c4 => ?_)
  · refine lv_ldc2 hx hb C0.2.2.2.1 kl124 dX6_about_19 ?_
    refine RET _ _ _ _ _ _ dX6_about_22 ?_ hH
    exact ⟨rfl, (rd_bad (by assumption)).symm⟩
  · obtain ⟨rv, rfl, rv1, rv2, rv3⟩ := rng_nI c4
    refine lv_iload_n hx hb dX6_about_7 rfl (lv_at hl 2 rfl) ?_
    refine lv_i2l hx hb dX6_about_8 rfl ?_
    refine lv_lconst (v := lN 0) hx hb dX6_about_9 (by decide) ?_
    refine lv_ldc2 hx hb C0.2.2.2.1 kl118 dX6_about_10 ?_
    refine rc_Si (rest := []) C0 FX hH (k_X6_in_rng l X ad hi _ p1 0 2 (by omega) (by omega)) (va_cwS 3 C0.2.2.2.2 gX6_about_X6_in rfl rfl rfl (by decide +kernel) ⟨Nat.le_of_ble_eq_true rfl, Nat.le_of_ble_eq_true rfl⟩) rfl rfl hl.1 (Nat.le_of_ble_eq_true rfl) dX6_about_13 ⟨Nat.le_of_ble_eq_true rfl, Nat.le_of_ble_eq_true rfl⟩ (fun r13 g13c H locs h13 hH => ?_)
    obtain ⟨e13, rfl⟩ := h13
    rw [e13] at hH
    refine rb_ne hx hb 23 dX6_about_16 (by decide) (fun c16 => ?_) (fun c16 => ?_)
    · obtain ⟨wv, rfl, wv1, wv2, wv3⟩ := rng_nI c16
      have hro9 := (hro rv (by omega)).1
      have hra9 := (hro rv (by omega)).2
      refine lv_iload_n hx hb dX6_about_23 rfl (lv_at hl 2 rfl) ?_
      refine lv_iconst (v := nI 2) hx hb dX6_about_24 (by decide) ?_
      refine ni_cge hx hb 48 dX6_about_25 (by decide) (by omega) (by omega) (fun c25 => ?_) (fun c25 => ?_)
      · refine lv_lconst (v := lN 0) hx hb dX6_about_48 (by decide) ?_
        refine lv_lstore_n (lv' := [(3, .long (lN 0)), (0, .ref (ad 36)), (1, .int (nI rv)), (2, .int (nI wv))]) hx hb dX6_about_49 rfl hl (by decide) rfl (fun ls hl => ?_)
        refine lv_iconst (v := nI 0) hx hb dX6_about_50 (by decide) ?_
        refine lv_istore (lv' := [(5, .int (nI 0)), (3, .long (lN 0)), (0, .ref (ad 36)), (1, .int (nI rv)), (2, .int (nI wv))]) hx hb dX6_about_51 hl (by decide) rfl (fun ls hl => ?_)
        have L53 : ∀ (fu : Nat) (S : Nat) (i : Nat) (H : Heap) (locs : List Loc) (ls : Array Slot), (i ≤ nr rv) → (S = sm (fun j => ar rv j * ar rv j) i) → nr rv - i < fu → WH X 48 ad (pA 48 ad s.heap.size) s g H locs → lv_has ls 6 [(5, .int (nI i)), (3, .long (lN S)), (0, .ref (ad 36)), (1, .int (nI rv)), (2, .int (nI wv))] → W p l e zr2 s m ([.ref (ad 36), .int (nI rv), .int (nI wv)] : List Value).toArray below meth c H locs 0 0 Q (F0 m 53 ls []) := by
          intro fu
          induction fu with
          | zero =>
            intro S i H locs ls i1 i2 hm
            exact absurd hm (Nat.not_lt_zero _)
          | succ fu ih =>
            have ih53 := ih; clear ih
            intro S i H locs ls i1 i2 hm53 hH hl
            have hq := hra9 i
            refine lv_iload hx hb dX6_about_53 (lv_at hl 0 rfl) ?_
            refine lv_aload_n hx hb dX6_about_55 rfl (lv_at hl 2 rfl) ?_
            refine rp_get C0 FX hH 36 (by decide) (ci := 6) (k := 9) f36 rfl kiX6 (by decide) kf35 rfl dX6_about_56 ?_
            refine lv_iload_n hx hb dX6_about_59 rfl (lv_at hl 3 rfl) ?_
            refine rp_iald C0 FX hH 43 (by decide) (v := nr rv) f43 rv (by omega) (by decide) (hcn _ (by omega)) dX6_about_60 ?_
            refine ni_cge hx hb 102 dX6_about_61 (by decide) (by omega) (by omega) (fun c61 => ?_) (fun c61 => ?_)
            · refine lv_aload_n hx hb dX6_about_102 rfl (lv_at hl 2 rfl) ?_
              refine rp_get C0 FX hH 36 (by decide) (ci := 6) (k := 9) f36 rfl kiX6 (by decide) kf35 rfl dX6_about_103 ?_
              refine lv_iload_n hx hb dX6_about_106 rfl (lv_at hl 3 rfl) ?_
              refine rp_iald C0 FX hH 43 (by decide) (v := nr rv) f43 rv (by omega) (by decide) (hcn _ (by omega)) dX6_about_107 ?_
              refine ni_i2l hx hb (by omega) dX6_about_108 ?_
              refine lv_lload_n hx hb dX6_about_109 rfl (lv_at hl 1 rfl) ?_
              refine ni_lmul hx hb dX6_about_110 ?_
              refine lv_aload_n hx hb dX6_about_111 rfl (lv_at hl 2 rfl) ?_
              refine lv_iload_n hx hb dX6_about_112 rfl (lv_at hl 3 rfl) ?_
              refine rc_Vl (rest := [.long (lN ((nr rv) * S))]) C0 FX hH 36 (by decide) f36 rfl (k_X6_sum l X ad hi _ nm fa fb mc rd nr ar nb num lay pev pln tr ⟨_, _, _, _, _, _, _, _, _, _, _, _, f36, f37, f38, f39, f40, f41, f42, f43, f44, f45, f46, f47, hrL, hrR, hrS, hlok, hrok, hsok, hpm⟩ rv (by omega)) (cwV 1 C0.2.2.2.2 gX6_about_X6_sum rfl rfl rfl (by decide +kernel) ⟨Nat.le_of_ble_eq_true rfl, Nat.le_of_ble_eq_true rfl⟩) rfl rfl hl.1 (Nat.le_of_ble_eq_true rfl) dX6_about_113 ⟨Nat.le_of_ble_eq_true rfl, Nat.le_of_ble_eq_true rfl⟩ (fun r113 g113c H locs h113 hH => ?_)
              obtain ⟨e113, rfl⟩ := h113
              rw [e113] at hH
              refine lv_aload_n hx hb dX6_about_116 rfl (lv_at hl 2 rfl) ?_
              refine lv_iload_n hx hb dX6_about_117 rfl (lv_at hl 3 rfl) ?_
              refine rc_Vl (rest := [.long (lN (sm (ar rv) (nr rv))), .long (lN ((nr rv) * S))]) C0 FX hH 36 (by decide) f36 rfl (k_X6_sum l X ad hi _ nm fa fb mc rd nr ar nb num lay pev pln tr ⟨_, _, _, _, _, _, _, _, _, _, _, _, f36, f37, f38, f39, f40, f41, f42, f43, f44, f45, f46, f47, hrL, hrR, hrS, hlok, hrok, hsok, hpm⟩ rv (by omega)) (cwV 1 C0.2.2.2.2 gX6_about_X6_sum rfl rfl rfl (by decide +kernel) ⟨Nat.le_of_ble_eq_true rfl, Nat.le_of_ble_eq_true rfl⟩) rfl rfl hl.1 (Nat.le_of_ble_eq_true rfl) dX6_about_118 ⟨Nat.le_of_ble_eq_true rfl, Nat.le_of_ble_eq_true rfl⟩ (fun r118 g118c H locs h118 hH => ?_)
              obtain ⟨e118, rfl⟩ := h118
              rw [e118] at hH
              refine ni_lmul hx hb dX6_about_121 ?_
              refine lv_lsub hx hb dX6_about_122 ?_
              refine RET _ _ _ _ _ _ dX6_about_123 ?_ hH
              refine ⟨rfl, (?_ : _ = _)⟩
              rw [rd_row rv2]
              show _ = sp_about _ (nr rv) (ar rv)
              unfold sp_about
              rw [show wv = 2 by omega, if_neg (by decide), if_neg (by decide), if_pos rfl, i2, show i = nr rv by omega]; rfl
            · refine lv_lload_n hx hb dX6_about_64 rfl (lv_at hl 1 rfl) ?_
              refine lv_aload_n hx hb dX6_about_65 rfl (lv_at hl 2 rfl) ?_
              refine rp_get C0 FX hH 36 (by decide) (ci := 6) (k := 10) f36 rfl kiX6 (by decide) kf38 rfl dX6_about_66 ?_
              refine lv_sipush (v := nI 400) hx hb dX6_about_69 (by decide) ?_
              refine lv_iload_n hx hb dX6_about_72 rfl (lv_at hl 3 rfl) ?_
              refine ni_imul hx hb dX6_about_73 ?_
              refine lv_iload hx hb dX6_about_74 (lv_at hl 0 rfl) ?_
              refine ni_iadd hx hb dX6_about_76 ?_
              refine rp_iald C0 FX hH 44 (by decide) (v := ar rv i) f44 ((400 * rv) + i) (by omega) (by decide) (hms rv (by omega) _ (by omega)) dX6_about_77 ?_
              refine ni_i2l hx hb (by have := hq c61; omega) dX6_about_78 ?_
              refine lv_aload_n hx hb dX6_about_79 rfl (lv_at hl 2 rfl) ?_
              refine rp_get C0 FX hH 36 (by decide) (ci := 6) (k := 10) f36 rfl kiX6 (by decide) kf38 rfl dX6_about_80 ?_
              refine lv_sipush (v := nI 400) hx hb dX6_about_83 (by decide) ?_
              refine lv_iload_n hx hb dX6_about_86 rfl (lv_at hl 3 rfl) ?_
              refine ni_imul hx hb dX6_about_87 ?_
              refine lv_iload hx hb dX6_about_88 (lv_at hl 0 rfl) ?_
              refine ni_iadd hx hb dX6_about_90 ?_
              refine rp_iald C0 FX hH 44 (by decide) (v := ar rv i) f44 ((400 * rv) + i) (by omega) (by decide) (hms rv (by omega) _ (by omega)) dX6_about_91 ?_
              refine ni_i2l hx hb (by have := hq c61; omega) dX6_about_92 ?_
              refine ni_lmul hx hb dX6_about_93 ?_
              refine ni_ladd hx hb dX6_about_94 ?_
              refine lv_lstore_n (lv' := [(3, .long (lN (S + ((ar rv i) * (ar rv i))))), (5, .int (nI i)), (0, .ref (ad 36)), (1, .int (nI rv)), (2, .int (nI wv))]) hx hb dX6_about_95 rfl hl (by decide) rfl (fun ls hl => ?_)
              refine lv_iinc (v := nI (i + 1)) (lv' := [(5, .int (nI (i + 1))), (3, .long (lN (S + ((ar rv i) * (ar rv i))))), (0, .ref (ad 36)), (1, .int (nI rv)), (2, .int (nI wv))]) hx hb dX6_about_96 hl (k := 1) rfl (ni_inc1 _) (by decide) rfl (fun ls hl => ?_)
              refine lv_goto (tgt := 53) hx hb dX6_about_99 (by decide) ?_
              exact ih53 (S + ((ar rv i) * (ar rv i))) (i + 1) _ _ ls (by omega) (by rw [i2]; rfl) (by omega) hH (lv_sub hl [0, 1, 2, 3, 4] rfl)
        exact L53 ((nr rv - 0) + 1) 0 0 _ _ ls (by omega) (by rfl) (Nat.lt_succ_self _) hH (lv_sub hl [0, 1, 2, 3, 4] rfl)
      · refine lv_iload_n hx hb dX6_about_28 rfl (lv_at hl 2 rfl) ?_
        refine ni_ne0 hx hb 42 dX6_about_29 (by decide) (by omega) (fun c29 => ?_) (fun c29 => ?_)
        · refine lv_aload_n hx hb dX6_about_42 rfl (lv_at hl 0 rfl) ?_
          refine lv_iload_n hx hb dX6_about_43 rfl (lv_at hl 1 rfl) ?_
          refine rc_Vl (rest := []) C0 FX hH 36 (by decide) f36 rfl (k_X6_sum l X ad hi _ nm fa fb mc rd nr ar nb num lay pev pln tr ⟨_, _, _, _, _, _, _, _, _, _, _, _, f36, f37, f38, f39, f40, f41, f42, f43, f44, f45, f46, f47, hrL, hrR, hrS, hlok, hrok, hsok, hpm⟩ rv (by omega)) (cwV 1 C0.2.2.2.2 gX6_about_X6_sum rfl rfl rfl (by decide +kernel) ⟨Nat.le_of_ble_eq_true rfl, Nat.le_of_ble_eq_true rfl⟩) rfl rfl hl.1 (Nat.le_of_ble_eq_true rfl) dX6_about_44 ⟨Nat.le_of_ble_eq_true rfl, Nat.le_of_ble_eq_true rfl⟩ (fun r44 g44c H locs h44 hH => ?_)
          obtain ⟨e44, rfl⟩ := h44
          rw [e44] at hH
          refine RET _ _ _ _ _ _ dX6_about_47 ?_ hH
          refine ⟨rfl, (?_ : _ = _)⟩
          rw [rd_row rv2]
          show _ = sp_about _ (nr rv) (ar rv)
          unfold sp_about
          rw [show wv = 1 by omega, if_neg (by decide), if_pos rfl]
        · refine lv_aload_n hx hb dX6_about_32 rfl (lv_at hl 0 rfl) ?_
          refine rp_get C0 FX hH 36 (by decide) (ci := 6) (k := 9) f36 rfl kiX6 (by decide) kf35 rfl dX6_about_33 ?_
          refine lv_iload_n hx hb dX6_about_36 rfl (lv_at hl 1 rfl) ?_
          refine rp_iald C0 FX hH 43 (by decide) (v := nr rv) f43 rv (by omega) (by decide) (hcn _ (by omega)) dX6_about_37 ?_
          refine ni_i2l hx hb (by omega) dX6_about_38 ?_
          refine lv_goto (tgt := 47) hx hb dX6_about_39 (by decide) ?_
          refine RET _ _ _ _ _ _ dX6_about_47 ?_ hH
          refine ⟨rfl, (?_ : _ = _)⟩
          rw [rd_row rv2]
          show _ = sp_about _ (nr rv) (ar rv)
          unfold sp_about
          rw [if_pos (by rw [c29])]
    · refine lv_ldc2 hx hb C0.2.2.2.1 kl124 dX6_about_19 ?_
      refine RET _ _ _ _ _ _ dX6_about_22 ?_ hH
      refine ⟨rfl, (?_ : _ = _)⟩
      rw [rd_row rv2]
      show _ = sp_about _ (nr rv) (ar rv)
      unfold sp_about
      rw [if_neg (fun z => c16 (by rw [z]; decide)), if_neg (fun z => c16 (by rw [z]; decide)), if_neg (fun z => c16 (by rw [z]; decide))]
set_option maxHeartbeats 4000000 in
set_option maxRecDepth 100000 in
theorem k_X6_waveOf (l : Launch) (X : Cx) (ad : Nat → Nat) (hi : inj 48 ad) (g : PF) (nm fa fb : Nat) (mc rd : Nat → Nat → Nat) (nr : Nat → Nat) (ar : Nat → Nat → Nat) (nb : Nat) (num : Nat → Nat) (lay pev : Nat) (pln : Nat → Nat) (tr : Nat) (hR : rMod X ad ((nm, fa, fb, mc, rd), nr, ar, (nb, num, lay, pev, pln, tr)) g) (rv w : Nat) (hrv : rv ≤ 7) (hw1 : 2 ≤ w) (hw2 : w ≤ 200) : Kl l yX6_waveOf wsX6_waveOf zr1 X 48 ad g [.ref (ad 36), .int (nI rv), .int (nI w)] (fun r g' => g' = g ∧ r = lN (wv w (nr rv) (ar rv))) := by
  refine Kl.of (cc := cX6_waveOf) (maxL := 12) hi (by decide) rfl (Nat.le_of_ble_eq_true rfl) ?_
  intro p e s m below meth c Q E RET ls hl
  obtain ⟨C0, FX, hH⟩ := E
  have hx := C0.1
  have hb := C0.2.1
  have kiX6 : ∀ w ∈ u_ws RX6 TX6 18, w ∈ wsX6_waveOf := (by decide +kernel)
  have kf35 : Cond.fieldLink RX6 35 "YarnMillModel" "cells" "[I" ∈ wsX6_waveOf := (by decide +kernel)
  have kf38 : Cond.fieldLink RX6 38 "YarnMillModel" "mass" "[I" ∈ wsX6_waveOf := (by decide +kernel)
  have hl : lv_has ls 12 [(0, .ref (ad 36)), (1, .int (nI rv)), (2, .int (nI w))] := hl
  obtain ⟨md, ma, mb, ml, mr, mo, cn, ms, fs, nn, pl, pm, f36, f37, f38, f39, f40, f41, f42, f43, f44, f45, f46, f47, hrL, hrR, hrS, hlok, hrok, hsok, hpm⟩ := hR
  have f36 : g 36 = .inr (6, [.int (nI fa), .int (nI fb), .int (nI nm), .ref (ad 37), .ref (ad 38), .ref (ad 39), .ref (ad 40), .ref (ad 41), .ref (ad 42), .ref (ad 43), .ref (ad 44), .ref (ad 45), .int (nI nb), .ref (ad 46), .int (nI lay), .int (nI pm), .ref (ad 47), .int (nI tr)]) := f36
  have hq37 : ∀ j, j < nm → md j = mc j 0 := fun j hj => (hrL.1 j hj).1
  have hq38 : ∀ j, j < nm → ma j = mc j 1 := fun j hj => (hrL.1 j hj).2.1
  have hq39 : ∀ j, j < nm → mb j = mc j 2 := fun j hj => (hrL.1 j hj).2.2.1
  have hq40 : ∀ j, j < nm → ml j = mc j 3 := fun j hj => (hrL.1 j hj).2.2.2.1
  have hq41 : ∀ j, j < nm → mr j = mc j 4 := fun j hj => (hrL.1 j hj).2.2.2.2
  have hmo : ∀ j, j < nm → ∀ r, r < mc j 4 → mo (3 * j + r) = rd j r := hrL.2
  have h6 : nm ≤ 6 := hlok.1
  have hfa : 1 ≤ fa ∧ fa ≤ 10000 := hlok.2.1
  have hfb : 1 ≤ fb ∧ fb ≤ 10000 := hlok.2.2.1
  have hmk : ∀ j, j < nm → mcOk (mc j) ∧ ∀ r, r < mc j 4 → 1 ≤ rd j r ∧ rd j r ≤ 1000 := hlok.2.2.2
  have hcn : ∀ r, r < 8 → cn r = nr r := hrR.1
  have hms : ∀ r, r < 8 → ∀ j, j < nr r → ms (400 * r + j) = ar r j := hrR.2
  have hro : ∀ r, r < 8 → nr r ≤ 400 ∧ ∀ j, j < nr r → ar r j ≤ 1000000 := hrok
  have hnn : ∀ j, j < nb → nn j = num j := hrS.1
  have hper : 0 < lay → pm = pev := hrS.2.1
  have hpl : ∀ j, j < lay * pev → pl j = pln j := hrS.2.2
  obtain ⟨k1, k2, k3, k4, k5, k6, k7⟩ := id hsok
  have k1 : nb ≤ 12 := k1
  have k2 : ∀ j, j < nb → num j ≤ 10000 := k2
  have k3 : 0 < lay → (1 ≤ pev ∧ pev ≤ 6) := k3
  have k4 : lay * pev ≤ 12 := k4
  have k5 : ∀ j, j < lay * pev → pln j ≤ 12 := k5
  have k6 : tr ≤ 100000 := k6
  have k7 : lay ≤ 12 := k7
  have hro9 := (hro rv (by omega)).1
  have hra9 := (hro rv (by omega)).2
  have hdm := Nat.div_mul_le_self (nr rv) w
  have hdv := Nat.div_le_self (nr rv) w
  refine lv_aload_n hx hb dX6_waveOf_0 rfl (lv_at hl 0 rfl) ?_
  refine rp_get C0 FX hH 36 (by decide) (ci := 6) (k := 9) f36 rfl kiX6 (by decide) kf35 rfl dX6_waveOf_1 ?_
  refine lv_iload_n hx hb dX6_waveOf_4 rfl (lv_at hl 1 rfl) ?_
  refine rp_iald C0 FX hH 43 (by decide) (v := nr rv) f43 rv (by omega) (by decide) (hcn _ (by omega)) dX6_waveOf_5 ?_
  refine lv_iload_n hx hb dX6_waveOf_6 rfl (lv_at hl 2 rfl) ?_
  refine ni_idiv hx hb (by omega) (by omega) (by omega) dX6_waveOf_7 ?_
  refine lv_iload_n hx hb dX6_waveOf_8 rfl (lv_at hl 2 rfl) ?_
  refine ni_imul hx hb dX6_waveOf_9 ?_
  refine lv_istore_n (lv' := [(3, .int (nI (((nr rv) / w) * w))), (0, .ref (ad 36)), (1, .int (nI rv)), (2, .int (nI w))]) hx hb dX6_waveOf_10 rfl hl (by decide) rfl (fun ls hl => ?_)
  refine lv_lconst (v := lN 0) hx hb dX6_waveOf_11 (by decide) ?_
  refine lv_lstore (lv' := [(4, .long (lN 0)), (3, .int (nI (((nr rv) / w) * w))), (0, .ref (ad 36)), (1, .int (nI rv)), (2, .int (nI w))]) hx hb dX6_waveOf_12 hl (by decide) rfl (fun ls hl => ?_)
  refine lv_lconst (v := lN 0) hx hb dX6_waveOf_14 (by decide) ?_
  refine lv_lstore (lv' := [(6, .long (lN 0)), (4, .long (lN 0)), (3, .int (nI (((nr rv) / w) * w))), (0, .ref (ad 36)), (1, .int (nI rv)), (2, .int (nI w))]) hx hb dX6_waveOf_15 hl (by decide) rfl (fun ls hl => ?_)
  refine lv_iconst (v := nI 0) hx hb dX6_waveOf_17 (by decide) ?_
  refine lv_istore (lv' := [(8, .int (nI 0)), (6, .long (lN 0)), (4, .long (lN 0)), (3, .int (nI (((nr rv) / w) * w))), (0, .ref (ad 36)), (1, .int (nI rv)), (2, .int (nI w))]) hx hb dX6_waveOf_18 hl (by decide) rfl (fun ls hl => ?_)
  have L20 : ∀ (fu : Nat) (V : Nat) (S : Nat) (i : Nat) (ls : Array Slot), (i ≤ w) → (S = wS (nr rv) (ar rv) w i) → (V = wQ (nr rv) (ar rv) w i) → w - i < fu → lv_has ls 12 [(8, .int (nI i)), (6, .long (lN S)), (4, .long (lN V)), (3, .int (nI (((nr rv) / w) * w))), (0, .ref (ad 36)), (1, .int (nI rv)), (2, .int (nI w))] → W p l e zr1 s m ([.ref (ad 36), .int (nI rv), .int (nI w)] : List Value).toArray below meth c s.heap [] 0 0 Q (F0 m 20 ls []) := by
    intro fu
    induction fu with
    | zero =>
      intro V S i  ls i2 i3 i4 hm
      exact absurd hm (Nat.not_lt_zero _)
    | succ fu ih =>
      have ih20 := ih; clear ih
      intro V S i  ls i2 i3 i4 hm20  hl
      refine lv_iload hx hb dX6_waveOf_20 (lv_at hl 0 rfl) ?_
      refine lv_iload_n hx hb dX6_waveOf_22 rfl (lv_at hl 6 rfl) ?_
      refine ni_cge hx hb 90 dX6_waveOf_23 (by decide) (by omega) (by omega) (fun c23 => ?_) (fun c23 => ?_)
      · refine lv_iload_n hx hb dX6_waveOf_90 rfl (lv_at hl 6 rfl) ?_
        refine ni_i2l hx hb (by omega) dX6_waveOf_91 ?_
        refine lv_lload hx hb dX6_waveOf_92 (lv_at hl 2 rfl) ?_
        refine ni_lmul hx hb dX6_waveOf_94 ?_
        refine lv_lload hx hb dX6_waveOf_95 (lv_at hl 1 rfl) ?_
        refine lv_lload hx hb dX6_waveOf_97 (lv_at hl 1 rfl) ?_
        refine ni_lmul hx hb dX6_waveOf_99 ?_
        refine ni_lsub hx hb (by rw [i3, i4, show i = w by omega]; exact wS_sq (nr rv) (ar rv) w) dX6_waveOf_100 ?_
        refine RET _ _ _ _ _ _ dX6_waveOf_101 ?_ hH
        exact ⟨rfl, by unfold wv; rw [i3, i4, show i = w by omega]⟩
      · refine lv_lconst (v := lN 0) hx hb dX6_waveOf_26 (by decide) ?_
        refine lv_lstore (lv' := [(9, .long (lN 0)), (8, .int (nI i)), (6, .long (lN S)), (4, .long (lN V)), (3, .int (nI (((nr rv) / w) * w))), (0, .ref (ad 36)), (1, .int (nI rv)), (2, .int (nI w))]) hx hb dX6_waveOf_27 hl (by decide) rfl (fun ls hl => ?_)
        refine lv_iload hx hb dX6_waveOf_29 (lv_at hl 1 rfl) ?_
        refine lv_istore (lv' := [(11, .int (nI i)), (9, .long (lN 0)), (8, .int (nI i)), (6, .long (lN S)), (4, .long (lN V)), (3, .int (nI (((nr rv) / w) * w))), (0, .ref (ad 36)), (1, .int (nI rv)), (2, .int (nI w))]) hx hb dX6_waveOf_31 hl (by decide) rfl (fun ls hl => ?_)
        have L33 : ∀ (fu : Nat) (Z : Nat) (t : Nat) (q : Nat) (ls : Array Slot), (t = i + q * w) → (q ≤ nr rv / w) → (Z = zs (ar rv) w i q) → nr rv / w - q < fu → lv_has ls 12 [(11, .int (nI t)), (9, .long (lN Z)), (8, .int (nI i)), (6, .long (lN S)), (4, .long (lN V)), (3, .int (nI (((nr rv) / w) * w))), (0, .ref (ad 36)), (1, .int (nI rv)), (2, .int (nI w))] → W p l e zr1 s m ([.ref (ad 36), .int (nI rv), .int (nI w)] : List Value).toArray below meth c s.heap [] 0 0 Q (F0 m 33 ls []) := by
          intro fu
          induction fu with
          | zero =>
            intro Z t q  ls j1 j2 j3 hm
            exact absurd hm (Nat.not_lt_zero _)
          | succ fu ih =>
            have ih33 := ih; clear ih
            intro Z t q  ls j1 j2 j3 hm33  hl
            have hqw := Nat.mul_le_mul_right w j2
            refine lv_iload hx hb dX6_waveOf_33 (lv_at hl 0 rfl) ?_
            refine lv_iload_n hx hb dX6_waveOf_35 rfl (lv_at hl 5 rfl) ?_
            refine ni_cge hx hb 67 dX6_waveOf_36 (by decide) (by omega) (by omega) (fun c36 => ?_) (fun c36 => ?_)
            · have hqe : q = nr rv / w := Nat.le_antisymm j2 (Nat.le_of_not_lt (fun z => by have h5 := Nat.mul_le_mul_right w (show q + 1 ≤ nr rv / w from z); rw [Nat.succ_mul] at h5; omega))
              refine lv_lload hx hb dX6_waveOf_67 (lv_at hl 4 rfl) ?_
              refine lv_lload hx hb dX6_waveOf_69 (lv_at hl 1 rfl) ?_
              refine lv_lload hx hb dX6_waveOf_71 (lv_at hl 1 rfl) ?_
              refine ni_lmul hx hb dX6_waveOf_73 ?_
              refine ni_ladd hx hb dX6_waveOf_74 ?_
              refine lv_lstore (lv' := [(4, .long (lN (V + (Z * Z)))), (11, .int (nI t)), (9, .long (lN Z)), (8, .int (nI i)), (6, .long (lN S)), (3, .int (nI (((nr rv) / w) * w))), (0, .ref (ad 36)), (1, .int (nI rv)), (2, .int (nI w))]) hx hb dX6_waveOf_75 hl (by decide) rfl (fun ls hl => ?_)
              refine lv_lload hx hb dX6_waveOf_77 (lv_at hl 4 rfl) ?_
              refine lv_lload hx hb dX6_waveOf_79 (lv_at hl 2 rfl) ?_
              refine ni_ladd hx hb dX6_waveOf_81 ?_
              refine lv_lstore (lv' := [(6, .long (lN (S + Z))), (4, .long (lN (V + (Z * Z)))), (11, .int (nI t)), (9, .long (lN Z)), (8, .int (nI i)), (3, .int (nI (((nr rv) / w) * w))), (0, .ref (ad 36)), (1, .int (nI rv)), (2, .int (nI w))]) hx hb dX6_waveOf_82 hl (by decide) rfl (fun ls hl => ?_)
              refine lv_iinc (v := nI (i + 1)) (lv' := [(8, .int (nI (i + 1))), (6, .long (lN (S + Z))), (4, .long (lN (V + (Z * Z)))), (11, .int (nI t)), (9, .long (lN Z)), (3, .int (nI (((nr rv) / w) * w))), (0, .ref (ad 36)), (1, .int (nI rv)), (2, .int (nI w))]) hx hb dX6_waveOf_84 hl (k := 4) rfl (ni_inc1 _) (by decide) rfl (fun ls hl => ?_)
              refine lv_goto (tgt := 20) hx hb dX6_waveOf_87 (by decide) ?_
              exact ih20 (V + (Z * Z)) (S + Z) (i + 1) ls (by omega) (by rw [i3, j3, hqe]; rfl) (by rw [i4, j3, hqe]; rfl) (by omega) (lv_sub hl [0, 1, 2, 5, 6, 7, 8] rfl)
            · have hq1 : q < nr rv / w := Nat.lt_of_not_le (fun z => by have := Nat.mul_le_mul_right w z; omega)
              have hq := hra9 t (by omega)
              refine lv_lload hx hb dX6_waveOf_39 (lv_at hl 1 rfl) ?_
              refine lv_aload_n hx hb dX6_waveOf_41 rfl (lv_at hl 6 rfl) ?_
              refine rp_get C0 FX hH 36 (by decide) (ci := 6) (k := 10) f36 rfl kiX6 (by decide) kf38 rfl dX6_waveOf_42 ?_
              refine lv_sipush (v := nI 400) hx hb dX6_waveOf_45 (by decide) ?_
              refine lv_iload_n hx hb dX6_waveOf_48 rfl (lv_at hl 7 rfl) ?_
              refine ni_imul hx hb dX6_waveOf_49 ?_
              refine lv_iload hx hb dX6_waveOf_50 (lv_at hl 0 rfl) ?_
              refine ni_iadd hx hb dX6_waveOf_52 ?_
              refine rp_iald C0 FX hH 44 (by decide) (v := ar rv t) f44 ((400 * rv) + t) (by omega) (by decide) (hms rv (by omega) _ (by omega)) dX6_waveOf_53 ?_
              refine ni_i2l hx hb (by omega) dX6_waveOf_54 ?_
              refine ni_ladd hx hb dX6_waveOf_55 ?_
              refine lv_lstore (lv' := [(9, .long (lN (Z + (ar rv t)))), (11, .int (nI t)), (8, .int (nI i)), (6, .long (lN S)), (4, .long (lN V)), (3, .int (nI (((nr rv) / w) * w))), (0, .ref (ad 36)), (1, .int (nI rv)), (2, .int (nI w))]) hx hb dX6_waveOf_56 hl (by decide) rfl (fun ls hl => ?_)
              refine lv_iload hx hb dX6_waveOf_58 (lv_at hl 1 rfl) ?_
              refine lv_iload_n hx hb dX6_waveOf_60 rfl (lv_at hl 8 rfl) ?_
              refine ni_iadd hx hb dX6_waveOf_61 ?_
              refine lv_istore (lv' := [(11, .int (nI (t + w))), (9, .long (lN (Z + (ar rv t)))), (8, .int (nI i)), (6, .long (lN S)), (4, .long (lN V)), (3, .int (nI (((nr rv) / w) * w))), (0, .ref (ad 36)), (1, .int (nI rv)), (2, .int (nI w))]) hx hb dX6_waveOf_62 hl (by decide) rfl (fun ls hl => ?_)
              refine lv_goto (tgt := 33) hx hb dX6_waveOf_64 (by decide) ?_
              exact ih33 (Z + (ar rv t)) (t + w) (q + 1) ls (by rw [Nat.succ_mul]; omega) (by omega) (by rw [j3, j1]; rfl) (by omega) (lv_sub hl [0, 1, 2, 3, 4, 5, 6, 7, 8] rfl)
        exact L33 ((nr rv / w - 0) + 1) 0 i 0 ls (by rw [Nat.zero_mul]; rfl) (Nat.zero_le _) (by rfl) (Nat.lt_succ_self _) (lv_sub hl [0, 1, 2, 3, 4, 5, 6, 7, 8] rfl)
  exact L20 ((w - 0) + 1) 0 0 0 ls (by omega) (by rfl) (by rfl) (Nat.lt_succ_self _) (lv_sub hl [0, 1, 2, 3, 4, 5, 6] rfl)
set_option maxHeartbeats 4000000 in
set_option maxRecDepth 100000 in
theorem k_X6_wave (l : Launch) (X : Cx) (ad : Nat → Nat) (hi : inj 48 ad) (g : PF) (nm fa fb : Nat) (mc rd : Nat → Nat → Nat) (nr : Nat → Nat) (ar : Nat → Nat → Nat) (nb : Nat) (num : Nat → Nat) (lay pev : Nat) (pln : Nat → Nat) (tr : Nat) (hR : rMod X ad ((nm, fa, fb, mc, rd), nr, ar, (nb, num, lay, pev, pln, tr)) g) (p0 p1 : Int32) : Kl l yX6_wave wsX6_wave zr2 X 48 ad g [.ref (ad 36), .int p0, .int p1] (fun r g' => g' = g ∧ r = rowRd (sp_wave p1) (-1) p0 ((nm, fa, fb, mc, rd), nr, ar, (nb, num, lay, pev, pln, tr))) := by
  refine Kl.of (cc := cX6_wave) (maxL := 3) hi (by decide) rfl (Nat.le_of_ble_eq_true rfl) ?_
  intro p e s m below meth c Q E RET ls hl
  obtain ⟨C0, FX, hH⟩ := E
  have hx := C0.1
  have hb := C0.2.1
  have kl118 := C0.2.2.2.2 (.constantLong RX6 118 (lN 2)) (by decide +kernel)
  have kl124 := C0.2.2.2.2 (.constantLong RX6 124 (-1)) (by decide +kernel)
  have kl130 := C0.2.2.2.2 (.constantLong RX6 130 (lN 200)) (by decide +kernel)
  have hl : lv_has ls 3 [(0, .ref (ad 36)), (1, .int p0), (2, .int p1)] := hl
  obtain ⟨md, ma, mb, ml, mr, mo, cn, ms, fs, nn, pl, pm, f36, f37, f38, f39, f40, f41, f42, f43, f44, f45, f46, f47, hrL, hrR, hrS, hlok, hrok, hsok, hpm⟩ := hR
  have f36 : g 36 = .inr (6, [.int (nI fa), .int (nI fb), .int (nI nm), .ref (ad 37), .ref (ad 38), .ref (ad 39), .ref (ad 40), .ref (ad 41), .ref (ad 42), .ref (ad 43), .ref (ad 44), .ref (ad 45), .int (nI nb), .ref (ad 46), .int (nI lay), .int (nI pm), .ref (ad 47), .int (nI tr)]) := f36
  have hq37 : ∀ j, j < nm → md j = mc j 0 := fun j hj => (hrL.1 j hj).1
  have hq38 : ∀ j, j < nm → ma j = mc j 1 := fun j hj => (hrL.1 j hj).2.1
  have hq39 : ∀ j, j < nm → mb j = mc j 2 := fun j hj => (hrL.1 j hj).2.2.1
  have hq40 : ∀ j, j < nm → ml j = mc j 3 := fun j hj => (hrL.1 j hj).2.2.2.1
  have hq41 : ∀ j, j < nm → mr j = mc j 4 := fun j hj => (hrL.1 j hj).2.2.2.2
  have hmo : ∀ j, j < nm → ∀ r, r < mc j 4 → mo (3 * j + r) = rd j r := hrL.2
  have h6 : nm ≤ 6 := hlok.1
  have hfa : 1 ≤ fa ∧ fa ≤ 10000 := hlok.2.1
  have hfb : 1 ≤ fb ∧ fb ≤ 10000 := hlok.2.2.1
  have hmk : ∀ j, j < nm → mcOk (mc j) ∧ ∀ r, r < mc j 4 → 1 ≤ rd j r ∧ rd j r ≤ 1000 := hlok.2.2.2
  have hcn : ∀ r, r < 8 → cn r = nr r := hrR.1
  have hms : ∀ r, r < 8 → ∀ j, j < nr r → ms (400 * r + j) = ar r j := hrR.2
  have hro : ∀ r, r < 8 → nr r ≤ 400 ∧ ∀ j, j < nr r → ar r j ≤ 1000000 := hrok
  have hnn : ∀ j, j < nb → nn j = num j := hrS.1
  have hper : 0 < lay → pm = pev := hrS.2.1
  have hpl : ∀ j, j < lay * pev → pl j = pln j := hrS.2.2
  obtain ⟨k1, k2, k3, k4, k5, k6, k7⟩ := id hsok
  have k1 : nb ≤ 12 := k1
  have k2 : ∀ j, j < nb → num j ≤ 10000 := k2
  have k3 : 0 < lay → (1 ≤ pev ∧ pev ≤ 6) := k3
  have k4 : lay * pev ≤ 12 := k4
  have k5 : ∀ j, j < lay * pev → pln j ≤ 12 := k5
  have k6 : tr ≤ 100000 := k6
  have k7 : lay ≤ 12 := k7
  refine lv_iload_n hx hb dX6_wave_0 rfl (lv_at hl 1 rfl) ?_
  refine rc_Si (rest := []) C0 FX hH (k_X6_isRow l X ad hi _ p0) (va_cwS 1 C0.2.2.2.2 gX6_wave_X6_isRow rfl rfl rfl (by decide +kernel) ⟨Nat.le_of_ble_eq_true rfl, Nat.le_of_ble_eq_true rfl⟩) rfl rfl hl.1 (Nat.le_of_ble_eq_true rfl) dX6_wave_1 ⟨Nat.le_of_ble_eq_true rfl, Nat.le_of_ble_eq_true rfl⟩ (fun r1 g1c H locs h1 hH => ?_)
  obtain ⟨e1, rfl⟩ := h1
  rw [e1] at hH
  refine rb_eq hx hb 30 dX6_wave_4 (by decide) (fun c4 => ?_) (fun c4 => ?_)
  · refine lv_ldc2 hx hb C0.2.2.2.1 kl124 dX6_wave_30 ?_
    refine RET _ _ _ _ _ _ dX6_wave_33 ?_ hH
    exact ⟨rfl, (rd_bad (by assumption)).symm⟩
  · obtain ⟨rv, rfl, rv1, rv2, rv3⟩ := rng_nI c4
    refine lv_iload_n hx hb dX6_wave_7 rfl (lv_at hl 2 rfl) ?_
    refine lv_i2l hx hb dX6_wave_8 rfl ?_
    refine lv_ldc2 hx hb C0.2.2.2.1 kl118 dX6_wave_9 ?_
    refine lv_ldc2 hx hb C0.2.2.2.1 kl130 dX6_wave_12 ?_
    refine rc_Si (rest := []) C0 FX hH (k_X6_in_rng l X ad hi _ p1 2 200 (by omega) (by omega)) (va_cwS 3 C0.2.2.2.2 gX6_wave_X6_in rfl rfl rfl (by decide +kernel) ⟨Nat.le_of_ble_eq_true rfl, Nat.le_of_ble_eq_true rfl⟩) rfl rfl hl.1 (Nat.le_of_ble_eq_true rfl) dX6_wave_15 ⟨Nat.le_of_ble_eq_true rfl, Nat.le_of_ble_eq_true rfl⟩ (fun r15 g15c H locs h15 hH => ?_)
    obtain ⟨e15, rfl⟩ := h15
    rw [e15] at hH
    refine rb_eq hx hb 30 dX6_wave_18 (by decide) (fun c18 => ?_) (fun c18 => ?_)
    · refine lv_ldc2 hx hb C0.2.2.2.1 kl124 dX6_wave_30 ?_
      refine RET _ _ _ _ _ _ dX6_wave_33 ?_ hH
      refine ⟨rfl, (?_ : _ = _)⟩
      rw [rd_row rv2]
      show _ = sp_wave _ (nr rv) (ar rv)
      unfold sp_wave
      rw [if_neg (by assumption)]
    · obtain ⟨w, rfl, w1, w2, w3⟩ := rng_nI c18
      refine lv_aload_n hx hb dX6_wave_21 rfl (lv_at hl 0 rfl) ?_
      refine lv_iload_n hx hb dX6_wave_22 rfl (lv_at hl 1 rfl) ?_
      refine lv_iload_n hx hb dX6_wave_23 rfl (lv_at hl 2 rfl) ?_
      refine rc_Vl (rest := []) C0 FX hH 36 (by decide) f36 rfl (k_X6_waveOf l X ad hi _ nm fa fb mc rd nr ar nb num lay pev pln tr ⟨_, _, _, _, _, _, _, _, _, _, _, _, f36, f37, f38, f39, f40, f41, f42, f43, f44, f45, f46, f47, hrL, hrR, hrS, hlok, hrok, hsok, hpm⟩ rv w (by omega) (by omega) (by omega)) (cwV 2 C0.2.2.2.2 gX6_wave_X6_waveOf rfl rfl rfl (by decide +kernel) ⟨Nat.le_of_ble_eq_true rfl, Nat.le_of_ble_eq_true rfl⟩) rfl rfl hl.1 (Nat.le_of_ble_eq_true rfl) dX6_wave_24 ⟨Nat.le_of_ble_eq_true rfl, Nat.le_of_ble_eq_true rfl⟩ (fun r24 g24c H locs h24 hH => ?_)
      obtain ⟨e24, rfl⟩ := h24
      rw [e24] at hH
      refine lv_goto (tgt := 33) hx hb dX6_wave_27 (by decide) ?_
      refine RET _ _ _ _ _ _ dX6_wave_33 ?_ hH
      refine ⟨rfl, (?_ : _ = _)⟩
      rw [rd_row rv2]
      show _ = sp_wave _ (nr rv) (ar rv)
      unfold sp_wave
      rw [if_pos ((rng_iff (by omega)).mpr (by omega)), tN_nI (by omega)]
