set_option maxHeartbeats 4000000 in
set_option maxRecDepth 100000 in
theorem k_X6_plan (l : Launch) (X : Cx) (ad : Nat → Nat) (hi : inj 48 ad) (g : PF) (nm fa fb : Nat) (mc rd : Nat → Nat → Nat) (nr : Nat → Nat) (ar : Nat → Nat → Nat) (nb : Nat) (num : Nat → Nat) (lay pev : Nat) (pln : Nat → Nat) (tr : Nat) (hR : rMod X ad ((nm, fa, fb, mc, rd), nr, ar, (nb, num, lay, pev, pln, tr)) g) (p0 p1 p2 : Int32) : Ki l yX6_plan wsX6_plan zr3 X 48 ad g [.ref (ad 36), .int p0, .int p1, .int p2] (fun r g' => r = (storeOp (sp_plan p0 p1 p2) ((nm, fa, fb, mc, rd), nr, ar, (nb, num, lay, pev, pln, tr))).1 ∧ rMod X ad (storeOp (sp_plan p0 p1 p2) ((nm, fa, fb, mc, rd), nr, ar, (nb, num, lay, pev, pln, tr))).2 g' ∧ frM g g') := by
  refine Ki.of (cc := cX6_plan) (maxL := 9) hi (by decide) rfl (Nat.le_of_ble_eq_true rfl) ?_
  intro p e s m below meth c Q E RET ls hl
  obtain ⟨C0, FX, hH⟩ := E
  have hx := C0.1
  have hb := C0.2.1
  have kl155 := C0.2.2.2.2 (.constantLong RX6 155 (lN 6)) (by decide +kernel)
  have kl50 := C0.2.2.2.2 (.constantLong RX6 50 (lN 10000)) (by decide +kernel)
  have kiX6 : ∀ w ∈ u_ws RX6 TX6 18, w ∈ wsX6_plan := (by decide +kernel)
  have kf149 : Cond.fieldLink RX6 149 "YarnMillModel" "bales" "I" ∈ wsX6_plan := (by decide +kernel)
  have kf152 : Cond.fieldLink RX6 152 "YarnMillModel" "laydowns" "I" ∈ wsX6_plan := (by decide +kernel)
  have kf157 : Cond.fieldLink RX6 157 "YarnMillModel" "tries" "I" ∈ wsX6_plan := (by decide +kernel)
  have kf160 : Cond.fieldLink RX6 160 "YarnMillModel" "perLaydown" "I" ∈ wsX6_plan := (by decide +kernel)
  have kf47 : Cond.fieldLink RX6 47 "YarnMillModel" "plan" "[I" ∈ wsX6_plan := (by decide +kernel)
  have kc166 := C0.2.2.2.2 (.constant RX6 166 (nI 100000)) (by decide +kernel)
  have hl : lv_has ls 9 [(0, .ref (ad 36)), (1, .int p0), (2, .int p1), (3, .int p2)] := hl
  have fr : ∀ j, (j < 36) → g j = g j := fun j _ => rfl
  obtain ⟨md, ma, mb, ml, mr, mo, cn, ms, fs, nn, pl, pm, f36, f37, f38, f39, f40, f41, f42, f43, f44, f45, f46, f47, hrL, hrR, hrS, hlok, hrok, hsok, hpm⟩ := hR
  have f36 : g 36 = .inr (6, [.int (nI fa), .int (nI fb), .int (nI nm), .ref (ad 37), .ref (ad 38), .ref (ad 39), .ref (ad 40), .ref (ad 41), .ref (ad 42), .ref (ad 43), .ref (ad 44), .ref (ad 45), .int (nI nb), .ref (ad 46), .int (nI lay), .int (nI pm), .ref (ad 47), .int (nI tr)]) := f36
  have hq37 : ∀ j, j < nm → md j = mc j 0 := fun j hj => (hrL.1 j hj).1
  have hq38 : ∀ j, j < nm → ma j = mc j 1 := fun j hj => (hrL.1 j hj).2.1
  have hq39 : ∀ j, j < nm → mb j = mc j 2 := fun j hj => (hrL.1 j hj).2.2.1
  have hq40 : ∀ j, j < nm → ml j = mc j 3 := fun j hj => (hrL.1 j hj).2.2.2.1
  have hq41 : ∀ j, j < nm → mr j = mc j 4 := fun j hj => (hrL.1 j hj).2.2.2.2
  have hmo : ∀ j, j < nm → ∀ r, r < mc j 4 → mo (3 * j + r) = rd j r := hrL.2
  have h6 : nm ≤ 6 := hlok.1
  have hfa : 1 ≤ fa ∧ fa ≤ 10000 := hlok.2.1
  have hfb : 1 ≤ fb ∧ fb ≤ 10000 := hlok.2.2.1
  have hmk : ∀ j, j < nm → mcOk (mc j) ∧ ∀ r, r < mc j 4 → 1 ≤ rd j r ∧ rd j r ≤ 1000 := hlok.2.2.2
  have hcn : ∀ r, r < 8 → cn r = nr r := hrR.1
  have hms : ∀ r, r < 8 → ∀ j, j < nr r → ms (400 * r + j) = ar r j := hrR.2
  have hro : ∀ r, r < 8 → nr r ≤ 400 ∧ ∀ j, j < nr r → ar r j ≤ 1000000 := hrok
  have hnn : ∀ j, j < nb → nn j = num j := hrS.1
  have hper : 0 < lay → pm = pev := hrS.2.1
  have hpl : ∀ j, j < lay * pev → pl j = pln j := hrS.2.2
  obtain ⟨k1, k2, k3, k4, k5, k6, k7⟩ := id hsok
  have k1 : nb ≤ 12 := k1
  have k2 : ∀ j, j < nb → num j ≤ 10000 := k2
  have k3 : 0 < lay → (1 ≤ pev ∧ pev ≤ 6) := k3
  have k4 : lay * pev ≤ 12 := k4
  have k5 : ∀ j, j < lay * pev → pln j ≤ 12 := k5
  have k6 : tr ≤ 100000 := k6
  have k7 : lay ≤ 12 := k7
  refine lv_iload_n hx hb dX6_plan_0 rfl (lv_at hl 1 rfl) ?_
  refine lv_i2l hx hb dX6_plan_1 rfl ?_
  refine lv_lconst (v := lN 1) hx hb dX6_plan_2 (by decide) ?_
  refine lv_ldc2 hx hb C0.2.2.2.1 kl155 dX6_plan_3 ?_
  refine rc_Si (rest := []) C0 FX hH (k_X6_in_rng l X ad hi _ p0 1 6 (by omega) (by omega)) (va_cwS 3 C0.2.2.2.2 gX6_plan_X6_in rfl rfl rfl (by decide +kernel) ⟨Nat.le_of_ble_eq_true rfl, Nat.le_of_ble_eq_true rfl⟩) rfl rfl hl.1 (Nat.le_of_ble_eq_true rfl) dX6_plan_6 ⟨Nat.le_of_ble_eq_true rfl, Nat.le_of_ble_eq_true rfl⟩ (fun r6 g6c H locs h6 hH => ?_)
  obtain ⟨e6, rfl⟩ := h6
  rw [e6] at hH
  refine rb_eq hx hb 37 dX6_plan_9 (by decide) (fun c9 => ?_) (fun c9 => ?_)
  · refine lv_bipush (v := (-2)) hx hb dX6_plan_37 (by decide) ?_
    refine RET _ _ _ _ _ _ dX6_plan_39 rfl ?_ hH
    exact postM (by unfold storeOp sp_plan; rw [if_neg (fun z => by first | exact absurd z.1 (by assumption) | exact absurd z.2.1 (by assumption) | (have z3 := z.2.2; rw [tN_nI (by omega)] at z3; exact absurd z3 (by assumption)))]) ⟨_, _, _, _, _, _, _, _, _, _, _, _, f36, f37, f38, f39, f40, f41, f42, f43, f44, f45, f46, f47, hrL, hrR, hrS, hlok, hrok, hsok, hpm⟩ fr
  · obtain ⟨nv, rfl, nv1, nv2, nv3⟩ := rng_nI c9
    refine lv_iload_n hx hb dX6_plan_12 rfl (lv_at hl 2 rfl) ?_
    refine lv_i2l hx hb dX6_plan_13 rfl ?_
    refine lv_lconst (v := lN 0) hx hb dX6_plan_14 (by decide) ?_
    refine lv_ldc2 hx hb C0.2.2.2.1 kl50 dX6_plan_15 ?_
    refine rc_Si (rest := []) C0 FX hH (k_X6_in_rng l X ad hi _ p1 0 10000 (by omega) (by omega)) (va_cwS 3 C0.2.2.2.2 gX6_plan_X6_in rfl rfl rfl (by decide +kernel) ⟨Nat.le_of_ble_eq_true rfl, Nat.le_of_ble_eq_true rfl⟩) rfl rfl hl.1 (Nat.le_of_ble_eq_true rfl) dX6_plan_18 ⟨Nat.le_of_ble_eq_true rfl, Nat.le_of_ble_eq_true rfl⟩ (fun r18 g18c H locs h18 hH => ?_)
    obtain ⟨e18, rfl⟩ := h18
    rw [e18] at hH
    refine rb_eq hx hb 37 dX6_plan_21 (by decide) (fun c21 => ?_) (fun c21 => ?_)
    · refine lv_bipush (v := (-2)) hx hb dX6_plan_37 (by decide) ?_
      refine RET _ _ _ _ _ _ dX6_plan_39 rfl ?_ hH
      exact postM (by unfold storeOp sp_plan; rw [if_neg (fun z => by first | exact absurd z.1 (by assumption) | exact absurd z.2.1 (by assumption) | (have z3 := z.2.2; rw [tN_nI (by omega)] at z3; exact absurd z3 (by assumption)))]) ⟨_, _, _, _, _, _, _, _, _, _, _, _, f36, f37, f38, f39, f40, f41, f42, f43, f44, f45, f46, f47, hrL, hrR, hrS, hlok, hrok, hsok, hpm⟩ fr
    · obtain ⟨lv, rfl, lv1, lv2, lv3⟩ := rng_nI c21
      refine lv_iload_n hx hb dX6_plan_24 rfl (lv_at hl 3 rfl) ?_
      refine lv_i2l hx hb dX6_plan_25 rfl ?_
      refine lv_iload_n hx hb dX6_plan_26 rfl (lv_at hl 2 rfl) ?_
      refine ni_i2l hx hb (by omega) dX6_plan_27 ?_
      refine lv_ldc2 hx hb C0.2.2.2.1 kl50 dX6_plan_28 ?_
      refine rc_Si (rest := []) C0 FX hH (k_X6_in_rng l X ad hi _ p2 lv 10000 (by omega) (by omega)) (va_cwS 3 C0.2.2.2.2 gX6_plan_X6_in rfl rfl rfl (by decide +kernel) ⟨Nat.le_of_ble_eq_true rfl, Nat.le_of_ble_eq_true rfl⟩) rfl rfl hl.1 (Nat.le_of_ble_eq_true rfl) dX6_plan_31 ⟨Nat.le_of_ble_eq_true rfl, Nat.le_of_ble_eq_true rfl⟩ (fun r31 g31c H locs h31 hH => ?_)
      obtain ⟨e31, rfl⟩ := h31
      rw [e31] at hH
      refine rb_ne hx hb 40 dX6_plan_34 (by decide) (fun c34 => ?_) (fun c34 => ?_)
      · obtain ⟨hv, rfl, hv1, hv2, hv3⟩ := rng_nI c34
        refine lv_aload_n hx hb dX6_plan_40 rfl (lv_at hl 0 rfl) ?_
        refine lv_iconst (v := nI 0) hx hb dX6_plan_41 (by decide) ?_
        refine rp_put C0 FX hH 36 (by decide) (ci := 6) (k := 14) tyX6 tyX6_ok nmX6 f36 rfl kiX6 (by decide) kf152 rfl rfl rfl (Nat.le_of_ble_eq_true rfl) dX6_plan_42 (fun g1 H locs eq2 nq2 hH => ?_)
        have f36 : g1 36 = .inr (6, [.int (nI fa), .int (nI fb), .int (nI nm), .ref (ad 37), .ref (ad 38), .ref (ad 39), .ref (ad 40), .ref (ad 41), .ref (ad 42), .ref (ad 43), .ref (ad 44), .ref (ad 45), .int (nI nb), .ref (ad 46), .int (nI 0), .int (nI pm), .ref (ad 47), .int (nI tr)]) := eq2
        have f37 : g1 37 = arr X 6 md := (nq2 _ (by omega)).trans f37
        have f38 : g1 38 = arr X 6 ma := (nq2 _ (by omega)).trans f38
        have f39 : g1 39 = arr X 6 mb := (nq2 _ (by omega)).trans f39
        have f40 : g1 40 = arr X 6 ml := (nq2 _ (by omega)).trans f40
        have f41 : g1 41 = arr X 6 mr := (nq2 _ (by omega)).trans f41
        have f42 : g1 42 = arr X 18 mo := (nq2 _ (by omega)).trans f42
        have f43 : g1 43 = arr X 8 cn := (nq2 _ (by omega)).trans f43
        have f44 : g1 44 = arr X 3200 ms := (nq2 _ (by omega)).trans f44
        have f45 : g1 45 = arr X 400 fs := (nq2 _ (by omega)).trans f45
        have f46 : g1 46 = arr X 12 nn := (nq2 _ (by omega)).trans f46
        have f47 : g1 47 = arr X 12 pl := (nq2 _ (by omega)).trans f47
        have fr : ∀ j, (j < 36) → g1 j = g j := fun j a0 => (nq2 j (by omega)).trans (fr j a0)
        refine lv_aload_n hx hb dX6_plan_45 rfl (lv_at hl 0 rfl) ?_
        refine rp_get C0 FX hH 36 (by decide) (ci := 6) (k := 12) f36 rfl kiX6 (by decide) kf149 rfl dX6_plan_46 ?_
        refine lv_iload_n hx hb dX6_plan_49 rfl (lv_at hl 1 rfl) ?_
        refine ni_irem hx hb (by omega) (by omega) (by omega) dX6_plan_50 ?_
        refine ni_eq0 hx hb 57 dX6_plan_51 (by decide) (by have := Nat.mod_lt nb (show 0 < nv by omega); omega) (fun c51 => ?_) (fun c51 => ?_)
        · have hdv9 : nb = nb / nv * nv := by have := Nat.div_add_mod nb nv; rw [c51, Nat.add_zero, Nat.mul_comm] at this; exact this.symm
          refine lv_aload_n hx hb dX6_plan_57 rfl (lv_at hl 0 rfl) ?_
          refine lv_iconst (v := nI 0) hx hb dX6_plan_58 (by decide) ?_
          refine rp_put C0 FX hH 36 (by decide) (ci := 6) (k := 17) tyX6 tyX6_ok nmX6 f36 rfl kiX6 (by decide) kf157 rfl rfl rfl (Nat.le_of_ble_eq_true rfl) dX6_plan_59 (fun g3 H locs eq4 nq4 hH => ?_)
          have f36 : g3 36 = .inr (6, [.int (nI fa), .int (nI fb), .int (nI nm), .ref (ad 37), .ref (ad 38), .ref (ad 39), .ref (ad 40), .ref (ad 41), .ref (ad 42), .ref (ad 43), .ref (ad 44), .ref (ad 45), .int (nI nb), .ref (ad 46), .int (nI 0), .int (nI pm), .ref (ad 47), .int (nI 0)]) := eq4
          have f37 : g3 37 = arr X 6 md := (nq4 _ (by omega)).trans f37
          have f38 : g3 38 = arr X 6 ma := (nq4 _ (by omega)).trans f38
          have f39 : g3 39 = arr X 6 mb := (nq4 _ (by omega)).trans f39
          have f40 : g3 40 = arr X 6 ml := (nq4 _ (by omega)).trans f40
          have f41 : g3 41 = arr X 6 mr := (nq4 _ (by omega)).trans f41
          have f42 : g3 42 = arr X 18 mo := (nq4 _ (by omega)).trans f42
          have f43 : g3 43 = arr X 8 cn := (nq4 _ (by omega)).trans f43
          have f44 : g3 44 = arr X 3200 ms := (nq4 _ (by omega)).trans f44
          have f45 : g3 45 = arr X 400 fs := (nq4 _ (by omega)).trans f45
          have f46 : g3 46 = arr X 12 nn := (nq4 _ (by omega)).trans f46
          have f47 : g3 47 = arr X 12 pl := (nq4 _ (by omega)).trans f47
          have fr : ∀ j, (j < 36) → g3 j = g j := fun j a0 => (nq4 j (by omega)).trans (fr j a0)
          refine lv_aload_n hx hb dX6_plan_62 rfl (lv_at hl 0 rfl) ?_
          refine lv_iload_n hx hb dX6_plan_63 rfl (lv_at hl 1 rfl) ?_
          refine rp_put C0 FX hH 36 (by decide) (ci := 6) (k := 15) tyX6 tyX6_ok nmX6 f36 rfl kiX6 (by decide) kf160 rfl rfl rfl (Nat.le_of_ble_eq_true rfl) dX6_plan_64 (fun g5 H locs eq6 nq6 hH => ?_)
          have f36 : g5 36 = .inr (6, [.int (nI fa), .int (nI fb), .int (nI nm), .ref (ad 37), .ref (ad 38), .ref (ad 39), .ref (ad 40), .ref (ad 41), .ref (ad 42), .ref (ad 43), .ref (ad 44), .ref (ad 45), .int (nI nb), .ref (ad 46), .int (nI 0), .int (nI nv), .ref (ad 47), .int (nI 0)]) := eq6
          have f37 : g5 37 = arr X 6 md := (nq6 _ (by omega)).trans f37
          have f38 : g5 38 = arr X 6 ma := (nq6 _ (by omega)).trans f38
          have f39 : g5 39 = arr X 6 mb := (nq6 _ (by omega)).trans f39
          have f40 : g5 40 = arr X 6 ml := (nq6 _ (by omega)).trans f40
          have f41 : g5 41 = arr X 6 mr := (nq6 _ (by omega)).trans f41
          have f42 : g5 42 = arr X 18 mo := (nq6 _ (by omega)).trans f42
          have f43 : g5 43 = arr X 8 cn := (nq6 _ (by omega)).trans f43
          have f44 : g5 44 = arr X 3200 ms := (nq6 _ (by omega)).trans f44
          have f45 : g5 45 = arr X 400 fs := (nq6 _ (by omega)).trans f45
          have f46 : g5 46 = arr X 12 nn := (nq6 _ (by omega)).trans f46
          have f47 : g5 47 = arr X 12 pl := (nq6 _ (by omega)).trans f47
          have fr : ∀ j, (j < 36) → g5 j = g j := fun j a0 => (nq6 j (by omega)).trans (fr j a0)
          refine lv_iconst (v := nI 0) hx hb dX6_plan_67 (by decide) ?_
          refine lv_istore (lv' := [(4, .int (nI 0)), (0, .ref (ad 36)), (1, .int (nI nv)), (2, .int (nI lv)), (3, .int (nI hv))]) hx hb dX6_plan_68 hl (by decide) rfl (fun ls hl => ?_)
          refine lv_iconst (v := nI 0) hx hb dX6_plan_70 (by decide) ?_
          refine lv_istore (lv' := [(5, .int (nI 0)), (4, .int (nI 0)), (0, .ref (ad 36)), (1, .int (nI nv)), (2, .int (nI lv)), (3, .int (nI hv))]) hx hb dX6_plan_71 hl (by decide) rfl (fun ls hl => ?_)
          obtain ⟨o, hO⟩ : ∃ o, o = srch nv lv hv nb num := ⟨_, rfl⟩
          have hK := srch_K nv lv hv nb num
          rw [← hO] at hK
          obtain ⟨G, hGd⟩ : ∃ G : Nat → Nat → Nat → (Nat → Nat) → Prop, G = fun k9 f9 t9 pl9 => (k9 ≤ nb + 1) → (f9 ≤ nb) → (t9 ≤ 100000) → (∀ j, j + 1 < k9 → pl9 j < nb) → ∀ (g9 : PF) (H : Heap) (locs : List Loc) (ls : Array Slot), WH X 48 ad (pA 48 ad s.heap.size) s g9 H locs → g9 36 = .inr (6, [.int (nI fa), .int (nI fb), .int (nI nm), .ref (ad 37), .ref (ad 38), .ref (ad 39), .ref (ad 40), .ref (ad 41), .ref (ad 42), .ref (ad 43), .ref (ad 44), .ref (ad 45), .int (nI nb), .ref (ad 46), .int (nI 0), .int (nI nv), .ref (ad 47), .int (nI t9)]) → g9 37 = arr X 6 md → g9 38 = arr X 6 ma → g9 39 = arr X 6 mb → g9 40 = arr X 6 ml → g9 41 = arr X 6 mr → g9 42 = arr X 18 mo → g9 43 = arr X 8 cn → g9 44 = arr X 3200 ms → g9 45 = arr X 400 fs → g9 46 = arr X 12 nn → g9 47 = arr X 12 pl9 → (∀ j, (j < 36) → g9 j = g j) → lv_has ls 9 [(5, .int (nI f9)), (4, .int (nI (k9) - nI 1)), (0, .ref (ad 36)), (1, .int (nI nv)), (2, .int (nI lv)), (3, .int (nI hv))] → W p l e zr3 s m ([.ref (ad 36), .int (nI nv), .int (nI lv), .int (nI hv)] : List Value).toArray below meth c H locs 0 0 Q (F0 m 73 ls []) := ⟨_, rfl⟩
          have IT : ∀ (p9 f9 t9 : Nat) (pl9 : Nat → Nat), p9 < nb → (bnx nb nv pl9 p9 f9 = nb → G p9 (if p9 = 0 then 0 else pl9 (p9 - 1) + 1) t9 pl9) → (bnx nb nv pl9 p9 f9 < nb → p9 % nv ≠ 0 → t9 = 100000 → (o.1 = 2 ∧ o.2.1 = t9)) → (bnx nb nv pl9 p9 f9 < nb → (p9 % nv = 0 ∨ t9 < 100000) → (if p9 % nv < nv - 1 ∨ (nv * lv ≤ wsum num (va_up pl9 p9 (bnx nb nv pl9 p9 f9)) p9 nv ∧ wsum num (va_up pl9 p9 (bnx nb nv pl9 p9 f9)) p9 nv ≤ nv * hv) then G (p9 + 2) (if p9 % nv = nv - 1 then 0 else bnx nb nv pl9 p9 f9 + 1) (if p9 % nv = 0 then t9 else t9 + 1) (va_up pl9 p9 (bnx nb nv pl9 p9 f9)) else G (p9 + 1) (bnx nb nv pl9 p9 f9 + 1) (if p9 % nv = 0 then t9 else t9 + 1) (va_up pl9 p9 (bnx nb nv pl9 p9 f9)))) → G (p9 + 1) f9 t9 pl9 := by
            intro p9 f9 t9 pl9 hp9 q1 q2 q3
            rw [hGd] at q1 q3 ⊢
            intro hk9 hf9 ht9 hpb g9 H locs ls hH f36 f37 f38 f39 f40 f41 f42 f43 f44 f45 f46 f47 fr hl
            rw [ni_pred] at hl
            have hmd := Nat.mod_lt p9 (show 0 < nv by omega)
            have hml := Nat.mod_le p9 nv
            refine lv_iload hx hb dX6_plan_73 (lv_at hl 1 rfl) ?_
            refine ni_lt0 hx hb dX6_plan_75 296 (by decide) (by omega) ?_
            refine lv_iload hx hb dX6_plan_78 (lv_at hl 1 rfl) ?_
            refine lv_aload_n hx hb dX6_plan_80 rfl (lv_at hl 2 rfl) ?_
            refine rp_get C0 FX hH 36 (by decide) (ci := 6) (k := 12) f36 rfl kiX6 (by decide) kf149 rfl dX6_plan_81 ?_
            refine ni_cge hx hb 296 dX6_plan_84 (by decide) (by omega) (by omega) (fun c84 => ?_) (fun c84 => ?_)
            · exact absurd c84 (by omega)
            · refine lv_iload hx hb dX6_plan_87 (lv_at hl 1 rfl) ?_
              refine lv_iload_n hx hb dX6_plan_89 rfl (lv_at hl 3 rfl) ?_
              refine ni_irem hx hb (by omega) (by omega) (by omega) dX6_plan_90 ?_
              refine ni_ne0 hx hb 98 dX6_plan_91 (by decide) (by omega) (fun c91 => ?_) (fun c91 => ?_)
              · refine lv_iconst (v := nI 0) hx hb dX6_plan_98 (by decide) ?_
                refine lv_istore (lv' := [(6, .int (nI 0)), (5, .int (nI f9)), (4, .int (nI p9)), (0, .ref (ad 36)), (1, .int (nI nv)), (2, .int (nI lv)), (3, .int (nI hv))]) hx hb dX6_plan_99 hl (by decide) rfl (fun ls hl => ?_)
                refine lv_iload hx hb dX6_plan_101 (lv_at hl 0 rfl) ?_
                refine lv_if_eq (tgt := 118) hx hb dX6_plan_103 (by decide) (fun c103 => ?_) (fun c103 => absurd (by decide) c103)
                refine lv_aload_n hx hb dX6_plan_118 rfl (lv_at hl 3 rfl) ?_
                refine lv_iload hx hb dX6_plan_119 (lv_at hl 0 rfl) ?_
                refine lv_if_eq (tgt := 128) hx hb dX6_plan_121 (by decide) (fun c121 => ?_) (fun c121 => absurd (by decide) c121)
                refine lv_iload hx hb dX6_plan_128 (lv_at hl 1 rfl) ?_
                refine lv_iload hx hb dX6_plan_130 (lv_at hl 2 rfl) ?_
                refine rc_Vi (rest := []) C0 FX hH 36 (by decide) f36 rfl (k_X6_nextBale l X ad hi _ fa fb nm nb 0 nv t9 pl9 f36 f47 f9 p9 (by omega) k1 (by omega) (fun j hj => by have := hpb j (by omega); omega)) (cwV 2 C0.2.2.2.2 gX6_plan_X6_nextBale rfl rfl rfl (by decide +kernel) ⟨Nat.le_of_ble_eq_true rfl, Nat.le_of_ble_eq_true rfl⟩) rfl rfl hl.1 (Nat.le_of_ble_eq_true rfl) dX6_plan_132 ⟨Nat.le_of_ble_eq_true rfl, Nat.le_of_ble_eq_true rfl⟩ (fun r132 g132c H locs h132 hH => ?_)
                obtain ⟨e132, rfl⟩ := h132
                rw [e132] at hH
                refine lv_istore (lv' := [(7, .int (nI (lfr pl9 p9 (nb - f9) f9))), (6, .int (nI 0)), (5, .int (nI f9)), (4, .int (nI p9)), (0, .ref (ad 36)), (1, .int (nI nv)), (2, .int (nI lv)), (3, .int (nI hv))]) hx hb dX6_plan_135 hl (by decide) rfl (fun ls hl => ?_)
                have hbx : bnx nb nv pl9 p9 f9 = lfr pl9 p9 (nb - f9) f9 := by unfold bnx; rw [if_neg (fun z => absurd z.1 (by omega)), if_neg (by omega)]
                have hble := lfr_le pl9 p9 (nb - f9) f9
                refine lv_iload hx hb dX6_plan_137 (lv_at hl 0 rfl) ?_
                refine lv_aload_n hx hb dX6_plan_139 rfl (lv_at hl 4 rfl) ?_
                refine rp_get C0 FX hH 36 (by decide) (ci := 6) (k := 12) f36 rfl kiX6 (by decide) kf149 rfl dX6_plan_140 ?_
                refine ni_cne hx hb 172 dX6_plan_143 (by decide) (by omega) (by omega) (fun c143 => ?_) (fun c143 => ?_)
                · have hbl : lfr pl9 p9 (nb - f9) f9 < nb := by omega
                  refine lv_iload hx hb dX6_plan_172 (lv_at hl 1 rfl) ?_
                  refine lv_if_ne (tgt := 189) hx hb dX6_plan_174 (by decide) (fun c174 => absurd (by decide) c174) (fun c174 => ?_)
                  refine lv_aload_n hx hb dX6_plan_177 rfl (lv_at hl 4 rfl) ?_
                  refine rp_get C0 FX hH 36 (by decide) (ci := 6) (k := 17) f36 rfl kiX6 (by decide) kf157 rfl dX6_plan_178 ?_
                  refine lv_ldc hx hb C0.2.2.2.1 kc166 dX6_plan_181 ?_
                  refine ni_cne hx hb 189 dX6_plan_183 (by decide) (by omega) (by omega) (fun c183 => ?_) (fun c183 => ?_)
                  · refine lv_aload_n hx hb dX6_plan_189 rfl (lv_at hl 4 rfl) ?_
                    refine lv_dup hx hb dX6_plan_190 rfl ?_
                    refine rp_get C0 FX hH 36 (by decide) (ci := 6) (k := 17) f36 rfl kiX6 (by decide) kf157 rfl dX6_plan_191 ?_
                    refine lv_iload hx hb dX6_plan_194 (lv_at hl 1 rfl) ?_
                    refine lv_if_eq (tgt := 203) hx hb dX6_plan_196 (by decide) (fun c196 => ?_) (fun c196 => absurd (by decide) c196)
                    refine lv_iconst (v := nI 1) hx hb dX6_plan_203 (by decide) ?_
                    refine ni_iadd hx hb dX6_plan_204 ?_
                    refine rp_put C0 FX hH 36 (by decide) (ci := 6) (k := 17) tyX6 tyX6_ok nmX6 f36 rfl kiX6 (by decide) kf157 rfl rfl rfl (Nat.le_of_ble_eq_true rfl) dX6_plan_205 (fun g7 H locs eq8 nq8 hH => ?_)
                    have f36 : g7 36 = .inr (6, [.int (nI fa), .int (nI fb), .int (nI nm), .ref (ad 37), .ref (ad 38), .ref (ad 39), .ref (ad 40), .ref (ad 41), .ref (ad 42), .ref (ad 43), .ref (ad 44), .ref (ad 45), .int (nI nb), .ref (ad 46), .int (nI 0), .int (nI nv), .ref (ad 47), .int (nI (t9 + 1))]) := eq8
                    have f37 : g7 37 = arr X 6 md := (nq8 _ (by omega)).trans f37
                    have f38 : g7 38 = arr X 6 ma := (nq8 _ (by omega)).trans f38
                    have f39 : g7 39 = arr X 6 mb := (nq8 _ (by omega)).trans f39
                    have f40 : g7 40 = arr X 6 ml := (nq8 _ (by omega)).trans f40
                    have f41 : g7 41 = arr X 6 mr := (nq8 _ (by omega)).trans f41
                    have f42 : g7 42 = arr X 18 mo := (nq8 _ (by omega)).trans f42
                    have f43 : g7 43 = arr X 8 cn := (nq8 _ (by omega)).trans f43
                    have f44 : g7 44 = arr X 3200 ms := (nq8 _ (by omega)).trans f44
                    have f45 : g7 45 = arr X 400 fs := (nq8 _ (by omega)).trans f45
                    have f46 : g7 46 = arr X 12 nn := (nq8 _ (by omega)).trans f46
                    have f47 : g7 47 = arr X 12 pl9 := (nq8 _ (by omega)).trans f47
                    have fr : ∀ j, (j < 36) → g7 j = g j := fun j a0 => (nq8 j (by omega)).trans (fr j a0)
                    have hQ := q3 (by rw [hbx]; exact hbl) (Or.inr (by omega))
                    rw [hbx, if_neg (show ¬ p9 % nv = 0 by omega)] at hQ
                    refine lv_aload_n hx hb dX6_plan_208 rfl (lv_at hl 4 rfl) ?_
                    refine rp_get C0 FX hH 36 (by decide) (ci := 6) (k := 16) f36 rfl kiX6 (by decide) kf47 rfl dX6_plan_209 ?_
                    refine lv_iload hx hb dX6_plan_212 (lv_at hl 3 rfl) ?_
                    refine lv_iload hx hb dX6_plan_214 (lv_at hl 0 rfl) ?_
                    refine rp_iast C0 FX hH 47 (by decide) f47 p9 (lfr pl9 p9 (nb - f9) f9) (by omega) (by decide) dX6_plan_216 (fun g9 H locs eq10 nq10 hH => ?_)
                    have f47 : g9 47 = arr X 12 (va_up pl9 p9 (lfr pl9 p9 (nb - f9) f9)) := eq10
                    have f36 : g9 36 = .inr (6, [.int (nI fa), .int (nI fb), .int (nI nm), .ref (ad 37), .ref (ad 38), .ref (ad 39), .ref (ad 40), .ref (ad 41), .ref (ad 42), .ref (ad 43), .ref (ad 44), .ref (ad 45), .int (nI nb), .ref (ad 46), .int (nI 0), .int (nI nv), .ref (ad 47), .int (nI (t9 + 1))]) := (nq10 _ (by omega)).trans f36
                    have f37 : g9 37 = arr X 6 md := (nq10 _ (by omega)).trans f37
                    have f38 : g9 38 = arr X 6 ma := (nq10 _ (by omega)).trans f38
                    have f39 : g9 39 = arr X 6 mb := (nq10 _ (by omega)).trans f39
                    have f40 : g9 40 = arr X 6 ml := (nq10 _ (by omega)).trans f40
                    have f41 : g9 41 = arr X 6 mr := (nq10 _ (by omega)).trans f41
                    have f42 : g9 42 = arr X 18 mo := (nq10 _ (by omega)).trans f42
                    have f43 : g9 43 = arr X 8 cn := (nq10 _ (by omega)).trans f43
                    have f44 : g9 44 = arr X 3200 ms := (nq10 _ (by omega)).trans f44
                    have f45 : g9 45 = arr X 400 fs := (nq10 _ (by omega)).trans f45
                    have f46 : g9 46 = arr X 12 nn := (nq10 _ (by omega)).trans f46
                    have fr : ∀ j, (j < 36) → g9 j = g j := fun j a0 => (nq10 j (by omega)).trans (fr j a0)
                    refine lv_iload hx hb dX6_plan_217 (lv_at hl 3 rfl) ?_
                    refine lv_iload_n hx hb dX6_plan_219 rfl (lv_at hl 5 rfl) ?_
                    refine ni_irem hx hb (by omega) (by omega) (by omega) dX6_plan_220 ?_
                    refine lv_iload_n hx hb dX6_plan_221 rfl (lv_at hl 5 rfl) ?_
                    refine lv_iconst (v := nI 1) hx hb dX6_plan_222 (by decide) ?_
                    refine ni_isub hx hb (by omega) dX6_plan_223 ?_
                    refine ni_clt hx hb 239 dX6_plan_224 (by decide) (by omega) (by omega) (fun c224 => ?_) (fun c224 => ?_)
                    · have hlast : ¬ p9 % nv = nv - 1 := by omega
                      refine lv_iconst (v := nI 1) hx hb dX6_plan_239 (by decide) ?_
                      refine lv_goto (tgt := 244) hx hb dX6_plan_240 (by decide) ?_
                      refine lv_istore (lv' := [(8, .int (nI 1)), (7, .int (nI (lfr pl9 p9 (nb - f9) f9))), (6, .int (nI 0)), (5, .int (nI f9)), (4, .int (nI p9)), (0, .ref (ad 36)), (1, .int (nI nv)), (2, .int (nI lv)), (3, .int (nI hv))]) hx hb dX6_plan_244 hl (by decide) rfl (fun ls hl => ?_)
                      refine lv_iload hx hb dX6_plan_246 (lv_at hl 0 rfl) ?_
                      refine lv_if_eq (tgt := 272) hx hb dX6_plan_248 (by decide) (fun c248 => absurd c248 (by decide)) (fun c248 => ?_)
                      refine lv_iload hx hb dX6_plan_251 (lv_at hl 4 rfl) ?_
                      refine lv_iload_n hx hb dX6_plan_253 rfl (lv_at hl 6 rfl) ?_
                      refine ni_irem hx hb (by omega) (by omega) (by omega) dX6_plan_254 ?_
                      refine lv_iload_n hx hb dX6_plan_255 rfl (lv_at hl 6 rfl) ?_
                      refine lv_iconst (v := nI 1) hx hb dX6_plan_256 (by decide) ?_
                      refine ni_isub hx hb (by omega) dX6_plan_257 ?_
                      refine ni_cne hx hb 265 dX6_plan_258 (by decide) (by omega) (by omega) (fun c258 => ?_) (fun c258 => ?_)
                      · refine lv_iload hx hb dX6_plan_265 (lv_at hl 1 rfl) ?_
                        refine lv_iconst (v := nI 1) hx hb dX6_plan_267 (by decide) ?_
                        refine ni_iadd hx hb dX6_plan_268 ?_
                        refine lv_goto (tgt := 276) hx hb dX6_plan_269 (by decide) ?_
                        refine lv_istore (lv' := [(5, .int (nI ((lfr pl9 p9 (nb - f9) f9) + 1))), (8, .int (nI 1)), (7, .int (nI (lfr pl9 p9 (nb - f9) f9))), (6, .int (nI 0)), (4, .int (nI p9)), (0, .ref (ad 36)), (1, .int (nI nv)), (2, .int (nI lv)), (3, .int (nI hv))]) hx hb dX6_plan_276 hl (by decide) rfl (fun ls hl => ?_)
                        refine lv_iload hx hb dX6_plan_278 (lv_at hl 4 rfl) ?_
                        refine lv_iload hx hb dX6_plan_280 (lv_at hl 1 rfl) ?_
                        refine lv_if_eq (tgt := 289) hx hb dX6_plan_282 (by decide) (fun c282 => absurd c282 (by decide)) (fun c282 => ?_)
                        refine lv_iconst (v := nI 1) hx hb dX6_plan_285 (by decide) ?_
                        refine lv_goto (tgt := 290) hx hb dX6_plan_286 (by decide) ?_
                        refine ni_iadd hx hb dX6_plan_290 ?_
                        refine lv_istore (lv' := [(4, .int (nI (p9 + 1))), (5, .int (nI ((lfr pl9 p9 (nb - f9) f9) + 1))), (8, .int (nI 1)), (7, .int (nI (lfr pl9 p9 (nb - f9) f9))), (6, .int (nI 0)), (0, .ref (ad 36)), (1, .int (nI nv)), (2, .int (nI lv)), (3, .int (nI hv))]) hx hb dX6_plan_291 hl (by decide) rfl (fun ls hl => ?_)
                        refine lv_goto (tgt := 73) hx hb dX6_plan_293 (by decide) ?_
                        rw [show nI (p9 + 1) = nI (p9 + 2) - nI 1 from (ni_pred (p9 + 1)).symm] at hl
                        have hG := hQ
                        rw [if_pos (Or.inl c224), if_neg hlast] at hG
                        exact hG (by omega) (by omega) (by omega) (fun j hj => by by_cases q : j = p9; rw [q, va_up_self]; omega; rw [va_up_ne _ _ q]; exact hpb j (by omega)) _ _ _ _ hH f36 f37 f38 f39 f40 f41 f42 f43 f44 f45 f46 f47 fr (lv_sub hl [1, 0, 5, 6, 7, 8] rfl)
                      · exact absurd c258 hlast
                    · have hlast : p9 % nv = nv - 1 := by omega
                      refine lv_aload_n hx hb dX6_plan_227 rfl (lv_at hl 4 rfl) ?_
                      refine lv_iload hx hb dX6_plan_228 (lv_at hl 3 rfl) ?_
                      refine lv_iload_n hx hb dX6_plan_230 rfl (lv_at hl 5 rfl) ?_
                      refine lv_iload_n hx hb dX6_plan_231 rfl (lv_at hl 6 rfl) ?_
                      refine lv_iload_n hx hb dX6_plan_232 rfl (lv_at hl 7 rfl) ?_
                      refine rc_Vi (rest := []) C0 FX hH 36 (by decide) f36 rfl (k_X6_isWhole l X ad hi _ fa fb nm nb 0 nv (t9 + 1) nn (va_up pl9 p9 (lfr pl9 p9 (nb - f9) f9)) num f36 f47 f46 hnn k2 p9 nv lv hv k1 (by omega) nv2 (by omega) lv2 hv2 (fun j hj => by by_cases q : j = p9; rw [q, va_up_self]; omega; rw [va_up_ne _ _ q]; exact hpb j (by omega))) (cwV 4 C0.2.2.2.2 gX6_plan_X6_isWhole rfl rfl rfl (by decide +kernel) ⟨Nat.le_of_ble_eq_true rfl, Nat.le_of_ble_eq_true rfl⟩) rfl rfl hl.1 (Nat.le_of_ble_eq_true rfl) dX6_plan_233 ⟨Nat.le_of_ble_eq_true rfl, Nat.le_of_ble_eq_true rfl⟩ (fun r233 g233c H locs h233 hH => ?_)
                      obtain ⟨e233, rfl⟩ := h233
                      rw [e233] at hH
                      refine rb_eq hx hb 243 dX6_plan_236 (by decide) (fun c236 => ?_) (fun c236 => ?_)
                      · refine lv_iconst (v := nI 0) hx hb dX6_plan_243 (by decide) ?_
                        refine lv_istore (lv' := [(8, .int (nI 0)), (7, .int (nI (lfr pl9 p9 (nb - f9) f9))), (6, .int (nI 0)), (5, .int (nI f9)), (4, .int (nI p9)), (0, .ref (ad 36)), (1, .int (nI nv)), (2, .int (nI lv)), (3, .int (nI hv))]) hx hb dX6_plan_244 hl (by decide) rfl (fun ls hl => ?_)
                        refine lv_iload hx hb dX6_plan_246 (lv_at hl 0 rfl) ?_
                        refine lv_if_eq (tgt := 272) hx hb dX6_plan_248 (by decide) (fun c248 => ?_) (fun c248 => absurd (by decide) c248)
                        refine lv_iload hx hb dX6_plan_272 (lv_at hl 1 rfl) ?_
                        refine lv_iconst (v := nI 1) hx hb dX6_plan_274 (by decide) ?_
                        refine ni_iadd hx hb dX6_plan_275 ?_
                        refine lv_istore (lv' := [(5, .int (nI ((lfr pl9 p9 (nb - f9) f9) + 1))), (8, .int (nI 0)), (7, .int (nI (lfr pl9 p9 (nb - f9) f9))), (6, .int (nI 0)), (4, .int (nI p9)), (0, .ref (ad 36)), (1, .int (nI nv)), (2, .int (nI lv)), (3, .int (nI hv))]) hx hb dX6_plan_276 hl (by decide) rfl (fun ls hl => ?_)
                        refine lv_iload hx hb dX6_plan_278 (lv_at hl 4 rfl) ?_
                        refine lv_iload hx hb dX6_plan_280 (lv_at hl 1 rfl) ?_
                        refine lv_if_eq (tgt := 289) hx hb dX6_plan_282 (by decide) (fun c282 => ?_) (fun c282 => absurd (by decide) c282)
                        refine lv_iconst (v := nI 0) hx hb dX6_plan_289 (by decide) ?_
                        refine ni_iadd hx hb dX6_plan_290 ?_
                        refine lv_istore (lv' := [(4, .int (nI (p9 + 0))), (5, .int (nI ((lfr pl9 p9 (nb - f9) f9) + 1))), (8, .int (nI 0)), (7, .int (nI (lfr pl9 p9 (nb - f9) f9))), (6, .int (nI 0)), (0, .ref (ad 36)), (1, .int (nI nv)), (2, .int (nI lv)), (3, .int (nI hv))]) hx hb dX6_plan_291 hl (by decide) rfl (fun ls hl => ?_)
                        refine lv_goto (tgt := 73) hx hb dX6_plan_293 (by decide) ?_
                        rw [show nI (p9 + 0) = nI (p9 + 1) - nI 1 from (ni_pred p9).symm] at hl
                        have hG := hQ
                        rw [if_neg (fun z => z.elim (fun z => absurd z (by omega)) c236)] at hG
                        exact hG (by omega) (by omega) (by omega) (fun j hj => by rw [va_up_ne _ _ (by omega)]; exact hpb j (by omega)) _ _ _ _ hH f36 f37 f38 f39 f40 f41 f42 f43 f44 f45 f46 f47 fr (lv_sub hl [1, 0, 5, 6, 7, 8] rfl)
                      · refine lv_iconst (v := nI 1) hx hb dX6_plan_239 (by decide) ?_
                        refine lv_goto (tgt := 244) hx hb dX6_plan_240 (by decide) ?_
                        refine lv_istore (lv' := [(8, .int (nI 1)), (7, .int (nI (lfr pl9 p9 (nb - f9) f9))), (6, .int (nI 0)), (5, .int (nI f9)), (4, .int (nI p9)), (0, .ref (ad 36)), (1, .int (nI nv)), (2, .int (nI lv)), (3, .int (nI hv))]) hx hb dX6_plan_244 hl (by decide) rfl (fun ls hl => ?_)
                        refine lv_iload hx hb dX6_plan_246 (lv_at hl 0 rfl) ?_
                        refine lv_if_eq (tgt := 272) hx hb dX6_plan_248 (by decide) (fun c248 => absurd c248 (by decide)) (fun c248 => ?_)
                        refine lv_iload hx hb dX6_plan_251 (lv_at hl 4 rfl) ?_
                        refine lv_iload_n hx hb dX6_plan_253 rfl (lv_at hl 6 rfl) ?_
                        refine ni_irem hx hb (by omega) (by omega) (by omega) dX6_plan_254 ?_
                        refine lv_iload_n hx hb dX6_plan_255 rfl (lv_at hl 6 rfl) ?_
                        refine lv_iconst (v := nI 1) hx hb dX6_plan_256 (by decide) ?_
                        refine ni_isub hx hb (by omega) dX6_plan_257 ?_
                        refine ni_cne hx hb 265 dX6_plan_258 (by decide) (by omega) (by omega) (fun c258 => ?_) (fun c258 => ?_)
                        · exact absurd hlast c258
                        · refine lv_iconst (v := nI 0) hx hb dX6_plan_261 (by decide) ?_
                          refine lv_goto (tgt := 276) hx hb dX6_plan_262 (by decide) ?_
                          refine lv_istore (lv' := [(5, .int (nI 0)), (8, .int (nI 1)), (7, .int (nI (lfr pl9 p9 (nb - f9) f9))), (6, .int (nI 0)), (4, .int (nI p9)), (0, .ref (ad 36)), (1, .int (nI nv)), (2, .int (nI lv)), (3, .int (nI hv))]) hx hb dX6_plan_276 hl (by decide) rfl (fun ls hl => ?_)
                          refine lv_iload hx hb dX6_plan_278 (lv_at hl 4 rfl) ?_
                          refine lv_iload hx hb dX6_plan_280 (lv_at hl 1 rfl) ?_
                          refine lv_if_eq (tgt := 289) hx hb dX6_plan_282 (by decide) (fun c282 => absurd c282 (by decide)) (fun c282 => ?_)
                          refine lv_iconst (v := nI 1) hx hb dX6_plan_285 (by decide) ?_
                          refine lv_goto (tgt := 290) hx hb dX6_plan_286 (by decide) ?_
                          refine ni_iadd hx hb dX6_plan_290 ?_
                          refine lv_istore (lv' := [(4, .int (nI (p9 + 1))), (5, .int (nI 0)), (8, .int (nI 1)), (7, .int (nI (lfr pl9 p9 (nb - f9) f9))), (6, .int (nI 0)), (0, .ref (ad 36)), (1, .int (nI nv)), (2, .int (nI lv)), (3, .int (nI hv))]) hx hb dX6_plan_291 hl (by decide) rfl (fun ls hl => ?_)
                          refine lv_goto (tgt := 73) hx hb dX6_plan_293 (by decide) ?_
                          rw [show nI (p9 + 1) = nI (p9 + 2) - nI 1 from (ni_pred (p9 + 1)).symm] at hl
                          have hG := hQ
                          rw [if_pos (Or.inr c236), if_pos hlast] at hG
                          exact hG (by omega) (by omega) (by omega) (fun j hj => by by_cases q : j = p9; rw [q, va_up_self]; omega; rw [va_up_ne _ _ q]; exact hpb j (by omega)) _ _ _ _ hH f36 f37 f38 f39 f40 f41 f42 f43 f44 f45 f46 f47 fr (lv_sub hl [1, 0, 5, 6, 7, 8] rfl)
                  · refine lv_bipush (v := (-5)) hx hb dX6_plan_186 (by decide) ?_
                    refine RET _ _ _ _ _ _ dX6_plan_188 rfl ?_ hH
                    obtain ⟨hz1, hz2⟩ := q2 (by rw [hbx]; exact hbl) (by omega) (by omega)
                    refine postM (C' := ((nm, fa, fb, mc, rd), nr, ar, (nb, num, 0, nv, o.2.2, t9))) (by unfold storeOp sp_plan; rw [if_pos (show rng (nI nv) 1 6 ∧ rng (nI lv) 0 10000 ∧ rng (nI hv) (tN (nI lv)) 10000 from ⟨(rng_iff (by omega)).mpr (by omega), (rng_iff (by omega)).mpr (by omega), by rw [tN_nI (by omega)]; exact (rng_iff (by omega)).mpr (by omega)⟩), tN_nI (by omega), tN_nI (by omega), tN_nI (by omega)]; rw [if_pos (by show nb % nv = 0; exact c51)]; rw [← hO, if_neg (by omega), if_pos hz1, ← hz2]) ⟨_, _, _, _, _, _, _, _, _, _, _, _, f36, f37, f38, f39, f40, f41, f42, f43, f44, f45, f46, f47, hrL, hrR, ⟨hnn, fun h => absurd h (Nat.lt_irrefl 0), fun j h => absurd h (by rw [Nat.zero_mul]; exact Nat.not_lt_zero _)⟩, hlok, hrok, ⟨k1, k2, fun h => absurd h (Nat.lt_irrefl 0), by show 0 * _ ≤ 12; omega, fun j h => absurd h (by rw [Nat.zero_mul]; exact Nat.not_lt_zero _), ht9, Nat.zero_le _⟩, nv2⟩ fr
                · have hbx : bnx nb nv pl9 p9 f9 = nb := hbx.trans c143
                  refine lv_iinc (v := nI p9 - nI 1) (lv' := [(4, .int (nI p9 - nI 1)), (7, .int (nI (lfr pl9 p9 (nb - f9) f9))), (6, .int (nI 0)), (5, .int (nI f9)), (0, .ref (ad 36)), (1, .int (nI nv)), (2, .int (nI lv)), (3, .int (nI hv))]) hx hb dX6_plan_146 hl (k := 3) rfl (ni_decr _) (by decide) rfl (fun ls hl => ?_)
                  refine lv_iload hx hb dX6_plan_149 (lv_at hl 0 rfl) ?_
                  refine lv_if_lt (tgt := 166) hx hb dX6_plan_151 (by decide) (fun c151 => ?_) (fun c151 => ?_)
                  · have c151 : p9 = 0 := (m1_neg (by omega)).mp c151
                    refine lv_iconst (v := nI 0) hx hb dX6_plan_166 (by decide) ?_
                    refine lv_istore (lv' := [(5, .int (nI 0)), (4, .int (nI p9 - nI 1)), (7, .int (nI (lfr pl9 p9 (nb - f9) f9))), (6, .int (nI 0)), (0, .ref (ad 36)), (1, .int (nI nv)), (2, .int (nI lv)), (3, .int (nI hv))]) hx hb dX6_plan_167 hl (by decide) rfl (fun ls hl => ?_)
                    refine lv_goto (tgt := 293) hx hb dX6_plan_169 (by decide) ?_
                    refine lv_goto (tgt := 73) hx hb dX6_plan_293 (by decide) ?_
                    have hG := q1 hbx
                    rw [if_pos c151] at hG
                    exact hG (by omega) (by omega) (by omega) (fun j hj => hpb j (by omega)) _ _ _ _ hH f36 f37 f38 f39 f40 f41 f42 f43 f44 f45 f46 f47 fr (lv_sub hl [0, 1, 4, 5, 6, 7] rfl)
                  · have hp0 : ¬ p9 = 0 := fun z => c151 ((m1_neg (by omega)).mpr z)
                    rw [pk_sub (show 1 ≤ p9 by omega)] at hl
                    refine lv_aload_n hx hb dX6_plan_154 rfl (lv_at hl 4 rfl) ?_
                    refine rp_get C0 FX hH 36 (by decide) (ci := 6) (k := 16) f36 rfl kiX6 (by decide) kf47 rfl dX6_plan_155 ?_
                    refine lv_iload hx hb dX6_plan_158 (lv_at hl 0 rfl) ?_
                    refine rp_iald C0 FX hH 47 (by decide) (v := pl9 (p9 - 1)) f47 (p9 - 1) (by omega) (by decide) rfl dX6_plan_160 ?_
                    refine lv_iconst (v := nI 1) hx hb dX6_plan_161 (by decide) ?_
                    refine ni_iadd hx hb dX6_plan_162 ?_
                    refine lv_goto (tgt := 167) hx hb dX6_plan_163 (by decide) ?_
                    refine lv_istore (lv' := [(5, .int (nI ((pl9 (p9 - 1)) + 1))), (4, .int (nI (p9 - 1))), (7, .int (nI (lfr pl9 p9 (nb - f9) f9))), (6, .int (nI 0)), (0, .ref (ad 36)), (1, .int (nI nv)), (2, .int (nI lv)), (3, .int (nI hv))]) hx hb dX6_plan_167 hl (by decide) rfl (fun ls hl => ?_)
                    refine lv_goto (tgt := 293) hx hb dX6_plan_169 (by decide) ?_
                    refine lv_goto (tgt := 73) hx hb dX6_plan_293 (by decide) ?_
                    rw [← pk_sub (show 1 ≤ p9 by omega)] at hl
                    have hG := q1 hbx
                    rw [if_neg (show ¬ p9 = 0 by omega)] at hG
                    exact hG (by omega) (by have := hpb (p9 - 1) (by omega); omega) (by omega) (fun j hj => hpb j (by omega)) _ _ _ _ hH f36 f37 f38 f39 f40 f41 f42 f43 f44 f45 f46 f47 fr (lv_sub hl [0, 1, 4, 5, 6, 7] rfl)
              · refine lv_iconst (v := nI 1) hx hb dX6_plan_94 (by decide) ?_
                refine lv_goto (tgt := 99) hx hb dX6_plan_95 (by decide) ?_
                refine lv_istore (lv' := [(6, .int (nI 1)), (5, .int (nI f9)), (4, .int (nI p9)), (0, .ref (ad 36)), (1, .int (nI nv)), (2, .int (nI lv)), (3, .int (nI hv))]) hx hb dX6_plan_99 hl (by decide) rfl (fun ls hl => ?_)
                refine lv_iload hx hb dX6_plan_101 (lv_at hl 0 rfl) ?_
                refine lv_if_eq (tgt := 118) hx hb dX6_plan_103 (by decide) (fun c103 => absurd c103 (by decide)) (fun c103 => ?_)
                refine lv_iload hx hb dX6_plan_106 (lv_at hl 1 rfl) ?_
                refine ni_le0 hx hb 118 dX6_plan_108 (by decide) (by omega) (fun c108 => ?_) (fun c108 => ?_)
                · refine lv_aload_n hx hb dX6_plan_118 rfl (lv_at hl 3 rfl) ?_
                  refine lv_iload hx hb dX6_plan_119 (lv_at hl 0 rfl) ?_
                  refine lv_if_eq (tgt := 128) hx hb dX6_plan_121 (by decide) (fun c121 => absurd c121 (by decide)) (fun c121 => ?_)
                  refine lv_iconst (v := nI 0) hx hb dX6_plan_124 (by decide) ?_
                  refine lv_goto (tgt := 130) hx hb dX6_plan_125 (by decide) ?_
                  refine lv_iload hx hb dX6_plan_130 (lv_at hl 2 rfl) ?_
                  refine rc_Vi (rest := []) C0 FX hH 36 (by decide) f36 rfl (k_X6_nextBale l X ad hi _ fa fb nm nb 0 nv t9 pl9 f36 f47 0 p9 (by omega) k1 (by omega) (fun j hj => by have := hpb j (by omega); omega)) (cwV 2 C0.2.2.2.2 gX6_plan_X6_nextBale rfl rfl rfl (by decide +kernel) ⟨Nat.le_of_ble_eq_true rfl, Nat.le_of_ble_eq_true rfl⟩) rfl rfl hl.1 (Nat.le_of_ble_eq_true rfl) dX6_plan_132 ⟨Nat.le_of_ble_eq_true rfl, Nat.le_of_ble_eq_true rfl⟩ (fun r132 g132c H locs h132 hH => ?_)
                  obtain ⟨e132, rfl⟩ := h132
                  rw [e132] at hH
                  refine lv_istore (lv' := [(7, .int (nI (lfr pl9 p9 (nb - 0) 0))), (6, .int (nI 1)), (5, .int (nI f9)), (4, .int (nI p9)), (0, .ref (ad 36)), (1, .int (nI nv)), (2, .int (nI lv)), (3, .int (nI hv))]) hx hb dX6_plan_135 hl (by decide) rfl (fun ls hl => ?_)
                  have hbx : bnx nb nv pl9 p9 f9 = lfr pl9 p9 (nb - 0) 0 := by unfold bnx; rw [if_neg (fun z => absurd z.2 (by omega)), if_pos c91]
                  have hble := lfr_le pl9 p9 (nb - 0) 0
                  refine lv_iload hx hb dX6_plan_137 (lv_at hl 0 rfl) ?_
                  refine lv_aload_n hx hb dX6_plan_139 rfl (lv_at hl 4 rfl) ?_
                  refine rp_get C0 FX hH 36 (by decide) (ci := 6) (k := 12) f36 rfl kiX6 (by decide) kf149 rfl dX6_plan_140 ?_
                  refine ni_cne hx hb 172 dX6_plan_143 (by decide) (by omega) (by omega) (fun c143 => ?_) (fun c143 => ?_)
                  · have hbl : lfr pl9 p9 (nb - 0) 0 < nb := by omega
                    refine lv_iload hx hb dX6_plan_172 (lv_at hl 1 rfl) ?_
                    refine lv_if_ne (tgt := 189) hx hb dX6_plan_174 (by decide) (fun c174 => ?_) (fun c174 => absurd c174 (by decide))
                    refine lv_aload_n hx hb dX6_plan_189 rfl (lv_at hl 4 rfl) ?_
                    refine lv_dup hx hb dX6_plan_190 rfl ?_
                    refine rp_get C0 FX hH 36 (by decide) (ci := 6) (k := 17) f36 rfl kiX6 (by decide) kf157 rfl dX6_plan_191 ?_
                    refine lv_iload hx hb dX6_plan_194 (lv_at hl 1 rfl) ?_
                    refine lv_if_eq (tgt := 203) hx hb dX6_plan_196 (by decide) (fun c196 => absurd c196 (by decide)) (fun c196 => ?_)
                    refine lv_iconst (v := nI 0) hx hb dX6_plan_199 (by decide) ?_
                    refine lv_goto (tgt := 204) hx hb dX6_plan_200 (by decide) ?_
                    refine ni_iadd hx hb dX6_plan_204 ?_
                    refine rp_put C0 FX hH 36 (by decide) (ci := 6) (k := 17) tyX6 tyX6_ok nmX6 f36 rfl kiX6 (by decide) kf157 rfl rfl rfl (Nat.le_of_ble_eq_true rfl) dX6_plan_205 (fun g11 H locs eq12 nq12 hH => ?_)
                    have f36 : g11 36 = .inr (6, [.int (nI fa), .int (nI fb), .int (nI nm), .ref (ad 37), .ref (ad 38), .ref (ad 39), .ref (ad 40), .ref (ad 41), .ref (ad 42), .ref (ad 43), .ref (ad 44), .ref (ad 45), .int (nI nb), .ref (ad 46), .int (nI 0), .int (nI nv), .ref (ad 47), .int (nI (t9 + 0))]) := eq12
                    have f37 : g11 37 = arr X 6 md := (nq12 _ (by omega)).trans f37
                    have f38 : g11 38 = arr X 6 ma := (nq12 _ (by omega)).trans f38
                    have f39 : g11 39 = arr X 6 mb := (nq12 _ (by omega)).trans f39
                    have f40 : g11 40 = arr X 6 ml := (nq12 _ (by omega)).trans f40
                    have f41 : g11 41 = arr X 6 mr := (nq12 _ (by omega)).trans f41
                    have f42 : g11 42 = arr X 18 mo := (nq12 _ (by omega)).trans f42
                    have f43 : g11 43 = arr X 8 cn := (nq12 _ (by omega)).trans f43
                    have f44 : g11 44 = arr X 3200 ms := (nq12 _ (by omega)).trans f44
                    have f45 : g11 45 = arr X 400 fs := (nq12 _ (by omega)).trans f45
                    have f46 : g11 46 = arr X 12 nn := (nq12 _ (by omega)).trans f46
                    have f47 : g11 47 = arr X 12 pl9 := (nq12 _ (by omega)).trans f47
                    have fr : ∀ j, (j < 36) → g11 j = g j := fun j a0 => (nq12 j (by omega)).trans (fr j a0)
                    have hQ := q3 (by rw [hbx]; exact hbl) (Or.inl c91)
                    rw [hbx, if_pos c91] at hQ
                    refine lv_aload_n hx hb dX6_plan_208 rfl (lv_at hl 4 rfl) ?_
                    refine rp_get C0 FX hH 36 (by decide) (ci := 6) (k := 16) f36 rfl kiX6 (by decide) kf47 rfl dX6_plan_209 ?_
                    refine lv_iload hx hb dX6_plan_212 (lv_at hl 3 rfl) ?_
                    refine lv_iload hx hb dX6_plan_214 (lv_at hl 0 rfl) ?_
                    refine rp_iast C0 FX hH 47 (by decide) f47 p9 (lfr pl9 p9 (nb - 0) 0) (by omega) (by decide) dX6_plan_216 (fun g13 H locs eq14 nq14 hH => ?_)
                    have f47 : g13 47 = arr X 12 (va_up pl9 p9 (lfr pl9 p9 (nb - 0) 0)) := eq14
                    have f36 : g13 36 = .inr (6, [.int (nI fa), .int (nI fb), .int (nI nm), .ref (ad 37), .ref (ad 38), .ref (ad 39), .ref (ad 40), .ref (ad 41), .ref (ad 42), .ref (ad 43), .ref (ad 44), .ref (ad 45), .int (nI nb), .ref (ad 46), .int (nI 0), .int (nI nv), .ref (ad 47), .int (nI (t9 + 0))]) := (nq14 _ (by omega)).trans f36
                    have f37 : g13 37 = arr X 6 md := (nq14 _ (by omega)).trans f37
                    have f38 : g13 38 = arr X 6 ma := (nq14 _ (by omega)).trans f38
                    have f39 : g13 39 = arr X 6 mb := (nq14 _ (by omega)).trans f39
                    have f40 : g13 40 = arr X 6 ml := (nq14 _ (by omega)).trans f40
                    have f41 : g13 41 = arr X 6 mr := (nq14 _ (by omega)).trans f41
                    have f42 : g13 42 = arr X 18 mo := (nq14 _ (by omega)).trans f42
                    have f43 : g13 43 = arr X 8 cn := (nq14 _ (by omega)).trans f43
                    have f44 : g13 44 = arr X 3200 ms := (nq14 _ (by omega)).trans f44
                    have f45 : g13 45 = arr X 400 fs := (nq14 _ (by omega)).trans f45
                    have f46 : g13 46 = arr X 12 nn := (nq14 _ (by omega)).trans f46
                    have fr : ∀ j, (j < 36) → g13 j = g j := fun j a0 => (nq14 j (by omega)).trans (fr j a0)
                    refine lv_iload hx hb dX6_plan_217 (lv_at hl 3 rfl) ?_
                    refine lv_iload_n hx hb dX6_plan_219 rfl (lv_at hl 5 rfl) ?_
                    refine ni_irem hx hb (by omega) (by omega) (by omega) dX6_plan_220 ?_
                    refine lv_iload_n hx hb dX6_plan_221 rfl (lv_at hl 5 rfl) ?_
                    refine lv_iconst (v := nI 1) hx hb dX6_plan_222 (by decide) ?_
                    refine ni_isub hx hb (by omega) dX6_plan_223 ?_
                    refine ni_clt hx hb 239 dX6_plan_224 (by decide) (by omega) (by omega) (fun c224 => ?_) (fun c224 => ?_)
                    · have hlast : ¬ p9 % nv = nv - 1 := by omega
                      refine lv_iconst (v := nI 1) hx hb dX6_plan_239 (by decide) ?_
                      refine lv_goto (tgt := 244) hx hb dX6_plan_240 (by decide) ?_
                      refine lv_istore (lv' := [(8, .int (nI 1)), (7, .int (nI (lfr pl9 p9 (nb - 0) 0))), (6, .int (nI 1)), (5, .int (nI f9)), (4, .int (nI p9)), (0, .ref (ad 36)), (1, .int (nI nv)), (2, .int (nI lv)), (3, .int (nI hv))]) hx hb dX6_plan_244 hl (by decide) rfl (fun ls hl => ?_)
                      refine lv_iload hx hb dX6_plan_246 (lv_at hl 0 rfl) ?_
                      refine lv_if_eq (tgt := 272) hx hb dX6_plan_248 (by decide) (fun c248 => absurd c248 (by decide)) (fun c248 => ?_)
                      refine lv_iload hx hb dX6_plan_251 (lv_at hl 4 rfl) ?_
                      refine lv_iload_n hx hb dX6_plan_253 rfl (lv_at hl 6 rfl) ?_
                      refine ni_irem hx hb (by omega) (by omega) (by omega) dX6_plan_254 ?_
                      refine lv_iload_n hx hb dX6_plan_255 rfl (lv_at hl 6 rfl) ?_
                      refine lv_iconst (v := nI 1) hx hb dX6_plan_256 (by decide) ?_
                      refine ni_isub hx hb (by omega) dX6_plan_257 ?_
                      refine ni_cne hx hb 265 dX6_plan_258 (by decide) (by omega) (by omega) (fun c258 => ?_) (fun c258 => ?_)
                      · refine lv_iload hx hb dX6_plan_265 (lv_at hl 1 rfl) ?_
                        refine lv_iconst (v := nI 1) hx hb dX6_plan_267 (by decide) ?_
                        refine ni_iadd hx hb dX6_plan_268 ?_
                        refine lv_goto (tgt := 276) hx hb dX6_plan_269 (by decide) ?_
                        refine lv_istore (lv' := [(5, .int (nI ((lfr pl9 p9 (nb - 0) 0) + 1))), (8, .int (nI 1)), (7, .int (nI (lfr pl9 p9 (nb - 0) 0))), (6, .int (nI 1)), (4, .int (nI p9)), (0, .ref (ad 36)), (1, .int (nI nv)), (2, .int (nI lv)), (3, .int (nI hv))]) hx hb dX6_plan_276 hl (by decide) rfl (fun ls hl => ?_)
                        refine lv_iload hx hb dX6_plan_278 (lv_at hl 4 rfl) ?_
                        refine lv_iload hx hb dX6_plan_280 (lv_at hl 1 rfl) ?_
                        refine lv_if_eq (tgt := 289) hx hb dX6_plan_282 (by decide) (fun c282 => absurd c282 (by decide)) (fun c282 => ?_)
                        refine lv_iconst (v := nI 1) hx hb dX6_plan_285 (by decide) ?_
                        refine lv_goto (tgt := 290) hx hb dX6_plan_286 (by decide) ?_
                        refine ni_iadd hx hb dX6_plan_290 ?_
                        refine lv_istore (lv' := [(4, .int (nI (p9 + 1))), (5, .int (nI ((lfr pl9 p9 (nb - 0) 0) + 1))), (8, .int (nI 1)), (7, .int (nI (lfr pl9 p9 (nb - 0) 0))), (6, .int (nI 1)), (0, .ref (ad 36)), (1, .int (nI nv)), (2, .int (nI lv)), (3, .int (nI hv))]) hx hb dX6_plan_291 hl (by decide) rfl (fun ls hl => ?_)
                        refine lv_goto (tgt := 73) hx hb dX6_plan_293 (by decide) ?_
                        rw [show nI (p9 + 1) = nI (p9 + 2) - nI 1 from (ni_pred (p9 + 1)).symm] at hl
                        have hG := hQ
                        rw [if_pos (Or.inl c224), if_neg hlast] at hG
                        exact hG (by omega) (by omega) (by omega) (fun j hj => by by_cases q : j = p9; rw [q, va_up_self]; omega; rw [va_up_ne _ _ q]; exact hpb j (by omega)) _ _ _ _ hH f36 f37 f38 f39 f40 f41 f42 f43 f44 f45 f46 f47 fr (lv_sub hl [1, 0, 5, 6, 7, 8] rfl)
                      · exact absurd c258 hlast
                    · have hlast : p9 % nv = nv - 1 := by omega
                      refine lv_aload_n hx hb dX6_plan_227 rfl (lv_at hl 4 rfl) ?_
                      refine lv_iload hx hb dX6_plan_228 (lv_at hl 3 rfl) ?_
                      refine lv_iload_n hx hb dX6_plan_230 rfl (lv_at hl 5 rfl) ?_
                      refine lv_iload_n hx hb dX6_plan_231 rfl (lv_at hl 6 rfl) ?_
                      refine lv_iload_n hx hb dX6_plan_232 rfl (lv_at hl 7 rfl) ?_
                      refine rc_Vi (rest := []) C0 FX hH 36 (by decide) f36 rfl (k_X6_isWhole l X ad hi _ fa fb nm nb 0 nv (t9 + 0) nn (va_up pl9 p9 (lfr pl9 p9 (nb - 0) 0)) num f36 f47 f46 hnn k2 p9 nv lv hv k1 (by omega) nv2 (by omega) lv2 hv2 (fun j hj => by by_cases q : j = p9; rw [q, va_up_self]; omega; rw [va_up_ne _ _ q]; exact hpb j (by omega))) (cwV 4 C0.2.2.2.2 gX6_plan_X6_isWhole rfl rfl rfl (by decide +kernel) ⟨Nat.le_of_ble_eq_true rfl, Nat.le_of_ble_eq_true rfl⟩) rfl rfl hl.1 (Nat.le_of_ble_eq_true rfl) dX6_plan_233 ⟨Nat.le_of_ble_eq_true rfl, Nat.le_of_ble_eq_true rfl⟩ (fun r233 g233c H locs h233 hH => ?_)
                      obtain ⟨e233, rfl⟩ := h233
                      rw [e233] at hH
                      refine rb_eq hx hb 243 dX6_plan_236 (by decide) (fun c236 => ?_) (fun c236 => ?_)
                      · refine lv_iconst (v := nI 0) hx hb dX6_plan_243 (by decide) ?_
                        refine lv_istore (lv' := [(8, .int (nI 0)), (7, .int (nI (lfr pl9 p9 (nb - 0) 0))), (6, .int (nI 1)), (5, .int (nI f9)), (4, .int (nI p9)), (0, .ref (ad 36)), (1, .int (nI nv)), (2, .int (nI lv)), (3, .int (nI hv))]) hx hb dX6_plan_244 hl (by decide) rfl (fun ls hl => ?_)
                        refine lv_iload hx hb dX6_plan_246 (lv_at hl 0 rfl) ?_
                        refine lv_if_eq (tgt := 272) hx hb dX6_plan_248 (by decide) (fun c248 => ?_) (fun c248 => absurd (by decide) c248)
                        refine lv_iload hx hb dX6_plan_272 (lv_at hl 1 rfl) ?_
                        refine lv_iconst (v := nI 1) hx hb dX6_plan_274 (by decide) ?_
                        refine ni_iadd hx hb dX6_plan_275 ?_
                        refine lv_istore (lv' := [(5, .int (nI ((lfr pl9 p9 (nb - 0) 0) + 1))), (8, .int (nI 0)), (7, .int (nI (lfr pl9 p9 (nb - 0) 0))), (6, .int (nI 1)), (4, .int (nI p9)), (0, .ref (ad 36)), (1, .int (nI nv)), (2, .int (nI lv)), (3, .int (nI hv))]) hx hb dX6_plan_276 hl (by decide) rfl (fun ls hl => ?_)
                        refine lv_iload hx hb dX6_plan_278 (lv_at hl 4 rfl) ?_
                        refine lv_iload hx hb dX6_plan_280 (lv_at hl 1 rfl) ?_
                        refine lv_if_eq (tgt := 289) hx hb dX6_plan_282 (by decide) (fun c282 => ?_) (fun c282 => absurd (by decide) c282)
                        refine lv_iconst (v := nI 0) hx hb dX6_plan_289 (by decide) ?_
                        refine ni_iadd hx hb dX6_plan_290 ?_
                        refine lv_istore (lv' := [(4, .int (nI (p9 + 0))), (5, .int (nI ((lfr pl9 p9 (nb - 0) 0) + 1))), (8, .int (nI 0)), (7, .int (nI (lfr pl9 p9 (nb - 0) 0))), (6, .int (nI 1)), (0, .ref (ad 36)), (1, .int (nI nv)), (2, .int (nI lv)), (3, .int (nI hv))]) hx hb dX6_plan_291 hl (by decide) rfl (fun ls hl => ?_)
                        refine lv_goto (tgt := 73) hx hb dX6_plan_293 (by decide) ?_
                        rw [show nI (p9 + 0) = nI (p9 + 1) - nI 1 from (ni_pred p9).symm] at hl
                        have hG := hQ
                        rw [if_neg (fun z => z.elim (fun z => absurd z (by omega)) c236)] at hG
                        exact hG (by omega) (by omega) (by omega) (fun j hj => by rw [va_up_ne _ _ (by omega)]; exact hpb j (by omega)) _ _ _ _ hH f36 f37 f38 f39 f40 f41 f42 f43 f44 f45 f46 f47 fr (lv_sub hl [1, 0, 5, 6, 7, 8] rfl)
                      · refine lv_iconst (v := nI 1) hx hb dX6_plan_239 (by decide) ?_
                        refine lv_goto (tgt := 244) hx hb dX6_plan_240 (by decide) ?_
                        refine lv_istore (lv' := [(8, .int (nI 1)), (7, .int (nI (lfr pl9 p9 (nb - 0) 0))), (6, .int (nI 1)), (5, .int (nI f9)), (4, .int (nI p9)), (0, .ref (ad 36)), (1, .int (nI nv)), (2, .int (nI lv)), (3, .int (nI hv))]) hx hb dX6_plan_244 hl (by decide) rfl (fun ls hl => ?_)
                        refine lv_iload hx hb dX6_plan_246 (lv_at hl 0 rfl) ?_
                        refine lv_if_eq (tgt := 272) hx hb dX6_plan_248 (by decide) (fun c248 => absurd c248 (by decide)) (fun c248 => ?_)
                        refine lv_iload hx hb dX6_plan_251 (lv_at hl 4 rfl) ?_
                        refine lv_iload_n hx hb dX6_plan_253 rfl (lv_at hl 6 rfl) ?_
                        refine ni_irem hx hb (by omega) (by omega) (by omega) dX6_plan_254 ?_
                        refine lv_iload_n hx hb dX6_plan_255 rfl (lv_at hl 6 rfl) ?_
                        refine lv_iconst (v := nI 1) hx hb dX6_plan_256 (by decide) ?_
                        refine ni_isub hx hb (by omega) dX6_plan_257 ?_
                        refine ni_cne hx hb 265 dX6_plan_258 (by decide) (by omega) (by omega) (fun c258 => ?_) (fun c258 => ?_)
                        · exact absurd hlast c258
                        · refine lv_iconst (v := nI 0) hx hb dX6_plan_261 (by decide) ?_
                          refine lv_goto (tgt := 276) hx hb dX6_plan_262 (by decide) ?_
                          refine lv_istore (lv' := [(5, .int (nI 0)), (8, .int (nI 1)), (7, .int (nI (lfr pl9 p9 (nb - 0) 0))), (6, .int (nI 1)), (4, .int (nI p9)), (0, .ref (ad 36)), (1, .int (nI nv)), (2, .int (nI lv)), (3, .int (nI hv))]) hx hb dX6_plan_276 hl (by decide) rfl (fun ls hl => ?_)
                          refine lv_iload hx hb dX6_plan_278 (lv_at hl 4 rfl) ?_
                          refine lv_iload hx hb dX6_plan_280 (lv_at hl 1 rfl) ?_
                          refine lv_if_eq (tgt := 289) hx hb dX6_plan_282 (by decide) (fun c282 => absurd c282 (by decide)) (fun c282 => ?_)
                          refine lv_iconst (v := nI 1) hx hb dX6_plan_285 (by decide) ?_
                          refine lv_goto (tgt := 290) hx hb dX6_plan_286 (by decide) ?_
                          refine ni_iadd hx hb dX6_plan_290 ?_
                          refine lv_istore (lv' := [(4, .int (nI (p9 + 1))), (5, .int (nI 0)), (8, .int (nI 1)), (7, .int (nI (lfr pl9 p9 (nb - 0) 0))), (6, .int (nI 1)), (0, .ref (ad 36)), (1, .int (nI nv)), (2, .int (nI lv)), (3, .int (nI hv))]) hx hb dX6_plan_291 hl (by decide) rfl (fun ls hl => ?_)
                          refine lv_goto (tgt := 73) hx hb dX6_plan_293 (by decide) ?_
                          rw [show nI (p9 + 1) = nI (p9 + 2) - nI 1 from (ni_pred (p9 + 1)).symm] at hl
                          have hG := hQ
                          rw [if_pos (Or.inr c236), if_pos hlast] at hG
                          exact hG (by omega) (by omega) (by omega) (fun j hj => by by_cases q : j = p9; rw [q, va_up_self]; omega; rw [va_up_ne _ _ q]; exact hpb j (by omega)) _ _ _ _ hH f36 f37 f38 f39 f40 f41 f42 f43 f44 f45 f46 f47 fr (lv_sub hl [1, 0, 5, 6, 7, 8] rfl)
                  · have hbx : bnx nb nv pl9 p9 f9 = nb := hbx.trans c143
                    refine lv_iinc (v := nI p9 - nI 1) (lv' := [(4, .int (nI p9 - nI 1)), (7, .int (nI (lfr pl9 p9 (nb - 0) 0))), (6, .int (nI 1)), (5, .int (nI f9)), (0, .ref (ad 36)), (1, .int (nI nv)), (2, .int (nI lv)), (3, .int (nI hv))]) hx hb dX6_plan_146 hl (k := 3) rfl (ni_decr _) (by decide) rfl (fun ls hl => ?_)
                    refine lv_iload hx hb dX6_plan_149 (lv_at hl 0 rfl) ?_
                    refine lv_if_lt (tgt := 166) hx hb dX6_plan_151 (by decide) (fun c151 => ?_) (fun c151 => ?_)
                    · have c151 : p9 = 0 := (m1_neg (by omega)).mp c151
                      refine lv_iconst (v := nI 0) hx hb dX6_plan_166 (by decide) ?_
                      refine lv_istore (lv' := [(5, .int (nI 0)), (4, .int (nI p9 - nI 1)), (7, .int (nI (lfr pl9 p9 (nb - 0) 0))), (6, .int (nI 1)), (0, .ref (ad 36)), (1, .int (nI nv)), (2, .int (nI lv)), (3, .int (nI hv))]) hx hb dX6_plan_167 hl (by decide) rfl (fun ls hl => ?_)
                      refine lv_goto (tgt := 293) hx hb dX6_plan_169 (by decide) ?_
                      refine lv_goto (tgt := 73) hx hb dX6_plan_293 (by decide) ?_
                      have hG := q1 hbx
                      rw [if_pos c151] at hG
                      exact hG (by omega) (by omega) (by omega) (fun j hj => hpb j (by omega)) _ _ _ _ hH f36 f37 f38 f39 f40 f41 f42 f43 f44 f45 f46 f47 fr (lv_sub hl [0, 1, 4, 5, 6, 7] rfl)
                    · have hp0 : ¬ p9 = 0 := fun z => c151 ((m1_neg (by omega)).mpr z)
                      rw [pk_sub (show 1 ≤ p9 by omega)] at hl
                      refine lv_aload_n hx hb dX6_plan_154 rfl (lv_at hl 4 rfl) ?_
                      refine rp_get C0 FX hH 36 (by decide) (ci := 6) (k := 16) f36 rfl kiX6 (by decide) kf47 rfl dX6_plan_155 ?_
                      refine lv_iload hx hb dX6_plan_158 (lv_at hl 0 rfl) ?_
                      refine rp_iald C0 FX hH 47 (by decide) (v := pl9 (p9 - 1)) f47 (p9 - 1) (by omega) (by decide) rfl dX6_plan_160 ?_
                      refine lv_iconst (v := nI 1) hx hb dX6_plan_161 (by decide) ?_
                      refine ni_iadd hx hb dX6_plan_162 ?_
                      refine lv_goto (tgt := 167) hx hb dX6_plan_163 (by decide) ?_
                      refine lv_istore (lv' := [(5, .int (nI ((pl9 (p9 - 1)) + 1))), (4, .int (nI (p9 - 1))), (7, .int (nI (lfr pl9 p9 (nb - 0) 0))), (6, .int (nI 1)), (0, .ref (ad 36)), (1, .int (nI nv)), (2, .int (nI lv)), (3, .int (nI hv))]) hx hb dX6_plan_167 hl (by decide) rfl (fun ls hl => ?_)
                      refine lv_goto (tgt := 293) hx hb dX6_plan_169 (by decide) ?_
                      refine lv_goto (tgt := 73) hx hb dX6_plan_293 (by decide) ?_
                      rw [← pk_sub (show 1 ≤ p9 by omega)] at hl
                      have hG := q1 hbx
                      rw [if_neg (show ¬ p9 = 0 by omega)] at hG
                      exact hG (by omega) (by have := hpb (p9 - 1) (by omega); omega) (by omega) (fun j hj => hpb j (by omega)) _ _ _ _ hH f36 f37 f38 f39 f40 f41 f42 f43 f44 f45 f46 f47 fr (lv_sub hl [0, 1, 4, 5, 6, 7] rfl)
                · refine lv_aload_n hx hb dX6_plan_111 rfl (lv_at hl 3 rfl) ?_
                  refine rp_get C0 FX hH 36 (by decide) (ci := 6) (k := 12) f36 rfl kiX6 (by decide) kf149 rfl dX6_plan_112 ?_
                  refine lv_goto (tgt := 135) hx hb dX6_plan_115 (by decide) ?_
                  refine lv_istore (lv' := [(7, .int (nI nb)), (6, .int (nI 1)), (5, .int (nI f9)), (4, .int (nI p9)), (0, .ref (ad 36)), (1, .int (nI nv)), (2, .int (nI lv)), (3, .int (nI hv))]) hx hb dX6_plan_135 hl (by decide) rfl (fun ls hl => ?_)
                  have hbx : bnx nb nv pl9 p9 f9 = nb := by unfold bnx; rw [if_pos ⟨c91, c108⟩]
                  have hble := Nat.le_refl nb
                  refine lv_iload hx hb dX6_plan_137 (lv_at hl 0 rfl) ?_
                  refine lv_aload_n hx hb dX6_plan_139 rfl (lv_at hl 4 rfl) ?_
                  refine rp_get C0 FX hH 36 (by decide) (ci := 6) (k := 12) f36 rfl kiX6 (by decide) kf149 rfl dX6_plan_140 ?_
                  refine ni_cne hx hb 172 dX6_plan_143 (by decide) (by omega) (by omega) (fun c143 => ?_) (fun c143 => ?_)
                  · exact absurd rfl c143
                  · have hbx : bnx nb nv pl9 p9 f9 = nb := hbx.trans c143
                    refine lv_iinc (v := nI p9 - nI 1) (lv' := [(4, .int (nI p9 - nI 1)), (7, .int (nI nb)), (6, .int (nI 1)), (5, .int (nI f9)), (0, .ref (ad 36)), (1, .int (nI nv)), (2, .int (nI lv)), (3, .int (nI hv))]) hx hb dX6_plan_146 hl (k := 3) rfl (ni_decr _) (by decide) rfl (fun ls hl => ?_)
                    refine lv_iload hx hb dX6_plan_149 (lv_at hl 0 rfl) ?_
                    refine lv_if_lt (tgt := 166) hx hb dX6_plan_151 (by decide) (fun c151 => ?_) (fun c151 => ?_)
                    · have c151 : p9 = 0 := (m1_neg (by omega)).mp c151
                      refine lv_iconst (v := nI 0) hx hb dX6_plan_166 (by decide) ?_
                      refine lv_istore (lv' := [(5, .int (nI 0)), (4, .int (nI p9 - nI 1)), (7, .int (nI nb)), (6, .int (nI 1)), (0, .ref (ad 36)), (1, .int (nI nv)), (2, .int (nI lv)), (3, .int (nI hv))]) hx hb dX6_plan_167 hl (by decide) rfl (fun ls hl => ?_)
                      refine lv_goto (tgt := 293) hx hb dX6_plan_169 (by decide) ?_
                      refine lv_goto (tgt := 73) hx hb dX6_plan_293 (by decide) ?_
                      have hG := q1 hbx
                      rw [if_pos c151] at hG
                      exact hG (by omega) (by omega) (by omega) (fun j hj => hpb j (by omega)) _ _ _ _ hH f36 f37 f38 f39 f40 f41 f42 f43 f44 f45 f46 f47 fr (lv_sub hl [0, 1, 4, 5, 6, 7] rfl)
                    · have hp0 : ¬ p9 = 0 := fun z => c151 ((m1_neg (by omega)).mpr z)
                      rw [pk_sub (show 1 ≤ p9 by omega)] at hl
                      refine lv_aload_n hx hb dX6_plan_154 rfl (lv_at hl 4 rfl) ?_
                      refine rp_get C0 FX hH 36 (by decide) (ci := 6) (k := 16) f36 rfl kiX6 (by decide) kf47 rfl dX6_plan_155 ?_
                      refine lv_iload hx hb dX6_plan_158 (lv_at hl 0 rfl) ?_
                      refine rp_iald C0 FX hH 47 (by decide) (v := pl9 (p9 - 1)) f47 (p9 - 1) (by omega) (by decide) rfl dX6_plan_160 ?_
                      refine lv_iconst (v := nI 1) hx hb dX6_plan_161 (by decide) ?_
                      refine ni_iadd hx hb dX6_plan_162 ?_
                      refine lv_goto (tgt := 167) hx hb dX6_plan_163 (by decide) ?_
                      refine lv_istore (lv' := [(5, .int (nI ((pl9 (p9 - 1)) + 1))), (4, .int (nI (p9 - 1))), (7, .int (nI nb)), (6, .int (nI 1)), (0, .ref (ad 36)), (1, .int (nI nv)), (2, .int (nI lv)), (3, .int (nI hv))]) hx hb dX6_plan_167 hl (by decide) rfl (fun ls hl => ?_)
                      refine lv_goto (tgt := 293) hx hb dX6_plan_169 (by decide) ?_
                      refine lv_goto (tgt := 73) hx hb dX6_plan_293 (by decide) ?_
                      rw [← pk_sub (show 1 ≤ p9 by omega)] at hl
                      have hG := q1 hbx
                      rw [if_neg (show ¬ p9 = 0 by omega)] at hG
                      exact hG (by omega) (by have := hpb (p9 - 1) (by omega); omega) (by omega) (fun j hj => hpb j (by omega)) _ _ _ _ hH f36 f37 f38 f39 f40 f41 f42 f43 f44 f45 f46 f47 fr (lv_sub hl [0, 1, 4, 5, 6, 7] rfl)
          have RR : Rul nb nv num (nv * lv) (nv * hv) G (fun t9 _ => o.1 = 2 ∧ o.2.1 = t9) := ⟨fun p9 f9 t9 pl9 h1 h2 h3 => IT p9 f9 t9 pl9 h1 (fun _ => h3) (fun h => absurd h (by omega)) (fun h => absurd h (by omega)), fun p9 f9 t9 pl9 h1 h2 h3 h4 h5 => IT p9 f9 t9 pl9 h1 (fun h => absurd h (by omega)) (fun _ _ _ => h5) (fun _ h => absurd h (by omega)), fun p9 f9 t9 pl9 h1 h2 h3 h4 => IT p9 f9 t9 pl9 h1 (fun h => absurd h (by omega)) (fun _ h5 h6 => absurd h3 (by omega)) (fun _ _ => h4)⟩
          have FD : o.1 = 1 → ∀ pl9 : Nat → Nat, (∀ j, j < nb → pl9 j = o.2.2 j) → G (nb + 1) 0 o.2.1 pl9 := by
            intro hz pl9 hpl9
            rw [hGd]
            intro hk9 hf9 ht9 hpb g9 H locs ls hH f36 f37 f38 f39 f40 f41 f42 f43 f44 f45 f46 f47 fr hl
            rw [ni_pred] at hl
            refine lv_iload hx hb dX6_plan_73 (lv_at hl 1 rfl) ?_
            refine ni_lt0 hx hb dX6_plan_75 296 (by decide) (by omega) ?_
            refine lv_iload hx hb dX6_plan_78 (lv_at hl 1 rfl) ?_
            refine lv_aload_n hx hb dX6_plan_80 rfl (lv_at hl 2 rfl) ?_
            refine rp_get C0 FX hH 36 (by decide) (ci := 6) (k := 12) f36 rfl kiX6 (by decide) kf149 rfl dX6_plan_81 ?_
            refine ni_cge hx hb 296 dX6_plan_84 (by decide) (by omega) (by omega) (fun c84 => ?_) (fun c84 => ?_)
            · refine lv_iload hx hb dX6_plan_296 (lv_at hl 1 rfl) ?_
              refine ni_ge0 hx hb 303 dX6_plan_298 (by decide) (by omega) ?_
              refine lv_aload_n hx hb dX6_plan_303 rfl (lv_at hl 2 rfl) ?_
              refine lv_aload_n hx hb dX6_plan_304 rfl (lv_at hl 2 rfl) ?_
              refine rp_get C0 FX hH 36 (by decide) (ci := 6) (k := 12) f36 rfl kiX6 (by decide) kf149 rfl dX6_plan_305 ?_
              refine lv_iload_n hx hb dX6_plan_308 rfl (lv_at hl 3 rfl) ?_
              refine ni_idiv hx hb (by omega) (by omega) (by omega) dX6_plan_309 ?_
              refine rp_put C0 FX hH 36 (by decide) (ci := 6) (k := 14) tyX6 tyX6_ok nmX6 f36 rfl kiX6 (by decide) kf152 rfl rfl rfl (Nat.le_of_ble_eq_true rfl) dX6_plan_310 (fun g15 H locs eq16 nq16 hH => ?_)
              have f36 : g15 36 = .inr (6, [.int (nI fa), .int (nI fb), .int (nI nm), .ref (ad 37), .ref (ad 38), .ref (ad 39), .ref (ad 40), .ref (ad 41), .ref (ad 42), .ref (ad 43), .ref (ad 44), .ref (ad 45), .int (nI nb), .ref (ad 46), .int (nI (nb / nv)), .int (nI nv), .ref (ad 47), .int (nI (o.2.1))]) := eq16
              have f37 : g15 37 = arr X 6 md := (nq16 _ (by omega)).trans f37
              have f38 : g15 38 = arr X 6 ma := (nq16 _ (by omega)).trans f38
              have f39 : g15 39 = arr X 6 mb := (nq16 _ (by omega)).trans f39
              have f40 : g15 40 = arr X 6 ml := (nq16 _ (by omega)).trans f40
              have f41 : g15 41 = arr X 6 mr := (nq16 _ (by omega)).trans f41
              have f42 : g15 42 = arr X 18 mo := (nq16 _ (by omega)).trans f42
              have f43 : g15 43 = arr X 8 cn := (nq16 _ (by omega)).trans f43
              have f44 : g15 44 = arr X 3200 ms := (nq16 _ (by omega)).trans f44
              have f45 : g15 45 = arr X 400 fs := (nq16 _ (by omega)).trans f45
              have f46 : g15 46 = arr X 12 nn := (nq16 _ (by omega)).trans f46
              have f47 : g15 47 = arr X 12 pl9 := (nq16 _ (by omega)).trans f47
              have fr : ∀ j, (j < 36) → g15 j = g j := fun j a0 => (nq16 j (by omega)).trans (fr j a0)
              refine lv_aload_n hx hb dX6_plan_313 rfl (lv_at hl 2 rfl) ?_
              refine rp_get C0 FX hH 36 (by decide) (ci := 6) (k := 14) f36 rfl kiX6 (by decide) kf152 rfl dX6_plan_314 ?_
              refine RET _ _ _ _ _ _ dX6_plan_317 rfl ?_ hH
              have hb2 : nb / nv ≤ nb := Nat.div_le_self nb nv
              refine postM (C' := ((nm, fa, fb, mc, rd), nr, ar, (nb, num, nb / nv, nv, o.2.2, o.2.1))) (by unfold storeOp sp_plan; rw [if_pos (show rng (nI nv) 1 6 ∧ rng (nI lv) 0 10000 ∧ rng (nI hv) (tN (nI lv)) 10000 from ⟨(rng_iff (by omega)).mpr (by omega), (rng_iff (by omega)).mpr (by omega), by rw [tN_nI (by omega)]; exact (rng_iff (by omega)).mpr (by omega)⟩), tN_nI (by omega), tN_nI (by omega), tN_nI (by omega)]; rw [if_pos (by show nb % nv = 0; exact c51)]; rw [← hO, if_pos hz]) ⟨_, _, _, _, _, _, _, _, _, _, _, _, f36, f37, f38, f39, f40, f41, f42, f43, f44, f45, f46, f47, hrL, hrR, ⟨hnn, fun _ => rfl, fun j hj => hpl9 j (by have hj : j < nb / nv * nv := hj; omega)⟩, hlok, hrok, ⟨k1, k2, fun _ => ⟨nv1, nv2⟩, by show nb / nv * nv ≤ 12; omega, fun j hj => ?_, ht9, by show nb / nv ≤ 12; omega⟩, nv2⟩ fr
              have hj : j < nb / nv * nv := hj
              have := hK.2.2.2 (fun j hj => absurd hj (Nat.not_lt_zero _)) hz j (by omega)
              show o.2.2 j ≤ 12
              omega
            · exact absurd c84 (by omega)
          have ND : o.1 = 0 → ∀ pl9 : Nat → Nat, G 0 0 o.2.1 pl9 := by
            intro hz pl9
            rw [hGd]
            intro hk9 hf9 ht9 hpb g9 H locs ls hH f36 f37 f38 f39 f40 f41 f42 f43 f44 f45 f46 f47 fr hl
            have hl : lv_has ls 9 [(5, .int (nI 0)), (4, .int ((-1))), (0, .ref (ad 36)), (1, .int (nI nv)), (2, .int (nI lv)), (3, .int (nI hv))] := hl
            refine lv_iload hx hb dX6_plan_73 (lv_at hl 1 rfl) ?_
            refine lv_if_lt (tgt := 296) hx hb dX6_plan_75 (by decide) (fun c75 => ?_) (fun c75 => ?_)
            · refine lv_iload hx hb dX6_plan_296 (lv_at hl 1 rfl) ?_
              refine lv_if_ge (tgt := 303) hx hb dX6_plan_298 (by decide) (fun c298 => ?_) (fun c298 => ?_)
              · exact absurd c298 (by decide)
              · refine lv_iconst (v := (-1)) hx hb dX6_plan_301 (by decide) ?_
                refine RET _ _ _ _ _ _ dX6_plan_302 rfl ?_ hH
                refine postM (C' := ((nm, fa, fb, mc, rd), nr, ar, (nb, num, 0, nv, o.2.2, o.2.1))) (by unfold storeOp sp_plan; rw [if_pos (show rng (nI nv) 1 6 ∧ rng (nI lv) 0 10000 ∧ rng (nI hv) (tN (nI lv)) 10000 from ⟨(rng_iff (by omega)).mpr (by omega), (rng_iff (by omega)).mpr (by omega), by rw [tN_nI (by omega)]; exact (rng_iff (by omega)).mpr (by omega)⟩), tN_nI (by omega), tN_nI (by omega), tN_nI (by omega)]; rw [if_pos (by show nb % nv = 0; exact c51)]; rw [← hO, if_neg (by omega), if_neg (by omega)]) ⟨_, _, _, _, _, _, _, _, _, _, _, _, f36, f37, f38, f39, f40, f41, f42, f43, f44, f45, f46, f47, hrL, hrR, ⟨hnn, fun h => absurd h (Nat.lt_irrefl 0), fun j h => absurd h (by rw [Nat.zero_mul]; exact Nat.not_lt_zero _)⟩, hlok, hrok, ⟨k1, k2, fun h => absurd h (Nat.lt_irrefl 0), by show 0 * _ ≤ 12; omega, fun j h => absurd h (by rw [Nat.zero_mul]; exact Nat.not_lt_zero _), ht9, Nat.zero_le _⟩, nv2⟩ fr
            · exact absurd (by decide) c75
          have hfin := (sim nv1 RR (2 * nb + 1)).1 0 0 (fun _ => 0) pl (Nat.zero_mod _) ⟨nb / nv, by rw [Nat.zero_add, Nat.mul_comm]; exact hdv9⟩ (by omega) (fun j hj => absurd hj (Nat.not_lt_zero _)) (by omega) ⟨fun z pl9 hp => by show G (nb + 1) 0 (srch nv lv hv nb num).2.1 pl9; rw [← hO]; exact FD (by rw [hO]; exact z) pl9 (fun j hj => by rw [hO]; exact hp j hj), fun z pl9 => by show o.1 = 2 ∧ o.2.1 = (srch nv lv hv nb num).2.1; rw [← hO]; exact ⟨by rw [hO]; exact z, rfl⟩, fun z pl9 hp => by show G 0 0 (srch nv lv hv nb num).2.1 pl9; rw [← hO]; exact ND (by rw [hO]; exact z) pl9⟩
          rw [hGd] at hfin
          have hl : lv_has ls 9 [(5, .int (nI 0)), (4, .int (nI (0 + 1) - nI 1)), (0, .ref (ad 36)), (1, .int (nI nv)), (2, .int (nI lv)), (3, .int (nI hv))] := lv_sub hl [0, 1, 2, 3, 4, 5] rfl
          exact hfin (by omega) (by omega) (by omega) (fun j hj => absurd hj (by omega)) _ _ _ _ hH f36 f37 f38 f39 f40 f41 f42 f43 f44 f45 f46 f47 fr hl
        · have c51 : ¬ nb % nv = 0 := by omega
          refine lv_bipush (v := (-3)) hx hb dX6_plan_54 (by decide) ?_
          refine RET _ _ _ _ _ _ dX6_plan_56 rfl ?_ hH
          refine postM (C' := ((nm, fa, fb, mc, rd), nr, ar, (nb, num, 0, pev, pln, tr))) (by unfold storeOp sp_plan; rw [if_pos (show rng (nI nv) 1 6 ∧ rng (nI lv) 0 10000 ∧ rng (nI hv) (tN (nI lv)) 10000 from ⟨(rng_iff (by omega)).mpr (by omega), (rng_iff (by omega)).mpr (by omega), by rw [tN_nI (by omega)]; exact (rng_iff (by omega)).mpr (by omega)⟩), tN_nI (by omega), tN_nI (by omega), tN_nI (by omega)]; rw [if_neg (by show ¬ nb % nv = 0; exact c51)]) ⟨_, _, _, _, _, _, _, _, _, _, _, _, f36, f37, f38, f39, f40, f41, f42, f43, f44, f45, f46, f47, hrL, hrR, ⟨hnn, fun h => absurd h (Nat.lt_irrefl 0), fun j h => absurd h (by rw [Nat.zero_mul]; exact Nat.not_lt_zero _)⟩, hlok, hrok, ⟨k1, k2, fun h => absurd h (Nat.lt_irrefl 0), by show 0 * _ ≤ 12; omega, fun j h => absurd h (by rw [Nat.zero_mul]; exact Nat.not_lt_zero _), k6, Nat.zero_le _⟩, hpm⟩ fr
      · refine lv_bipush (v := (-2)) hx hb dX6_plan_37 (by decide) ?_
        refine RET _ _ _ _ _ _ dX6_plan_39 rfl ?_ hH
        exact postM (by unfold storeOp sp_plan; rw [if_neg (fun z => by first | exact absurd z.1 (by assumption) | exact absurd z.2.1 (by assumption) | (have z3 := z.2.2; rw [tN_nI (by omega)] at z3; exact absurd z3 (by assumption)))]) ⟨_, _, _, _, _, _, _, _, _, _, _, _, f36, f37, f38, f39, f40, f41, f42, f43, f44, f45, f46, f47, hrL, hrR, hrS, hlok, hrok, hsok, hpm⟩ fr
