set_option maxHeartbeats 4000000 in
set_option maxRecDepth 100000 in
theorem k_X6_gather (l : Launch) (X : Cx) (ad : Nat → Nat) (hi : inj 48 ad) (g : PF) (nm fa fb : Nat) (mc rd : Nat → Nat → Nat) (nr : Nat → Nat) (ar : Nat → Nat → Nat) (nb : Nat) (num : Nat → Nat) (lay pev : Nat) (pln : Nat → Nat) (tr : Nat) (hR : rMod X ad ((nm, fa, fb, mc, rd), nr, ar, (nb, num, lay, pev, pln, tr)) g) (p0 p1 : Int32) : Ki l yX6_gather wsX6_gather zr3 X 48 ad g [.ref (ad 36), .int p0, .int p1] (fun r g' => r = (rowOp (sp_gather p1) p0 ((nm, fa, fb, mc, rd), nr, ar, (nb, num, lay, pev, pln, tr))).1 ∧ rMod X ad (rowOp (sp_gather p1) p0 ((nm, fa, fb, mc, rd), nr, ar, (nb, num, lay, pev, pln, tr))).2 g' ∧ frM g g') := by
  refine Ki.of (cc := cX6_gather) (maxL := 5) hi (by decide) rfl (Nat.le_of_ble_eq_true rfl) ?_
  intro p e s m below meth c Q E RET ls hl
  obtain ⟨C0, FX, hH⟩ := E
  have hx := C0.1
  have hb := C0.2.1
  have kl118 := C0.2.2.2.2 (.constantLong RX6 118 (lN 2)) (by decide +kernel)
  have kl60 := C0.2.2.2.2 (.constantLong RX6 60 (lN 20)) (by decide +kernel)
  have kiX6 : ∀ w ∈ u_ws RX6 TX6 18, w ∈ wsX6_gather := (by decide +kernel)
  have kf35 : Cond.fieldLink RX6 35 "YarnMillModel" "cells" "[I" ∈ wsX6_gather := (by decide +kernel)
  have kf38 : Cond.fieldLink RX6 38 "YarnMillModel" "mass" "[I" ∈ wsX6_gather := (by decide +kernel)
  have kf41 : Cond.fieldLink RX6 41 "YarnMillModel" "fresh" "[I" ∈ wsX6_gather := (by decide +kernel)
  have hl : lv_has ls 5 [(0, .ref (ad 36)), (1, .int p0), (2, .int p1)] := hl
  have fr : ∀ j, (j < 36) → g j = g j := fun j _ => rfl
  obtain ⟨md, ma, mb, ml, mr, mo, cn, ms, fs, nn, pl, pm, f36, f37, f38, f39, f40, f41, f42, f43, f44, f45, f46, f47, hrL, hrR, hrS, hlok, hrok, hsok, hpm⟩ := hR
  have f36 : g 36 = .inr (6, [.int (nI fa), .int (nI fb), .int (nI nm), .ref (ad 37), .ref (ad 38), .ref (ad 39), .ref (ad 40), .ref (ad 41), .ref (ad 42), .ref (ad 43), .ref (ad 44), .ref (ad 45), .int (nI nb), .ref (ad 46), .int (nI lay), .int (nI pm), .ref (ad 47), .int (nI tr)]) := f36
  have hq37 : ∀ j, j < nm → md j = mc j 0 := fun j hj => (hrL.1 j hj).1
  have hq38 : ∀ j, j < nm → ma j = mc j 1 := fun j hj => (hrL.1 j hj).2.1
  have hq39 : ∀ j, j < nm → mb j = mc j 2 := fun j hj => (hrL.1 j hj).2.2.1
  have hq40 : ∀ j, j < nm → ml j = mc j 3 := fun j hj => (hrL.1 j hj).2.2.2.1
  have hq41 : ∀ j, j < nm → mr j = mc j 4 := fun j hj => (hrL.1 j hj).2.2.2.2
  have hmo : ∀ j, j < nm → ∀ r, r < mc j 4 → mo (3 * j + r) = rd j r := hrL.2
  have h6 : nm ≤ 6 := hlok.1
  have hfa : 1 ≤ fa ∧ fa ≤ 10000 := hlok.2.1
  have hfb : 1 ≤ fb ∧ fb ≤ 10000 := hlok.2.2.1
  have hmk : ∀ j, j < nm → mcOk (mc j) ∧ ∀ r, r < mc j 4 → 1 ≤ rd j r ∧ rd j r ≤ 1000 := hlok.2.2.2
  have hcn : ∀ r, r < 8 → cn r = nr r := hrR.1
  have hms : ∀ r, r < 8 → ∀ j, j < nr r → ms (400 * r + j) = ar r j := hrR.2
  have hro : ∀ r, r < 8 → nr r ≤ 400 ∧ ∀ j, j < nr r → ar r j ≤ 1000000 := hrok
  have hnn : ∀ j, j < nb → nn j = num j := hrS.1
  have hper : 0 < lay → pm = pev := hrS.2.1
  have hpl : ∀ j, j < lay * pev → pl j = pln j := hrS.2.2
  obtain ⟨k1, k2, k3, k4, k5, k6, k7⟩ := id hsok
  have k1 : nb ≤ 12 := k1
  have k2 : ∀ j, j < nb → num j ≤ 10000 := k2
  have k3 : 0 < lay → (1 ≤ pev ∧ pev ≤ 6) := k3
  have k4 : lay * pev ≤ 12 := k4
  have k5 : ∀ j, j < lay * pev → pln j ≤ 12 := k5
  have k6 : tr ≤ 100000 := k6
  have k7 : lay ≤ 12 := k7
  refine lv_iload_n hx hb dX6_gather_0 rfl (lv_at hl 1 rfl) ?_
  refine rc_Si (rest := []) C0 FX hH (k_X6_isRow l X ad hi _ p0) (va_cwS 1 C0.2.2.2.2 gX6_gather_X6_isRow rfl rfl rfl (by decide +kernel) ⟨Nat.le_of_ble_eq_true rfl, Nat.le_of_ble_eq_true rfl⟩) rfl rfl hl.1 (Nat.le_of_ble_eq_true rfl) dX6_gather_1 ⟨Nat.le_of_ble_eq_true rfl, Nat.le_of_ble_eq_true rfl⟩ (fun r1 g1c H locs h1 hH => ?_)
  obtain ⟨e1, rfl⟩ := h1
  rw [e1] at hH
  refine rb_eq hx hb 21 dX6_gather_4 (by decide) (fun c4 => ?_) (fun c4 => ?_)
  · refine lv_bipush (v := (-2)) hx hb dX6_gather_21 (by decide) ?_
    refine RET _ _ _ _ _ _ dX6_gather_23 rfl ?_ hH
    exact mod_bad (by assumption) ⟨_, _, _, _, _, _, _, _, _, _, _, _, f36, f37, f38, f39, f40, f41, f42, f43, f44, f45, f46, f47, hrL, hrR, hrS, hlok, hrok, hsok, hpm⟩
  · obtain ⟨rv, rfl, rv1, rv2, rv3⟩ := rng_nI c4
    refine lv_iload_n hx hb dX6_gather_7 rfl (lv_at hl 2 rfl) ?_
    refine lv_i2l hx hb dX6_gather_8 rfl ?_
    refine lv_ldc2 hx hb C0.2.2.2.1 kl118 dX6_gather_9 ?_
    refine lv_ldc2 hx hb C0.2.2.2.1 kl60 dX6_gather_12 ?_
    refine rc_Si (rest := []) C0 FX hH (k_X6_in_rng l X ad hi _ p1 2 20 (by omega) (by omega)) (va_cwS 3 C0.2.2.2.2 gX6_gather_X6_in rfl rfl rfl (by decide +kernel) ⟨Nat.le_of_ble_eq_true rfl, Nat.le_of_ble_eq_true rfl⟩) rfl rfl hl.1 (Nat.le_of_ble_eq_true rfl) dX6_gather_15 ⟨Nat.le_of_ble_eq_true rfl, Nat.le_of_ble_eq_true rfl⟩ (fun r15 g15c H locs h15 hH => ?_)
    obtain ⟨e15, rfl⟩ := h15
    rw [e15] at hH
    refine rb_ne hx hb 24 dX6_gather_18 (by decide) (fun c18 => ?_) (fun c18 => ?_)
    · obtain ⟨gv, rfl, gv1, gv2, gv3⟩ := rng_nI c18
      have hro9 := (hro rv (by omega)).1
      have hra9 := (hro rv (by omega)).2
      have hce := ceil_le (n := nr rv) (show 0 < gv by omega)
      refine lv_aload_n hx hb dX6_gather_24 rfl (lv_at hl 0 rfl) ?_
      refine rp_get C0 FX hH 36 (by decide) (ci := 6) (k := 9) f36 rfl kiX6 (by decide) kf35 rfl dX6_gather_25 ?_
      refine lv_iload_n hx hb dX6_gather_28 rfl (lv_at hl 1 rfl) ?_
      refine rp_iald C0 FX hH 43 (by decide) (v := nr rv) f43 rv (by omega) (by decide) (hcn _ (by omega)) dX6_gather_29 ?_
      refine lv_iload_n hx hb dX6_gather_30 rfl (lv_at hl 2 rfl) ?_
      refine ni_iadd hx hb dX6_gather_31 ?_
      refine lv_iconst (v := nI 1) hx hb dX6_gather_32 (by decide) ?_
      refine ni_isub hx hb (by omega) dX6_gather_33 ?_
      refine lv_iload_n hx hb dX6_gather_34 rfl (lv_at hl 2 rfl) ?_
      refine ni_idiv hx hb (by omega) (by omega) (by omega) dX6_gather_35 ?_
      refine lv_istore_n (lv' := [(3, .int (nI ((((nr rv) + gv) - 1) / gv))), (0, .ref (ad 36)), (1, .int (nI rv)), (2, .int (nI gv))]) hx hb dX6_gather_36 rfl hl (by decide) rfl (fun ls hl => ?_)
      refine lv_iconst (v := nI 0) hx hb dX6_gather_37 (by decide) ?_
      refine lv_istore (lv' := [(4, .int (nI 0)), (3, .int (nI ((((nr rv) + gv) - 1) / gv))), (0, .ref (ad 36)), (1, .int (nI rv)), (2, .int (nI gv))]) hx hb dX6_gather_38 hl (by decide) rfl (fun ls hl => ?_)
      have L40 : ∀ (fu : Nat) (i : Nat) (fx : Nat → Nat) (g1 : PF) (H : Heap) (locs : List Loc) (ls : Array Slot), (i ≤ (nr rv + gv - 1) / gv) → (∀ j, j < i → fx j = 0) → (nr rv + gv - 1) / gv - i < fu → WH X 48 ad (pA 48 ad s.heap.size) s g1 H locs → g1 36 = .inr (6, [.int (nI fa), .int (nI fb), .int (nI nm), .ref (ad 37), .ref (ad 38), .ref (ad 39), .ref (ad 40), .ref (ad 41), .ref (ad 42), .ref (ad 43), .ref (ad 44), .ref (ad 45), .int (nI nb), .ref (ad 46), .int (nI lay), .int (nI pm), .ref (ad 47), .int (nI tr)]) → g1 37 = arr X 6 md → g1 38 = arr X 6 ma → g1 39 = arr X 6 mb → g1 40 = arr X 6 ml → g1 41 = arr X 6 mr → g1 42 = arr X 18 mo → g1 43 = arr X 8 cn → g1 44 = arr X 3200 ms → g1 45 = arr X 400 fx → g1 46 = arr X 12 nn → g1 47 = arr X 12 pl → (∀ j, (j < 36) → g1 j = g j) → lv_has ls 5 [(4, .int (nI i)), (3, .int (nI ((((nr rv) + gv) - 1) / gv))), (0, .ref (ad 36)), (1, .int (nI rv)), (2, .int (nI gv))] → W p l e zr3 s m ([.ref (ad 36), .int (nI rv), .int (nI gv)] : List Value).toArray below meth c H locs 0 0 Q (F0 m 40 ls []) := by
        intro fu
        induction fu with
        | zero =>
          intro i fx g1 H locs ls j1 j6 hm
          exact absurd hm (Nat.not_lt_zero _)
        | succ fu ih =>
          have ih40 := ih; clear ih
          intro i fx g1 H locs ls j1 j6 hm40 hH f36 f37 f38 f39 f40 f41 f42 f43 f44 f45 f46 f47 fr hl
          refine lv_iload hx hb dX6_gather_40 (lv_at hl 0 rfl) ?_
          refine lv_iload_n hx hb dX6_gather_42 rfl (lv_at hl 1 rfl) ?_
          refine ni_cge hx hb 60 dX6_gather_43 (by decide) (by omega) (by omega) (fun c43 => ?_) (fun c43 => ?_)
          · refine lv_iconst (v := nI 0) hx hb dX6_gather_60 (by decide) ?_
            refine lv_istore (lv' := [(4, .int (nI 0)), (3, .int (nI ((((nr rv) + gv) - 1) / gv))), (0, .ref (ad 36)), (1, .int (nI rv)), (2, .int (nI gv))]) hx hb dX6_gather_61 hl (by decide) rfl (fun ls hl => ?_)
            have L63 : ∀ (fu : Nat) (i : Nat) (fy : Nat → Nat) (g2 : PF) (H : Heap) (locs : List Loc) (ls : Array Slot), (i ≤ nr rv) → (∀ j, j < (nr rv + gv - 1) / gv → fy j = gsp (ar rv) gv i j) → nr rv - i < fu → WH X 48 ad (pA 48 ad s.heap.size) s g2 H locs → g2 36 = .inr (6, [.int (nI fa), .int (nI fb), .int (nI nm), .ref (ad 37), .ref (ad 38), .ref (ad 39), .ref (ad 40), .ref (ad 41), .ref (ad 42), .ref (ad 43), .ref (ad 44), .ref (ad 45), .int (nI nb), .ref (ad 46), .int (nI lay), .int (nI pm), .ref (ad 47), .int (nI tr)]) → g2 37 = arr X 6 md → g2 38 = arr X 6 ma → g2 39 = arr X 6 mb → g2 40 = arr X 6 ml → g2 41 = arr X 6 mr → g2 42 = arr X 18 mo → g2 43 = arr X 8 cn → g2 44 = arr X 3200 ms → g2 45 = arr X 400 fy → g2 46 = arr X 12 nn → g2 47 = arr X 12 pl → (∀ j, (j < 36) → g2 j = g j) → lv_has ls 5 [(4, .int (nI i)), (3, .int (nI ((((nr rv) + gv) - 1) / gv))), (0, .ref (ad 36)), (1, .int (nI rv)), (2, .int (nI gv))] → W p l e zr3 s m ([.ref (ad 36), .int (nI rv), .int (nI gv)] : List Value).toArray below meth c H locs 0 0 Q (F0 m 63 ls []) := by
              intro fu
              induction fu with
              | zero =>
                intro i fy g2 H locs ls k1 k6 hm
                exact absurd hm (Nat.not_lt_zero _)
              | succ fu ih =>
                have ih63 := ih; clear ih
                intro i fy g2 H locs ls k1 k6 hm63 hH f36 f37 f38 f39 f40 f41 f42 f43 f44 f45 f46 f47 fr hl
                refine lv_iload hx hb dX6_gather_63 (lv_at hl 0 rfl) ?_
                refine lv_aload_n hx hb dX6_gather_65 rfl (lv_at hl 2 rfl) ?_
                refine rp_get C0 FX hH 36 (by decide) (ci := 6) (k := 9) f36 rfl kiX6 (by decide) kf35 rfl dX6_gather_66 ?_
                refine lv_iload_n hx hb dX6_gather_69 rfl (lv_at hl 3 rfl) ?_
                refine rp_iald C0 FX hH 43 (by decide) (v := nr rv) f43 rv (by omega) (by decide) (hcn _ (by omega)) dX6_gather_70 ?_
                refine ni_cge hx hb 105 dX6_gather_71 (by decide) (by omega) (by omega) (fun c71 => ?_) (fun c71 => ?_)
                · have hgs : ∀ j, j < (nr rv + gv - 1) / gv → fy j = gsm (nr rv) (ar rv) gv j := fun j hj => by rw [k6 j hj, show i = nr rv by omega]; rfl
                  refine lv_aload_n hx hb dX6_gather_105 rfl (lv_at hl 2 rfl) ?_
                  refine lv_iload_n hx hb dX6_gather_106 rfl (lv_at hl 3 rfl) ?_
                  refine lv_iload_n hx hb dX6_gather_107 rfl (lv_at hl 1 rfl) ?_
                  refine rc_Vi (rest := []) C0 FX hH 36 (by decide) f36 rfl (k_X6_becomes l X ad hi _ fa fb nm nb lay pm tr cn ms fy f36 f43 f44 f45 rv ((((nr rv) + gv) - 1) / gv) (by omega) (by omega) (by rw [hcn rv (by omega)]; exact hro9) (fun j hj => by rw [k6 j hj]; have := gsp_le (a := ar rv) (d := gv) (q := j) hra9 k1; omega)) (cwV 2 C0.2.2.2.2 gX6_gather_X6_becomes rfl rfl rfl (by decide +kernel) ⟨Nat.le_of_ble_eq_true rfl, Nat.le_of_ble_eq_true rfl⟩) rfl rfl hl.1 (Nat.le_of_ble_eq_true rfl) dX6_gather_108 ⟨Nat.le_of_ble_eq_true rfl, Nat.le_of_ble_eq_true rfl⟩ (fun r108 g108c H locs h108 hH => ?_)
                  obtain ⟨hfit, hnot, n108⟩ := h108
                  have f36 : g108c 36 = .inr (6, [.int (nI fa), .int (nI fb), .int (nI nm), .ref (ad 37), .ref (ad 38), .ref (ad 39), .ref (ad 40), .ref (ad 41), .ref (ad 42), .ref (ad 43), .ref (ad 44), .ref (ad 45), .int (nI nb), .ref (ad 46), .int (nI lay), .int (nI pm), .ref (ad 47), .int (nI tr)]) := (n108 _ (by decide) (by decide)).trans f36
                  have f37 : g108c 37 = arr X 6 md := (n108 _ (by decide) (by decide)).trans f37
                  have f38 : g108c 38 = arr X 6 ma := (n108 _ (by decide) (by decide)).trans f38
                  have f39 : g108c 39 = arr X 6 mb := (n108 _ (by decide) (by decide)).trans f39
                  have f40 : g108c 40 = arr X 6 ml := (n108 _ (by decide) (by decide)).trans f40
                  have f41 : g108c 41 = arr X 6 mr := (n108 _ (by decide) (by decide)).trans f41
                  have f42 : g108c 42 = arr X 18 mo := (n108 _ (by decide) (by decide)).trans f42
                  have f45 : g108c 45 = arr X 400 fy := (n108 _ (by decide) (by decide)).trans f45
                  have f46 : g108c 46 = arr X 12 nn := (n108 _ (by decide) (by decide)).trans f46
                  have f47 : g108c 47 = arr X 12 pl := (n108 _ (by decide) (by decide)).trans f47
                  have fr : ∀ j, (j < 36) → g108c j = g j := fun j a0 => (n108 j (by omega) (by omega)).trans (fr j a0)
                  by_cases hf9 : ∀ j, j < ((((nr rv) + gv) - 1) / gv) → (fy) j ≤ 1000000
                  · obtain ⟨rfl, f43, ms8, f44, hm1, hm2⟩ := hfit hf9
                    refine RET _ _ _ _ _ _ dX6_gather_111 rfl ?_ hH
                    have hFC : ∀ j, j < (nr rv + gv - 1) / gv → gsm (nr rv) (ar rv) gv j ≤ 1000000 := fun j hj => by rw [← hgs j hj]; exact hf9 j hj
                    refine mod_row (n1 := (nr rv + gv - 1) / gv) (a1 := gsm (nr rv) (ar rv) gv) rv2 (by unfold sp_gather; rw [if_pos ((rng_iff (by omega)).mpr (by omega)), tN_nI (by omega), if_pos hFC]) ⟨_, _, _, _, _, _, _, _, _, _, _, _, f36, f37, f38, f39, f40, f41, f42, f43, f44, f45, f46, f47, hrL, relR_up hrR hrok rv2 (fun r hr => by by_cases q : r = rv; rw [q, va_up_self, va_up_self]; rw [va_up_ne _ _ q, va_up_ne _ _ q]; exact hcn r hr) (fun j hj => ?_) (fun k hk => hm2 k (by omega)), hrS, hlok, rowsOk_up hrok (by omega) (hFC), hsok, hpm⟩ fr
                    rw [hm1 j hj]; exact hgs j hj
                  · obtain ⟨rfl, f43, f44⟩ := hnot hf9
                    rw [va_up_id] at f43
                    refine RET _ _ _ _ _ _ dX6_gather_111 rfl ?_ hH
                    exact mod_same rv2 (by unfold sp_gather; rw [if_pos ((rng_iff (by omega)).mpr (by omega)), tN_nI (by omega), if_neg (fun z => hf9 (fun j hj => by rw [hgs j hj]; exact z j hj))]) ⟨_, _, _, _, _, _, _, _, _, _, _, _, f36, f37, f38, f39, f40, f41, f42, f43, f44, f45, f46, f47, hrL, hrR, hrS, hlok, hrok, hsok, hpm⟩ fr
                · have hiv : i / gv < (nr rv + gv - 1) / gv := (ceil_lt (by omega)).mpr (by have := Nat.div_mul_le_self i gv; omega)
                  refine lv_aload_n hx hb dX6_gather_74 rfl (lv_at hl 2 rfl) ?_
                  refine rp_get C0 FX hH 36 (by decide) (ci := 6) (k := 11) f36 rfl kiX6 (by decide) kf41 rfl dX6_gather_75 ?_
                  refine lv_iload hx hb dX6_gather_78 (lv_at hl 0 rfl) ?_
                  refine lv_iload_n hx hb dX6_gather_80 rfl (lv_at hl 4 rfl) ?_
                  refine ni_idiv hx hb (by omega) (by omega) (by omega) dX6_gather_81 ?_
                  refine lv_dup2_11 hx hb dX6_gather_82 rfl rfl ?_
                  refine rp_iald C0 FX hH 45 (by decide) (v := fy (i / gv)) f45 (i / gv) (by omega) (by decide) rfl dX6_gather_83 ?_
                  refine lv_aload_n hx hb dX6_gather_84 rfl (lv_at hl 2 rfl) ?_
                  refine rp_get C0 FX hH 36 (by decide) (ci := 6) (k := 10) f36 rfl kiX6 (by decide) kf38 rfl dX6_gather_85 ?_
                  refine lv_sipush (v := nI 400) hx hb dX6_gather_88 (by decide) ?_
                  refine lv_iload_n hx hb dX6_gather_91 rfl (lv_at hl 3 rfl) ?_
                  refine ni_imul hx hb dX6_gather_92 ?_
                  refine lv_iload hx hb dX6_gather_93 (lv_at hl 0 rfl) ?_
                  refine ni_iadd hx hb dX6_gather_95 ?_
                  refine rp_iald C0 FX hH 44 (by decide) (v := ar rv i) f44 ((400 * rv) + i) (by omega) (by decide) (hms rv (by omega) _ (by omega)) dX6_gather_96 ?_
                  refine ni_iadd hx hb dX6_gather_97 ?_
                  refine rp_iast C0 FX hH 45 (by decide) f45 (i / gv) ((fy (i / gv)) + (ar rv i)) (by omega) (by decide) dX6_gather_98 (fun g3 H locs eq4 nq4 hH => ?_)
                  have f45 : g3 45 = arr X 400 (va_up fy (i / gv) ((fy (i / gv)) + (ar rv i))) := eq4
                  have f36 : g3 36 = .inr (6, [.int (nI fa), .int (nI fb), .int (nI nm), .ref (ad 37), .ref (ad 38), .ref (ad 39), .ref (ad 40), .ref (ad 41), .ref (ad 42), .ref (ad 43), .ref (ad 44), .ref (ad 45), .int (nI nb), .ref (ad 46), .int (nI lay), .int (nI pm), .ref (ad 47), .int (nI tr)]) := (nq4 _ (by omega)).trans f36
                  have f37 : g3 37 = arr X 6 md := (nq4 _ (by omega)).trans f37
                  have f38 : g3 38 = arr X 6 ma := (nq4 _ (by omega)).trans f38
                  have f39 : g3 39 = arr X 6 mb := (nq4 _ (by omega)).trans f39
                  have f40 : g3 40 = arr X 6 ml := (nq4 _ (by omega)).trans f40
                  have f41 : g3 41 = arr X 6 mr := (nq4 _ (by omega)).trans f41
                  have f42 : g3 42 = arr X 18 mo := (nq4 _ (by omega)).trans f42
                  have f43 : g3 43 = arr X 8 cn := (nq4 _ (by omega)).trans f43
                  have f44 : g3 44 = arr X 3200 ms := (nq4 _ (by omega)).trans f44
                  have f46 : g3 46 = arr X 12 nn := (nq4 _ (by omega)).trans f46
                  have f47 : g3 47 = arr X 12 pl := (nq4 _ (by omega)).trans f47
                  have fr : ∀ j, (j < 36) → g3 j = g j := fun j a0 => (nq4 j (by omega)).trans (fr j a0)
                  refine lv_iinc (v := nI (i + 1)) (lv' := [(4, .int (nI (i + 1))), (3, .int (nI ((((nr rv) + gv) - 1) / gv))), (0, .ref (ad 36)), (1, .int (nI rv)), (2, .int (nI gv))]) hx hb dX6_gather_99 hl (k := 0) rfl (ni_inc1 _) (by decide) rfl (fun ls hl => ?_)
                  refine lv_goto (tgt := 63) hx hb dX6_gather_102 (by decide) ?_
                  exact ih63 (i + 1) (va_up fy (i / gv) ((fy (i / gv)) + (ar rv i))) _ _ _ ls (by omega) (fun j h => by by_cases q : j = i / gv; rw [q, va_up_self, gsp_at (by omega), k6 _ hiv]; rw [va_up_ne _ _ q, gsp_ne (by omega) q]; exact k6 j h) (by omega) hH f36 f37 f38 f39 f40 f41 f42 f43 f44 f45 f46 f47 fr (lv_sub hl [0, 1, 2, 3, 4] rfl)
            exact L63 ((nr rv - 0) + 1) 0 fx _ _ _ ls (by omega) (fun j h => by rw [gsp_0]; exact j6 j (by omega)) (Nat.lt_succ_self _) hH f36 f37 f38 f39 f40 f41 f42 f43 f44 f45 f46 f47 fr (lv_sub hl [0, 1, 2, 3, 4] rfl)
          · refine lv_aload_n hx hb dX6_gather_46 rfl (lv_at hl 2 rfl) ?_
            refine rp_get C0 FX hH 36 (by decide) (ci := 6) (k := 11) f36 rfl kiX6 (by decide) kf41 rfl dX6_gather_47 ?_
            refine lv_iload hx hb dX6_gather_50 (lv_at hl 0 rfl) ?_
            refine lv_iconst (v := nI 0) hx hb dX6_gather_52 (by decide) ?_
            refine rp_iast C0 FX hH 45 (by decide) f45 i 0 (by omega) (by decide) dX6_gather_53 (fun g5 H locs eq6 nq6 hH => ?_)
            have f45 : g5 45 = arr X 400 (va_up fx i 0) := eq6
            have f36 : g5 36 = .inr (6, [.int (nI fa), .int (nI fb), .int (nI nm), .ref (ad 37), .ref (ad 38), .ref (ad 39), .ref (ad 40), .ref (ad 41), .ref (ad 42), .ref (ad 43), .ref (ad 44), .ref (ad 45), .int (nI nb), .ref (ad 46), .int (nI lay), .int (nI pm), .ref (ad 47), .int (nI tr)]) := (nq6 _ (by omega)).trans f36
            have f37 : g5 37 = arr X 6 md := (nq6 _ (by omega)).trans f37
            have f38 : g5 38 = arr X 6 ma := (nq6 _ (by omega)).trans f38
            have f39 : g5 39 = arr X 6 mb := (nq6 _ (by omega)).trans f39
            have f40 : g5 40 = arr X 6 ml := (nq6 _ (by omega)).trans f40
            have f41 : g5 41 = arr X 6 mr := (nq6 _ (by omega)).trans f41
            have f42 : g5 42 = arr X 18 mo := (nq6 _ (by omega)).trans f42
            have f43 : g5 43 = arr X 8 cn := (nq6 _ (by omega)).trans f43
            have f44 : g5 44 = arr X 3200 ms := (nq6 _ (by omega)).trans f44
            have f46 : g5 46 = arr X 12 nn := (nq6 _ (by omega)).trans f46
            have f47 : g5 47 = arr X 12 pl := (nq6 _ (by omega)).trans f47
            have fr : ∀ j, (j < 36) → g5 j = g j := fun j a0 => (nq6 j (by omega)).trans (fr j a0)
            refine lv_iinc (v := nI (i + 1)) (lv' := [(4, .int (nI (i + 1))), (3, .int (nI ((((nr rv) + gv) - 1) / gv))), (0, .ref (ad 36)), (1, .int (nI rv)), (2, .int (nI gv))]) hx hb dX6_gather_54 hl (k := 0) rfl (ni_inc1 _) (by decide) rfl (fun ls hl => ?_)
            refine lv_goto (tgt := 40) hx hb dX6_gather_57 (by decide) ?_
            exact ih40 (i + 1) (va_up fx i 0) _ _ _ ls (by omega) (fun j h => by by_cases q : j = i; rw [q, va_up_self]; rw [va_up_ne _ _ q]; exact j6 j (by omega)) (by omega) hH f36 f37 f38 f39 f40 f41 f42 f43 f44 f45 f46 f47 fr (lv_sub hl [0, 1, 2, 3, 4] rfl)
      exact L40 (((nr rv + gv - 1) / gv - 0) + 1) 0 fs _ _ _ ls (Nat.zero_le _) (fun j h => absurd h (Nat.not_lt_zero _)) (Nat.lt_succ_self _) hH f36 f37 f38 f39 f40 f41 f42 f43 f44 f45 f46 f47 fr (lv_sub hl [0, 1, 2, 3, 4] rfl)
    · refine lv_bipush (v := (-2)) hx hb dX6_gather_21 (by decide) ?_
      refine RET _ _ _ _ _ _ dX6_gather_23 rfl ?_ hH
      exact mod_same rv2 (by unfold sp_gather; rw [if_neg (by assumption)]) ⟨_, _, _, _, _, _, _, _, _, _, _, _, f36, f37, f38, f39, f40, f41, f42, f43, f44, f45, f46, f47, hrL, hrR, hrS, hlok, hrok, hsok, hpm⟩ fr
set_option maxHeartbeats 4000000 in
set_option maxRecDepth 100000 in
theorem k_X6_fault (l : Launch) (X : Cx) (ad : Nat → Nat) (hi : inj 48 ad) (g : PF) (nm fa fb : Nat) (mc rd : Nat → Nat → Nat) (nr : Nat → Nat) (ar : Nat → Nat → Nat) (nb : Nat) (num : Nat → Nat) (lay pev : Nat) (pln : Nat → Nat) (tr : Nat) (hR : rMod X ad ((nm, fa, fb, mc, rd), nr, ar, (nb, num, lay, pev, pln, tr)) g) (p0 p1 p2 : Int32) : Ki l yX6_fault wsX6_fault zr3 X 48 ad g [.ref (ad 36), .int p0, .int p1, .int p2] (fun r g' => r = (rowOp (sp_fault p1 p2) p0 ((nm, fa, fb, mc, rd), nr, ar, (nb, num, lay, pev, pln, tr))).1 ∧ rMod X ad (rowOp (sp_fault p1 p2) p0 ((nm, fa, fb, mc, rd), nr, ar, (nb, num, lay, pev, pln, tr))).2 g' ∧ frM g g') := by
  refine Ki.of (cc := cX6_fault) (maxL := 9) hi (by decide) rfl (Nat.le_of_ble_eq_true rfl) ?_
  intro p e s m below meth c Q E RET ls hl
  obtain ⟨C0, FX, hH⟩ := E
  have hx := C0.1
  have hb := C0.2.1
  have kl118 := C0.2.2.2.2 (.constantLong RX6 118 (lN 2)) (by decide +kernel)
  have kl122 := C0.2.2.2.2 (.constantLong RX6 122 (lN 400)) (by decide +kernel)
  have kl71 := C0.2.2.2.2 (.constantLong RX6 71 (lN 1000)) (by decide +kernel)
  have kiX6 : ∀ w ∈ u_ws RX6 TX6 18, w ∈ wsX6_fault := (by decide +kernel)
  have kf35 : Cond.fieldLink RX6 35 "YarnMillModel" "cells" "[I" ∈ wsX6_fault := (by decide +kernel)
  have kf38 : Cond.fieldLink RX6 38 "YarnMillModel" "mass" "[I" ∈ wsX6_fault := (by decide +kernel)
  have kf41 : Cond.fieldLink RX6 41 "YarnMillModel" "fresh" "[I" ∈ wsX6_fault := (by decide +kernel)
  have hl : lv_has ls 9 [(0, .ref (ad 36)), (1, .int p0), (2, .int p1), (3, .int p2)] := hl
  have fr : ∀ j, (j < 36) → g j = g j := fun j _ => rfl
  obtain ⟨md, ma, mb, ml, mr, mo, cn, ms, fs, nn, pl, pm, f36, f37, f38, f39, f40, f41, f42, f43, f44, f45, f46, f47, hrL, hrR, hrS, hlok, hrok, hsok, hpm⟩ := hR
  have f36 : g 36 = .inr (6, [.int (nI fa), .int (nI fb), .int (nI nm), .ref (ad 37), .ref (ad 38), .ref (ad 39), .ref (ad 40), .ref (ad 41), .ref (ad 42), .ref (ad 43), .ref (ad 44), .ref (ad 45), .int (nI nb), .ref (ad 46), .int (nI lay), .int (nI pm), .ref (ad 47), .int (nI tr)]) := f36
  have hq37 : ∀ j, j < nm → md j = mc j 0 := fun j hj => (hrL.1 j hj).1
  have hq38 : ∀ j, j < nm → ma j = mc j 1 := fun j hj => (hrL.1 j hj).2.1
  have hq39 : ∀ j, j < nm → mb j = mc j 2 := fun j hj => (hrL.1 j hj).2.2.1
  have hq40 : ∀ j, j < nm → ml j = mc j 3 := fun j hj => (hrL.1 j hj).2.2.2.1
  have hq41 : ∀ j, j < nm → mr j = mc j 4 := fun j hj => (hrL.1 j hj).2.2.2.2
  have hmo : ∀ j, j < nm → ∀ r, r < mc j 4 → mo (3 * j + r) = rd j r := hrL.2
  have h6 : nm ≤ 6 := hlok.1
  have hfa : 1 ≤ fa ∧ fa ≤ 10000 := hlok.2.1
  have hfb : 1 ≤ fb ∧ fb ≤ 10000 := hlok.2.2.1
  have hmk : ∀ j, j < nm → mcOk (mc j) ∧ ∀ r, r < mc j 4 → 1 ≤ rd j r ∧ rd j r ≤ 1000 := hlok.2.2.2
  have hcn : ∀ r, r < 8 → cn r = nr r := hrR.1
  have hms : ∀ r, r < 8 → ∀ j, j < nr r → ms (400 * r + j) = ar r j := hrR.2
  have hro : ∀ r, r < 8 → nr r ≤ 400 ∧ ∀ j, j < nr r → ar r j ≤ 1000000 := hrok
  have hnn : ∀ j, j < nb → nn j = num j := hrS.1
  have hper : 0 < lay → pm = pev := hrS.2.1
  have hpl : ∀ j, j < lay * pev → pl j = pln j := hrS.2.2
  obtain ⟨k1, k2, k3, k4, k5, k6, k7⟩ := id hsok
  have k1 : nb ≤ 12 := k1
  have k2 : ∀ j, j < nb → num j ≤ 10000 := k2
  have k3 : 0 < lay → (1 ≤ pev ∧ pev ≤ 6) := k3
  have k4 : lay * pev ≤ 12 := k4
  have k5 : ∀ j, j < lay * pev → pln j ≤ 12 := k5
  have k6 : tr ≤ 100000 := k6
  have k7 : lay ≤ 12 := k7
  refine lv_iload_n hx hb dX6_fault_0 rfl (lv_at hl 1 rfl) ?_
  refine rc_Si (rest := []) C0 FX hH (k_X6_isRow l X ad hi _ p0) (va_cwS 1 C0.2.2.2.2 gX6_fault_X6_isRow rfl rfl rfl (by decide +kernel) ⟨Nat.le_of_ble_eq_true rfl, Nat.le_of_ble_eq_true rfl⟩) rfl rfl hl.1 (Nat.le_of_ble_eq_true rfl) dX6_fault_1 ⟨Nat.le_of_ble_eq_true rfl, Nat.le_of_ble_eq_true rfl⟩ (fun r1 g1c H locs h1 hH => ?_)
  obtain ⟨e1, rfl⟩ := h1
  rw [e1] at hH
  refine rb_eq hx hb 33 dX6_fault_4 (by decide) (fun c4 => ?_) (fun c4 => ?_)
  · refine lv_bipush (v := (-2)) hx hb dX6_fault_33 (by decide) ?_
    refine RET _ _ _ _ _ _ dX6_fault_35 rfl ?_ hH
    exact mod_bad (by assumption) ⟨_, _, _, _, _, _, _, _, _, _, _, _, f36, f37, f38, f39, f40, f41, f42, f43, f44, f45, f46, f47, hrL, hrR, hrS, hlok, hrok, hsok, hpm⟩
  · obtain ⟨rv, rfl, rv1, rv2, rv3⟩ := rng_nI c4
    refine lv_iload_n hx hb dX6_fault_7 rfl (lv_at hl 2 rfl) ?_
    refine lv_i2l hx hb dX6_fault_8 rfl ?_
    refine lv_ldc2 hx hb C0.2.2.2.1 kl118 dX6_fault_9 ?_
    refine lv_ldc2 hx hb C0.2.2.2.1 kl122 dX6_fault_12 ?_
    refine rc_Si (rest := []) C0 FX hH (k_X6_in_rng l X ad hi _ p1 2 400 (by omega) (by omega)) (va_cwS 3 C0.2.2.2.2 gX6_fault_X6_in rfl rfl rfl (by decide +kernel) ⟨Nat.le_of_ble_eq_true rfl, Nat.le_of_ble_eq_true rfl⟩) rfl rfl hl.1 (Nat.le_of_ble_eq_true rfl) dX6_fault_15 ⟨Nat.le_of_ble_eq_true rfl, Nat.le_of_ble_eq_true rfl⟩ (fun r15 g15c H locs h15 hH => ?_)
    obtain ⟨e15, rfl⟩ := h15
    rw [e15] at hH
    refine rb_eq hx hb 33 dX6_fault_18 (by decide) (fun c18 => ?_) (fun c18 => ?_)
    · refine lv_bipush (v := (-2)) hx hb dX6_fault_33 (by decide) ?_
      refine RET _ _ _ _ _ _ dX6_fault_35 rfl ?_ hH
      exact mod_same rv2 (by unfold sp_fault; rw [if_neg (fun z => by first | exact absurd z.1 (by assumption) | exact absurd z.2 (by assumption))]) ⟨_, _, _, _, _, _, _, _, _, _, _, _, f36, f37, f38, f39, f40, f41, f42, f43, f44, f45, f46, f47, hrL, hrR, hrS, hlok, hrok, hsok, hpm⟩ fr
    · obtain ⟨w, rfl, w1, w2, w3⟩ := rng_nI c18
      refine lv_iload_n hx hb dX6_fault_21 rfl (lv_at hl 3 rfl) ?_
      refine lv_i2l hx hb dX6_fault_22 rfl ?_
      refine lv_lconst (v := lN 0) hx hb dX6_fault_23 (by decide) ?_
      refine lv_ldc2 hx hb C0.2.2.2.1 kl71 dX6_fault_24 ?_
      refine rc_Si (rest := []) C0 FX hH (k_X6_in_rng l X ad hi _ p2 0 1000 (by omega) (by omega)) (va_cwS 3 C0.2.2.2.2 gX6_fault_X6_in rfl rfl rfl (by decide +kernel) ⟨Nat.le_of_ble_eq_true rfl, Nat.le_of_ble_eq_true rfl⟩) rfl rfl hl.1 (Nat.le_of_ble_eq_true rfl) dX6_fault_27 ⟨Nat.le_of_ble_eq_true rfl, Nat.le_of_ble_eq_true rfl⟩ (fun r27 g27c H locs h27 hH => ?_)
      obtain ⟨e27, rfl⟩ := h27
      rw [e27] at hH
      refine rb_ne hx hb 36 dX6_fault_30 (by decide) (fun c30 => ?_) (fun c30 => ?_)
      · obtain ⟨sz, rfl, sz1, sz2, sz3⟩ := rng_nI c30
        have hro9 := (hro rv (by omega)).1
        have hra9 := (hro rv (by omega)).2
        have hdm := Nat.div_mul_le_self (nr rv) w
        refine lv_iload_n hx hb dX6_fault_36 rfl (lv_at hl 2 rfl) ?_
        refine lv_iconst (v := nI 2) hx hb dX6_fault_37 (by decide) ?_
        refine ni_idiv hx hb (by omega) (by omega) (by omega) dX6_fault_38 ?_
        refine lv_istore (lv' := [(4, .int (nI (w / 2))), (0, .ref (ad 36)), (1, .int (nI rv)), (2, .int (nI w)), (3, .int (nI sz))]) hx hb dX6_fault_39 hl (by decide) rfl (fun ls hl => ?_)
        refine lv_iconst (v := nI 0) hx hb dX6_fault_41 (by decide) ?_
        refine lv_istore (lv' := [(5, .int (nI 0)), (4, .int (nI (w / 2))), (0, .ref (ad 36)), (1, .int (nI rv)), (2, .int (nI w)), (3, .int (nI sz))]) hx hb dX6_fault_42 hl (by decide) rfl (fun ls hl => ?_)
        refine lv_iconst (v := nI 0) hx hb dX6_fault_44 (by decide) ?_
        refine lv_istore (lv' := [(6, .int (nI 0)), (5, .int (nI 0)), (4, .int (nI (w / 2))), (0, .ref (ad 36)), (1, .int (nI rv)), (2, .int (nI w)), (3, .int (nI sz))]) hx hb dX6_fault_45 hl (by decide) rfl (fun ls hl => ?_)
        have L47 : ∀ (fu : Nat) (i : Nat) (fx : Nat → Nat) (g1 : PF) (H : Heap) (locs : List Loc) (ls : Array Slot), (i ≤ nr rv) → (∀ j, j < i → fx j = ar rv j) → nr rv - i < fu → WH X 48 ad (pA 48 ad s.heap.size) s g1 H locs → g1 36 = .inr (6, [.int (nI fa), .int (nI fb), .int (nI nm), .ref (ad 37), .ref (ad 38), .ref (ad 39), .ref (ad 40), .ref (ad 41), .ref (ad 42), .ref (ad 43), .ref (ad 44), .ref (ad 45), .int (nI nb), .ref (ad 46), .int (nI lay), .int (nI pm), .ref (ad 47), .int (nI tr)]) → g1 37 = arr X 6 md → g1 38 = arr X 6 ma → g1 39 = arr X 6 mb → g1 40 = arr X 6 ml → g1 41 = arr X 6 mr → g1 42 = arr X 18 mo → g1 43 = arr X 8 cn → g1 44 = arr X 3200 ms → g1 45 = arr X 400 fx → g1 46 = arr X 12 nn → g1 47 = arr X 12 pl → (∀ j, (j < 36) → g1 j = g j) → lv_has ls 9 [(6, .int (nI i)), (5, .int (nI 0)), (4, .int (nI (w / 2))), (0, .ref (ad 36)), (1, .int (nI rv)), (2, .int (nI w)), (3, .int (nI sz))] → W p l e zr3 s m ([.ref (ad 36), .int (nI rv), .int (nI w), .int (nI sz)] : List Value).toArray below meth c H locs 0 0 Q (F0 m 47 ls []) := by
          intro fu
          induction fu with
          | zero =>
            intro i fx g1 H locs ls i1 i6 hm
            exact absurd hm (Nat.not_lt_zero _)
          | succ fu ih =>
            have ih47 := ih; clear ih
            intro i fx g1 H locs ls i1 i6 hm47 hH f36 f37 f38 f39 f40 f41 f42 f43 f44 f45 f46 f47 fr hl
            refine lv_iload hx hb dX6_fault_47 (lv_at hl 0 rfl) ?_
            refine lv_aload_n hx hb dX6_fault_49 rfl (lv_at hl 3 rfl) ?_
            refine rp_get C0 FX hH 36 (by decide) (ci := 6) (k := 9) f36 rfl kiX6 (by decide) kf35 rfl dX6_fault_50 ?_
            refine lv_iload_n hx hb dX6_fault_53 rfl (lv_at hl 4 rfl) ?_
            refine rp_iald C0 FX hH 43 (by decide) (v := nr rv) f43 rv (by omega) (by decide) (hcn _ (by omega)) dX6_fault_54 ?_
            refine ni_cge hx hb 84 dX6_fault_55 (by decide) (by omega) (by omega) (fun c55 => ?_) (fun c55 => ?_)
            · refine lv_iconst (v := nI 0) hx hb dX6_fault_84 (by decide) ?_
              refine lv_istore (lv' := [(6, .int (nI 0)), (5, .int (nI 0)), (4, .int (nI (w / 2))), (0, .ref (ad 36)), (1, .int (nI rv)), (2, .int (nI w)), (3, .int (nI sz))]) hx hb dX6_fault_85 hl (by decide) rfl (fun ls hl => ?_)
              have L87 : ∀ (fu : Nat) (T : Nat) (t : Nat) (q : Nat) (fy : Nat → Nat) (g2 : PF) (H : Heap) (locs : List Loc) (ls : Array Slot), (t = q * w) → (t ≤ nr rv) → (q ≤ nr rv / w) → (T = fltS (nr rv) (ar rv) w sz q) → (∀ j, j < nr rv → fy j = if j < t then flt (nr rv) (ar rv) w sz j else ar rv j) → nr rv - t < fu → WH X 48 ad (pA 48 ad s.heap.size) s g2 H locs → g2 36 = .inr (6, [.int (nI fa), .int (nI fb), .int (nI nm), .ref (ad 37), .ref (ad 38), .ref (ad 39), .ref (ad 40), .ref (ad 41), .ref (ad 42), .ref (ad 43), .ref (ad 44), .ref (ad 45), .int (nI nb), .ref (ad 46), .int (nI lay), .int (nI pm), .ref (ad 47), .int (nI tr)]) → g2 37 = arr X 6 md → g2 38 = arr X 6 ma → g2 39 = arr X 6 mb → g2 40 = arr X 6 ml → g2 41 = arr X 6 mr → g2 42 = arr X 18 mo → g2 43 = arr X 8 cn → g2 44 = arr X 3200 ms → g2 45 = arr X 400 fy → g2 46 = arr X 12 nn → g2 47 = arr X 12 pl → (∀ j, (j < 36) → g2 j = g j) → lv_has ls 9 [(6, .int (nI t)), (5, .int (nI T)), (4, .int (nI (w / 2))), (0, .ref (ad 36)), (1, .int (nI rv)), (2, .int (nI w)), (3, .int (nI sz))] → W p l e zr3 s m ([.ref (ad 36), .int (nI rv), .int (nI w), .int (nI sz)] : List Value).toArray below meth c H locs 0 0 Q (F0 m 87 ls []) := by
                intro fu
                induction fu with
                | zero =>
                  intro T t q fy g2 H locs ls k1 k4 k9 k3 k5q hm
                  exact absurd hm (Nat.not_lt_zero _)
                | succ fu ih =>
                  have ih87 := ih; clear ih
                  intro T t q fy g2 H locs ls k1 k4 k9 k3 k5q hm87 hH f36 f37 f38 f39 f40 f41 f42 f43 f44 f45 f46 f47 fr hl
                  refine lv_iload hx hb dX6_fault_87 (lv_at hl 0 rfl) ?_
                  refine lv_iload_n hx hb dX6_fault_89 rfl (lv_at hl 5 rfl) ?_
                  refine ni_iadd hx hb dX6_fault_90 ?_
                  refine lv_aload_n hx hb dX6_fault_91 rfl (lv_at hl 3 rfl) ?_
                  refine rp_get C0 FX hH 36 (by decide) (ci := 6) (k := 9) f36 rfl kiX6 (by decide) kf35 rfl dX6_fault_92 ?_
                  refine lv_iload_n hx hb dX6_fault_95 rfl (lv_at hl 4 rfl) ?_
                  refine rp_iald C0 FX hH 43 (by decide) (v := nr rv) f43 rv (by omega) (by decide) (hcn _ (by omega)) dX6_fault_96 ?_
                  refine ni_cgt hx hb 187 dX6_fault_97 (by decide) (by omega) (by omega) (fun c97 => ?_) (fun c97 => ?_)
                  · have hqe2 : q = nr rv / w := Nat.le_antisymm k9 (Nat.le_of_not_lt (fun z => by have z2 := (Nat.le_div_iff_mul_le (show 0 < w by omega)).mp (show q + 1 ≤ nr rv / w from z); rw [Nat.succ_mul] at z2; omega))
                    have hfl : ∀ j, j < nr rv → fy j = flt (nr rv) (ar rv) w sz j := fun j hj => by rw [k5q j hj]; split; rfl; exact (flt_out (by omega) (by rw [← hqe2]; omega)).symm
                    refine lv_aload_n hx hb dX6_fault_187 rfl (lv_at hl 3 rfl) ?_
                    refine lv_iload_n hx hb dX6_fault_188 rfl (lv_at hl 4 rfl) ?_
                    refine lv_aload_n hx hb dX6_fault_189 rfl (lv_at hl 3 rfl) ?_
                    refine rp_get C0 FX hH 36 (by decide) (ci := 6) (k := 9) f36 rfl kiX6 (by decide) kf35 rfl dX6_fault_190 ?_
                    refine lv_iload_n hx hb dX6_fault_193 rfl (lv_at hl 4 rfl) ?_
                    refine rp_iald C0 FX hH 43 (by decide) (v := nr rv) f43 rv (by omega) (by decide) (hcn _ (by omega)) dX6_fault_194 ?_
                    refine rc_Vi (rest := []) C0 FX hH 36 (by decide) f36 rfl (k_X6_becomes l X ad hi _ fa fb nm nb lay pm tr cn ms fy f36 f43 f44 f45 rv (nr rv) (by omega) (by omega) (by rw [hcn rv (by omega)]; exact hro9) (fun j hj => by rw [hfl j hj]; have := flt_2 (w := w) hra9 sz2 j hj; omega)) (cwV 2 C0.2.2.2.2 gX6_fault_X6_becomes rfl rfl rfl (by decide +kernel) ⟨Nat.le_of_ble_eq_true rfl, Nat.le_of_ble_eq_true rfl⟩) rfl rfl hl.1 (Nat.le_of_ble_eq_true rfl) dX6_fault_195 ⟨Nat.le_of_ble_eq_true rfl, Nat.le_of_ble_eq_true rfl⟩ (fun r195 g195c H locs h195 hH => ?_)
                    obtain ⟨hfit, hnot, n195⟩ := h195
                    have f36 : g195c 36 = .inr (6, [.int (nI fa), .int (nI fb), .int (nI nm), .ref (ad 37), .ref (ad 38), .ref (ad 39), .ref (ad 40), .ref (ad 41), .ref (ad 42), .ref (ad 43), .ref (ad 44), .ref (ad 45), .int (nI nb), .ref (ad 46), .int (nI lay), .int (nI pm), .ref (ad 47), .int (nI tr)]) := (n195 _ (by decide) (by decide)).trans f36
                    have f37 : g195c 37 = arr X 6 md := (n195 _ (by decide) (by decide)).trans f37
                    have f38 : g195c 38 = arr X 6 ma := (n195 _ (by decide) (by decide)).trans f38
                    have f39 : g195c 39 = arr X 6 mb := (n195 _ (by decide) (by decide)).trans f39
                    have f40 : g195c 40 = arr X 6 ml := (n195 _ (by decide) (by decide)).trans f40
                    have f41 : g195c 41 = arr X 6 mr := (n195 _ (by decide) (by decide)).trans f41
                    have f42 : g195c 42 = arr X 18 mo := (n195 _ (by decide) (by decide)).trans f42
                    have f45 : g195c 45 = arr X 400 fy := (n195 _ (by decide) (by decide)).trans f45
                    have f46 : g195c 46 = arr X 12 nn := (n195 _ (by decide) (by decide)).trans f46
                    have f47 : g195c 47 = arr X 12 pl := (n195 _ (by decide) (by decide)).trans f47
                    have fr : ∀ j, (j < 36) → g195c j = g j := fun j a0 => (n195 j (by omega) (by omega)).trans (fr j a0)
                    by_cases hf9 : ∀ j, j < (nr rv) → (fy) j ≤ 1000000
                    · obtain ⟨rfl, f43, ms8, f44, hm1, hm2⟩ := hfit hf9
                      refine ni_ge0 hx hb 206 dX6_fault_198 (by decide) (by omega) ?_
                      refine lv_iload hx hb dX6_fault_206 (lv_at hl 1 rfl) ?_
                      refine RET _ _ _ _ _ _ dX6_fault_208 rfl ?_ hH
                      have hFC : fltC (nr rv) (ar rv) w sz := flt_C (fun j hj => by rw [← hfl j hj]; exact hf9 j hj)
                      refine mod_row (n1 := nr rv) (a1 := flt (nr rv) (ar rv) w sz) rv2 (by unfold sp_fault; rw [if_pos ⟨(rng_iff (by omega)).mpr (by omega), (rng_iff (by omega)).mpr (by omega)⟩, tN_nI (by omega), tN_nI (by omega), if_pos hFC, k3, hqe2]) ⟨_, _, _, _, _, _, _, _, _, _, _, _, f36, f37, f38, f39, f40, f41, f42, f43, f44, f45, f46, f47, hrL, relR_up hrR hrok rv2 (fun r hr => by by_cases q : r = rv; rw [q, va_up_self, va_up_self]; rw [va_up_ne _ _ q, va_up_ne _ _ q]; exact hcn r hr) (fun j hj => ?_) (fun k hk => hm2 k (by omega)), hrS, hlok, rowsOk_up hrok (by omega) (flt_le (by omega) hFC hra9), hsok, hpm⟩ fr
                      rw [hm1 j hj]; exact hfl j hj
                    · obtain ⟨rfl, f43, f44⟩ := hnot hf9
                      rw [va_up_id] at f43
                      refine lv_if_ge (tgt := 206) hx hb dX6_fault_198 (by decide) (fun c198 => ?_) (fun c198 => ?_)
                      · exact absurd c198 (by decide)
                      · refine lv_bipush (v := (-6)) hx hb dX6_fault_201 (by decide) ?_
                        refine lv_goto (tgt := 208) hx hb dX6_fault_203 (by decide) ?_
                        refine RET _ _ _ _ _ _ dX6_fault_208 rfl ?_ hH
                        exact mod_same rv2 (by unfold sp_fault; rw [if_pos ⟨(rng_iff (by omega)).mpr (by omega), (rng_iff (by omega)).mpr (by omega)⟩, tN_nI (by omega), tN_nI (by omega), if_neg (fun z => hf9 (fun j hj => by rw [hfl j hj]; exact flt_le (by omega) z hra9 j hj))]) ⟨_, _, _, _, _, _, _, _, _, _, _, _, f36, f37, f38, f39, f40, f41, f42, f43, f44, f45, f46, f47, hrL, hrR, hrS, hlok, hrok, hsok, hpm⟩ fr
                  · have hq1 : q + 1 ≤ nr rv / w := (Nat.le_div_iff_mul_le (by omega)).mpr (by rw [Nat.succ_mul]; omega)
                    refine lv_iload hx hb dX6_fault_100 (lv_at hl 0 rfl) ?_
                    refine lv_istore (lv' := [(7, .int (nI t)), (6, .int (nI t)), (5, .int (nI T)), (4, .int (nI (w / 2))), (0, .ref (ad 36)), (1, .int (nI rv)), (2, .int (nI w)), (3, .int (nI sz))]) hx hb dX6_fault_102 hl (by decide) rfl (fun ls hl => ?_)
                    have L104 : ∀ (fu : Nat) (T : Nat) (u : Nat) (fz : Nat → Nat) (g3 : PF) (H : Heap) (locs : List Loc) (ls : Array Slot), (t ≤ u) → (u ≤ t + w / 2) → (T = fltS (nr rv) (ar rv) w sz q + sm (fun i => gvn (ar rv) sz (q * w + i)) (u - t)) → (∀ j, j < nr rv → fz j = if j < t then flt (nr rv) (ar rv) w sz j else if j < u ∨ (t + w / 2 ≤ j ∧ j < u + w / 2) then flt (nr rv) (ar rv) w sz j else ar rv j) → t + w / 2 - u < fu → WH X 48 ad (pA 48 ad s.heap.size) s g3 H locs → g3 36 = .inr (6, [.int (nI fa), .int (nI fb), .int (nI nm), .ref (ad 37), .ref (ad 38), .ref (ad 39), .ref (ad 40), .ref (ad 41), .ref (ad 42), .ref (ad 43), .ref (ad 44), .ref (ad 45), .int (nI nb), .ref (ad 46), .int (nI lay), .int (nI pm), .ref (ad 47), .int (nI tr)]) → g3 37 = arr X 6 md → g3 38 = arr X 6 ma → g3 39 = arr X 6 mb → g3 40 = arr X 6 ml → g3 41 = arr X 6 mr → g3 42 = arr X 18 mo → g3 43 = arr X 8 cn → g3 44 = arr X 3200 ms → g3 45 = arr X 400 fz → g3 46 = arr X 12 nn → g3 47 = arr X 12 pl → (∀ j, (j < 36) → g3 j = g j) → lv_has ls 9 [(7, .int (nI u)), (6, .int (nI t)), (5, .int (nI T)), (4, .int (nI (w / 2))), (0, .ref (ad 36)), (1, .int (nI rv)), (2, .int (nI w)), (3, .int (nI sz))] → W p l e zr3 s m ([.ref (ad 36), .int (nI rv), .int (nI w), .int (nI sz)] : List Value).toArray below meth c H locs 0 0 Q (F0 m 104 ls []) := by
                      intro fu
                      induction fu with
                      | zero =>
                        intro T u fz g3 H locs ls m1 m2 m4 m5 hm
                        exact absurd hm (Nat.not_lt_zero _)
                      | succ fu ih =>
                        have ih104 := ih; clear ih
                        intro T u fz g3 H locs ls m1 m2 m4 m5 hm104 hH f36 f37 f38 f39 f40 f41 f42 f43 f44 f45 f46 f47 fr hl
                        refine lv_iload hx hb dX6_fault_104 (lv_at hl 0 rfl) ?_
                        refine lv_iload hx hb dX6_fault_106 (lv_at hl 1 rfl) ?_
                        refine lv_iload hx hb dX6_fault_108 (lv_at hl 3 rfl) ?_
                        refine ni_iadd hx hb dX6_fault_110 ?_
                        refine ni_cge hx hb 178 dX6_fault_111 (by decide) (by omega) (by omega) (fun c111 => ?_) (fun c111 => ?_)
                        · refine lv_iload hx hb dX6_fault_178 (lv_at hl 1 rfl) ?_
                          refine lv_iload_n hx hb dX6_fault_180 rfl (lv_at hl 6 rfl) ?_
                          refine ni_iadd hx hb dX6_fault_181 ?_
                          refine lv_istore (lv' := [(6, .int (nI (t + w))), (7, .int (nI u)), (5, .int (nI T)), (4, .int (nI (w / 2))), (0, .ref (ad 36)), (1, .int (nI rv)), (2, .int (nI w)), (3, .int (nI sz))]) hx hb dX6_fault_182 hl (by decide) rfl (fun ls hl => ?_)
                          refine lv_goto (tgt := 87) hx hb dX6_fault_184 (by decide) ?_
                          exact ih87 T (t + w) (q + 1) fz _ _ _ ls (by rw [Nat.succ_mul, k1]) (by omega) (hq1) (by rw [m4, show u - t = w / 2 by omega]; rfl) (flt_next k1 (by omega) m5) (by omega) hH f36 f37 f38 f39 f40 f41 f42 f43 f44 f45 f46 f47 fr (lv_sub hl [0, 2, 3, 4, 5, 6, 7] rfl)
                        · have hxu : fz u = ar rv u := by rw [m5 u (by omega), if_neg (by omega), if_neg (by omega)]
                          have hxv : fz (u + w / 2) = ar rv (u + w / 2) := by rw [m5 (u + w / 2) (by omega), if_neg (by omega), if_neg (by omega)]
                          have hgu : ar rv u * sz / 1000 ≤ ar rv u := gvn_le (a := ar rv) (j := u) sz2
                          have hqu := hra9 u (by omega)
                          have hmu := Nat.mul_le_mul hqu sz2
                          refine lv_aload_n hx hb dX6_fault_114 rfl (lv_at hl 4 rfl) ?_
                          refine rp_get C0 FX hH 36 (by decide) (ci := 6) (k := 10) f36 rfl kiX6 (by decide) kf38 rfl dX6_fault_115 ?_
                          refine lv_sipush (v := nI 400) hx hb dX6_fault_118 (by decide) ?_
                          refine lv_iload_n hx hb dX6_fault_121 rfl (lv_at hl 5 rfl) ?_
                          refine ni_imul hx hb dX6_fault_122 ?_
                          refine lv_iload hx hb dX6_fault_123 (lv_at hl 0 rfl) ?_
                          refine ni_iadd hx hb dX6_fault_125 ?_
                          refine rp_iald C0 FX hH 44 (by decide) (v := ar rv u) f44 ((400 * rv) + u) (by omega) (by decide) (hms rv (by omega) _ (by omega)) dX6_fault_126 ?_
                          refine ni_i2l hx hb (by omega) dX6_fault_127 ?_
                          refine lv_iload_n hx hb dX6_fault_128 rfl (lv_at hl 7 rfl) ?_
                          refine ni_i2l hx hb (by omega) dX6_fault_129 ?_
                          refine ni_lmul hx hb dX6_fault_130 ?_
                          refine lv_ldc2 hx hb C0.2.2.2.1 kl71 dX6_fault_131 ?_
                          refine ni_ldiv hx hb (by omega) (by omega) (by omega) dX6_fault_134 ?_
                          refine ni_l2i hx hb dX6_fault_135 ?_
                          refine lv_istore (lv' := [(8, .int (nI (((ar rv u) * sz) / 1000))), (7, .int (nI u)), (6, .int (nI t)), (5, .int (nI T)), (4, .int (nI (w / 2))), (0, .ref (ad 36)), (1, .int (nI rv)), (2, .int (nI w)), (3, .int (nI sz))]) hx hb dX6_fault_136 hl (by decide) rfl (fun ls hl => ?_)
                          refine lv_aload_n hx hb dX6_fault_138 rfl (lv_at hl 5 rfl) ?_
                          refine rp_get C0 FX hH 36 (by decide) (ci := 6) (k := 11) f36 rfl kiX6 (by decide) kf41 rfl dX6_fault_139 ?_
                          refine lv_iload hx hb dX6_fault_142 (lv_at hl 1 rfl) ?_
                          refine lv_dup2_11 hx hb dX6_fault_144 rfl rfl ?_
                          refine rp_iald C0 FX hH 45 (by decide) (v := ar rv u) f45 u (by omega) (by decide) hxu dX6_fault_145 ?_
                          refine lv_iload hx hb dX6_fault_146 (lv_at hl 0 rfl) ?_
                          refine ni_isub hx hb (by omega) dX6_fault_148 ?_
                          refine rp_iast C0 FX hH 45 (by decide) f45 u ((ar rv u) - (((ar rv u) * sz) / 1000)) (by omega) (by decide) dX6_fault_149 (fun g4 H locs eq5 nq5 hH => ?_)
                          have f45 : g4 45 = arr X 400 (va_up fz u ((ar rv u) - (((ar rv u) * sz) / 1000))) := eq5
                          have f36 : g4 36 = .inr (6, [.int (nI fa), .int (nI fb), .int (nI nm), .ref (ad 37), .ref (ad 38), .ref (ad 39), .ref (ad 40), .ref (ad 41), .ref (ad 42), .ref (ad 43), .ref (ad 44), .ref (ad 45), .int (nI nb), .ref (ad 46), .int (nI lay), .int (nI pm), .ref (ad 47), .int (nI tr)]) := (nq5 _ (by omega)).trans f36
                          have f37 : g4 37 = arr X 6 md := (nq5 _ (by omega)).trans f37
                          have f38 : g4 38 = arr X 6 ma := (nq5 _ (by omega)).trans f38
                          have f39 : g4 39 = arr X 6 mb := (nq5 _ (by omega)).trans f39
                          have f40 : g4 40 = arr X 6 ml := (nq5 _ (by omega)).trans f40
                          have f41 : g4 41 = arr X 6 mr := (nq5 _ (by omega)).trans f41
                          have f42 : g4 42 = arr X 18 mo := (nq5 _ (by omega)).trans f42
                          have f43 : g4 43 = arr X 8 cn := (nq5 _ (by omega)).trans f43
                          have f44 : g4 44 = arr X 3200 ms := (nq5 _ (by omega)).trans f44
                          have f46 : g4 46 = arr X 12 nn := (nq5 _ (by omega)).trans f46
                          have f47 : g4 47 = arr X 12 pl := (nq5 _ (by omega)).trans f47
                          have fr : ∀ j, (j < 36) → g4 j = g j := fun j a0 => (nq5 j (by omega)).trans (fr j a0)
                          have hy149 : (va_up fz u ((ar rv u) - (((ar rv u) * sz) / 1000))) (u + w / 2) = ar rv (u + w / 2) := by rw [va_up_ne _ _ (by omega)]; exact hxv
                          refine lv_aload_n hx hb dX6_fault_150 rfl (lv_at hl 5 rfl) ?_
                          refine rp_get C0 FX hH 36 (by decide) (ci := 6) (k := 11) f36 rfl kiX6 (by decide) kf41 rfl dX6_fault_151 ?_
                          refine lv_iload hx hb dX6_fault_154 (lv_at hl 1 rfl) ?_
                          refine lv_iload hx hb dX6_fault_156 (lv_at hl 4 rfl) ?_
                          refine ni_iadd hx hb dX6_fault_158 ?_
                          refine lv_dup2_11 hx hb dX6_fault_159 rfl rfl ?_
                          refine rp_iald C0 FX hH 45 (by decide) (v := ar rv (u + w / 2)) f45 (u + (w / 2)) (by omega) (by decide) hy149 dX6_fault_160 ?_
                          refine lv_iload hx hb dX6_fault_161 (lv_at hl 0 rfl) ?_
                          refine ni_iadd hx hb dX6_fault_163 ?_
                          refine rp_iast C0 FX hH 45 (by decide) f45 (u + (w / 2)) ((ar rv (u + w / 2)) + (((ar rv u) * sz) / 1000)) (by omega) (by decide) dX6_fault_164 (fun g6 H locs eq7 nq7 hH => ?_)
                          have f45 : g6 45 = arr X 400 (va_up (va_up fz u ((ar rv u) - (((ar rv u) * sz) / 1000))) (u + (w / 2)) ((ar rv (u + w / 2)) + (((ar rv u) * sz) / 1000))) := eq7
                          have f36 : g6 36 = .inr (6, [.int (nI fa), .int (nI fb), .int (nI nm), .ref (ad 37), .ref (ad 38), .ref (ad 39), .ref (ad 40), .ref (ad 41), .ref (ad 42), .ref (ad 43), .ref (ad 44), .ref (ad 45), .int (nI nb), .ref (ad 46), .int (nI lay), .int (nI pm), .ref (ad 47), .int (nI tr)]) := (nq7 _ (by omega)).trans f36
                          have f37 : g6 37 = arr X 6 md := (nq7 _ (by omega)).trans f37
                          have f38 : g6 38 = arr X 6 ma := (nq7 _ (by omega)).trans f38
                          have f39 : g6 39 = arr X 6 mb := (nq7 _ (by omega)).trans f39
                          have f40 : g6 40 = arr X 6 ml := (nq7 _ (by omega)).trans f40
                          have f41 : g6 41 = arr X 6 mr := (nq7 _ (by omega)).trans f41
                          have f42 : g6 42 = arr X 18 mo := (nq7 _ (by omega)).trans f42
                          have f43 : g6 43 = arr X 8 cn := (nq7 _ (by omega)).trans f43
                          have f44 : g6 44 = arr X 3200 ms := (nq7 _ (by omega)).trans f44
                          have f46 : g6 46 = arr X 12 nn := (nq7 _ (by omega)).trans f46
                          have f47 : g6 47 = arr X 12 pl := (nq7 _ (by omega)).trans f47
                          have fr : ∀ j, (j < 36) → g6 j = g j := fun j a0 => (nq7 j (by omega)).trans (fr j a0)
                          refine lv_iload hx hb dX6_fault_165 (lv_at hl 3 rfl) ?_
                          refine lv_iload hx hb dX6_fault_167 (lv_at hl 0 rfl) ?_
                          refine ni_iadd hx hb dX6_fault_169 ?_
                          refine lv_istore (lv' := [(5, .int (nI (T + (((ar rv u) * sz) / 1000)))), (8, .int (nI (((ar rv u) * sz) / 1000))), (7, .int (nI u)), (6, .int (nI t)), (4, .int (nI (w / 2))), (0, .ref (ad 36)), (1, .int (nI rv)), (2, .int (nI w)), (3, .int (nI sz))]) hx hb dX6_fault_170 hl (by decide) rfl (fun ls hl => ?_)
                          refine lv_iinc (v := nI (u + 1)) (lv' := [(7, .int (nI (u + 1))), (5, .int (nI (T + (((ar rv u) * sz) / 1000)))), (8, .int (nI (((ar rv u) * sz) / 1000))), (6, .int (nI t)), (4, .int (nI (w / 2))), (0, .ref (ad 36)), (1, .int (nI rv)), (2, .int (nI w)), (3, .int (nI sz))]) hx hb dX6_fault_172 hl (k := 2) rfl (ni_inc1 _) (by decide) rfl (fun ls hl => ?_)
                          refine lv_goto (tgt := 104) hx hb dX6_fault_175 (by decide) ?_
                          exact ih104 (T + (((ar rv u) * sz) / 1000)) (u + 1) (va_up (va_up fz u ((ar rv u) - (((ar rv u) * sz) / 1000))) (u + (w / 2)) ((ar rv (u + w / 2)) + (((ar rv u) * sz) / 1000))) _ _ _ ls (by omega) (by omega) (by rw [m4, sm_up m1, show q * w + (u - t) = u by omega, Nat.add_assoc]; rfl) (flt_step k1 hq1 m1 c111 m5) (by omega) hH f36 f37 f38 f39 f40 f41 f42 f43 f44 f45 f46 f47 fr (lv_sub hl [0, 3, 1, 4, 5, 6, 7, 8] rfl)
                    exact L104 ((t + w / 2 - t) + 1) T t fy _ _ _ ls (by omega) (by omega) (by rw [k3, Nat.sub_self]; rfl) (fun j h => by rw [k5q j h]; by_cases z : j < t; rw [if_pos z, if_pos z]; rw [if_neg z, if_neg z, if_neg (by omega)]) (Nat.lt_succ_self _) hH f36 f37 f38 f39 f40 f41 f42 f43 f44 f45 f46 f47 fr (lv_sub hl [0, 1, 2, 3, 4, 5, 6, 7] rfl)
              exact L87 ((nr rv - 0) + 1) 0 0 0 fx _ _ _ ls (by rw [Nat.zero_mul]) (by omega) (Nat.zero_le _) (by rfl) (fun j h => by rw [if_neg (by omega)]; exact i6 j (by omega)) (Nat.lt_succ_self _) hH f36 f37 f38 f39 f40 f41 f42 f43 f44 f45 f46 f47 fr (lv_sub hl [0, 1, 2, 3, 4, 5, 6] rfl)
            · refine lv_aload_n hx hb dX6_fault_58 rfl (lv_at hl 3 rfl) ?_
              refine rp_get C0 FX hH 36 (by decide) (ci := 6) (k := 11) f36 rfl kiX6 (by decide) kf41 rfl dX6_fault_59 ?_
              refine lv_iload hx hb dX6_fault_62 (lv_at hl 0 rfl) ?_
              refine lv_aload_n hx hb dX6_fault_64 rfl (lv_at hl 3 rfl) ?_
              refine rp_get C0 FX hH 36 (by decide) (ci := 6) (k := 10) f36 rfl kiX6 (by decide) kf38 rfl dX6_fault_65 ?_
              refine lv_sipush (v := nI 400) hx hb dX6_fault_68 (by decide) ?_
              refine lv_iload_n hx hb dX6_fault_71 rfl (lv_at hl 4 rfl) ?_
              refine ni_imul hx hb dX6_fault_72 ?_
              refine lv_iload hx hb dX6_fault_73 (lv_at hl 0 rfl) ?_
              refine ni_iadd hx hb dX6_fault_75 ?_
              refine rp_iald C0 FX hH 44 (by decide) (v := ar rv i) f44 ((400 * rv) + i) (by omega) (by decide) (hms rv (by omega) _ (by omega)) dX6_fault_76 ?_
              refine rp_iast C0 FX hH 45 (by decide) f45 i (ar rv i) (by omega) (by decide) dX6_fault_77 (fun g8 H locs eq9 nq9 hH => ?_)
              have f45 : g8 45 = arr X 400 (va_up fx i (ar rv i)) := eq9
              have f36 : g8 36 = .inr (6, [.int (nI fa), .int (nI fb), .int (nI nm), .ref (ad 37), .ref (ad 38), .ref (ad 39), .ref (ad 40), .ref (ad 41), .ref (ad 42), .ref (ad 43), .ref (ad 44), .ref (ad 45), .int (nI nb), .ref (ad 46), .int (nI lay), .int (nI pm), .ref (ad 47), .int (nI tr)]) := (nq9 _ (by omega)).trans f36
              have f37 : g8 37 = arr X 6 md := (nq9 _ (by omega)).trans f37
              have f38 : g8 38 = arr X 6 ma := (nq9 _ (by omega)).trans f38
              have f39 : g8 39 = arr X 6 mb := (nq9 _ (by omega)).trans f39
              have f40 : g8 40 = arr X 6 ml := (nq9 _ (by omega)).trans f40
              have f41 : g8 41 = arr X 6 mr := (nq9 _ (by omega)).trans f41
              have f42 : g8 42 = arr X 18 mo := (nq9 _ (by omega)).trans f42
              have f43 : g8 43 = arr X 8 cn := (nq9 _ (by omega)).trans f43
              have f44 : g8 44 = arr X 3200 ms := (nq9 _ (by omega)).trans f44
              have f46 : g8 46 = arr X 12 nn := (nq9 _ (by omega)).trans f46
              have f47 : g8 47 = arr X 12 pl := (nq9 _ (by omega)).trans f47
              have fr : ∀ j, (j < 36) → g8 j = g j := fun j a0 => (nq9 j (by omega)).trans (fr j a0)
              refine lv_iinc (v := nI (i + 1)) (lv' := [(6, .int (nI (i + 1))), (5, .int (nI 0)), (4, .int (nI (w / 2))), (0, .ref (ad 36)), (1, .int (nI rv)), (2, .int (nI w)), (3, .int (nI sz))]) hx hb dX6_fault_78 hl (k := 0) rfl (ni_inc1 _) (by decide) rfl (fun ls hl => ?_)
              refine lv_goto (tgt := 47) hx hb dX6_fault_81 (by decide) ?_
              exact ih47 (i + 1) (va_up fx i (ar rv i)) _ _ _ ls (by omega) (fun j h => by by_cases q : j = i; rw [q, va_up_self]; rw [va_up_ne _ _ q]; exact i6 j (by omega)) (by omega) hH f36 f37 f38 f39 f40 f41 f42 f43 f44 f45 f46 f47 fr (lv_sub hl [0, 1, 2, 3, 4, 5, 6] rfl)
        exact L47 ((nr rv - 0) + 1) 0 fs _ _ _ ls (by omega) (fun j h => absurd h (Nat.not_lt_zero _)) (Nat.lt_succ_self _) hH f36 f37 f38 f39 f40 f41 f42 f43 f44 f45 f46 f47 fr (lv_sub hl [0, 1, 2, 3, 4, 5, 6] rfl)
      · refine lv_bipush (v := (-2)) hx hb dX6_fault_33 (by decide) ?_
        refine RET _ _ _ _ _ _ dX6_fault_35 rfl ?_ hH
        exact mod_same rv2 (by unfold sp_fault; rw [if_neg (fun z => by first | exact absurd z.1 (by assumption) | exact absurd z.2 (by assumption))]) ⟨_, _, _, _, _, _, _, _, _, _, _, _, f36, f37, f38, f39, f40, f41, f42, f43, f44, f45, f46, f47, hrL, hrR, hrS, hlok, hrok, hsok, hpm⟩ fr
