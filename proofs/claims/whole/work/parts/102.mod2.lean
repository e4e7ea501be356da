set_option maxHeartbeats 4000000 in
set_option maxRecDepth 100000 in
theorem k_X6_countOf (l : Launch) (X : Cx) (ad : Nat → Nat) (hi : inj 48 ad) (g : PF) (nm fa fb : Nat) (mc rd : Nat → Nat → Nat) (nr : Nat → Nat) (ar : Nat → Nat → Nat) (nb : Nat) (num : Nat → Nat) (lay pev : Nat) (pln : Nat → Nat) (tr : Nat) (hR : rMod X ad ((nm, fa, fb, mc, rd), nr, ar, (nb, num, lay, pev, pln, tr)) g) (kv : Nat) (hkv : kv ≤ nm) (q : Int32) : Kl l yX6_countOf wsX6_countOf zr1 X 48 ad g [.ref (ad 36), .int (nI kv), .int q] (fun r g' => g' = g ∧ r = sp_countOf kv q (nm, fa, fb, mc, rd)) := by
  refine Kl.of (cc := cX6_countOf) (maxL := 10) hi (by decide) rfl (Nat.le_of_ble_eq_true rfl) ?_
  intro p e s m below meth c Q E RET ls hl
  obtain ⟨C0, FX, hH⟩ := E
  have hx := C0.1
  have hb := C0.2.1
  have kl71 := C0.2.2.2.2 (.constantLong RX6 71 (lN 1000)) (by decide +kernel)
  have kl77 := C0.2.2.2.2 (.constantLong RX6 77 (lN 1000000000000)) (by decide +kernel)
  have kl79 := C0.2.2.2.2 (.constantLong RX6 79 (-6)) (by decide +kernel)
  have kiX6 : ∀ w ∈ u_ws RX6 TX6 18, w ∈ wsX6_countOf := (by decide +kernel)
  have kf13 : Cond.fieldLink RX6 13 "YarnMillModel" "below" "I" ∈ wsX6_countOf := (by decide +kernel)
  have kf16 : Cond.fieldLink RX6 16 "YarnMillModel" "doublings" "[I" ∈ wsX6_countOf := (by decide +kernel)
  have kf20 : Cond.fieldLink RX6 20 "YarnMillModel" "draftAbove" "[I" ∈ wsX6_countOf := (by decide +kernel)
  have kf23 : Cond.fieldLink RX6 23 "YarnMillModel" "draftBelow" "[I" ∈ wsX6_countOf := (by decide +kernel)
  have kf26 : Cond.fieldLink RX6 26 "YarnMillModel" "loss" "[I" ∈ wsX6_countOf := (by decide +kernel)
  have kf7 : Cond.fieldLink RX6 7 "YarnMillModel" "above" "I" ∈ wsX6_countOf := (by decide +kernel)
  have hl : lv_has ls 10 [(0, .ref (ad 36)), (1, .int (nI kv)), (2, .int q)] := hl
  obtain ⟨md, ma, mb, ml, mr, mo, cn, ms, fs, nn, pl, pm, f36, f37, f38, f39, f40, f41, f42, f43, f44, f45, f46, f47, hrL, hrR, hrS, hlok, hrok, hsok, hpm⟩ := hR
  have f36 : g 36 = .inr (6, [.int (nI fa), .int (nI fb), .int (nI nm), .ref (ad 37), .ref (ad 38), .ref (ad 39), .ref (ad 40), .ref (ad 41), .ref (ad 42), .ref (ad 43), .ref (ad 44), .ref (ad 45), .int (nI nb), .ref (ad 46), .int (nI lay), .int (nI pm), .ref (ad 47), .int (nI tr)]) := f36
  have hq37 : ∀ j, j < nm → md j = mc j 0 := fun j hj => (hrL.1 j hj).1
  have hq38 : ∀ j, j < nm → ma j = mc j 1 := fun j hj => (hrL.1 j hj).2.1
  have hq39 : ∀ j, j < nm → mb j = mc j 2 := fun j hj => (hrL.1 j hj).2.2.1
  have hq40 : ∀ j, j < nm → ml j = mc j 3 := fun j hj => (hrL.1 j hj).2.2.2.1
  have hq41 : ∀ j, j < nm → mr j = mc j 4 := fun j hj => (hrL.1 j hj).2.2.2.2
  have hmo : ∀ j, j < nm → ∀ r, r < mc j 4 → mo (3 * j + r) = rd j r := hrL.2
  have h6 : nm ≤ 6 := hlok.1
  have hfa : 1 ≤ fa ∧ fa ≤ 10000 := hlok.2.1
  have hfb : 1 ≤ fb ∧ fb ≤ 10000 := hlok.2.2.1
  have hmk : ∀ j, j < nm → mcOk (mc j) ∧ ∀ r, r < mc j 4 → 1 ≤ rd j r ∧ rd j r ≤ 1000 := hlok.2.2.2
  have hcn : ∀ r, r < 8 → cn r = nr r := hrR.1
  have hms : ∀ r, r < 8 → ∀ j, j < nr r → ms (400 * r + j) = ar r j := hrR.2
  have hro : ∀ r, r < 8 → nr r ≤ 400 ∧ ∀ j, j < nr r → ar r j ≤ 1000000 := hrok
  have hnn : ∀ j, j < nb → nn j = num j := hrS.1
  have hper : 0 < lay → pm = pev := hrS.2.1
  have hpl : ∀ j, j < lay * pev → pl j = pln j := hrS.2.2
  obtain ⟨k1, k2, k3, k4, k5, k6, k7⟩ := id hsok
  have k1 : nb ≤ 12 := k1
  have k2 : ∀ j, j < nb → num j ≤ 10000 := k2
  have k3 : 0 < lay → (1 ≤ pev ∧ pev ≤ 6) := k3
  have k4 : lay * pev ≤ 12 := k4
  have k5 : ∀ j, j < lay * pev → pln j ≤ 12 := k5
  have k6 : tr ≤ 100000 := k6
  have k7 : lay ≤ 12 := k7
  have hg0 := Nat.gcd_pos_of_pos_left fb (show 0 < fa by omega)
  have hg9 := Nat.gcd_le_left fb (show 0 < fa by omega)
  refine lv_aload_n hx hb dX6_countOf_0 rfl (lv_at hl 0 rfl) ?_
  refine rp_get C0 FX hH 36 (by decide) (ci := 6) (k := 0) f36 rfl kiX6 (by decide) kf7 rfl dX6_countOf_1 ?_
  refine ni_i2l hx hb (by omega) dX6_countOf_4 ?_
  refine lv_aload_n hx hb dX6_countOf_5 rfl (lv_at hl 0 rfl) ?_
  refine rp_get C0 FX hH 36 (by decide) (ci := 6) (k := 0) f36 rfl kiX6 (by decide) kf7 rfl dX6_countOf_6 ?_
  refine ni_i2l hx hb (by omega) dX6_countOf_9 ?_
  refine lv_aload_n hx hb dX6_countOf_10 rfl (lv_at hl 0 rfl) ?_
  refine rp_get C0 FX hH 36 (by decide) (ci := 6) (k := 1) f36 rfl kiX6 (by decide) kf13 rfl dX6_countOf_11 ?_
  refine ni_i2l hx hb (by omega) dX6_countOf_14 ?_
  refine rc_Sl (rest := [.long (lN fa)]) C0 FX hH (k_X6_common l X ad hi _ fa fb (by omega) (by omega)) (va_cwS 2 C0.2.2.2.2 gX6_countOf_X6_common rfl rfl rfl (by decide +kernel) ⟨Nat.le_of_ble_eq_true rfl, Nat.le_of_ble_eq_true rfl⟩) rfl rfl hl.1 (Nat.le_of_ble_eq_true rfl) dX6_countOf_15 ⟨Nat.le_of_ble_eq_true rfl, Nat.le_of_ble_eq_true rfl⟩ (fun r15 g15c H locs h15 hH => ?_)
  obtain ⟨e15, rfl⟩ := h15
  rw [e15] at hH
  refine ni_ldiv hx hb (by omega) (by omega) (by omega) dX6_countOf_18 ?_
  refine lv_lstore_n (lv' := [(3, .long (lN (fa / (Nat.gcd fa fb)))), (0, .ref (ad 36)), (1, .int (nI kv)), (2, .int q)]) hx hb dX6_countOf_19 rfl hl (by decide) rfl (fun ls hl => ?_)
  refine lv_aload_n hx hb dX6_countOf_20 rfl (lv_at hl 1 rfl) ?_
  refine rp_get C0 FX hH 36 (by decide) (ci := 6) (k := 1) f36 rfl kiX6 (by decide) kf13 rfl dX6_countOf_21 ?_
  refine ni_i2l hx hb (by omega) dX6_countOf_24 ?_
  refine lv_aload_n hx hb dX6_countOf_25 rfl (lv_at hl 1 rfl) ?_
  refine rp_get C0 FX hH 36 (by decide) (ci := 6) (k := 0) f36 rfl kiX6 (by decide) kf7 rfl dX6_countOf_26 ?_
  refine ni_i2l hx hb (by omega) dX6_countOf_29 ?_
  refine lv_aload_n hx hb dX6_countOf_30 rfl (lv_at hl 1 rfl) ?_
  refine rp_get C0 FX hH 36 (by decide) (ci := 6) (k := 1) f36 rfl kiX6 (by decide) kf13 rfl dX6_countOf_31 ?_
  refine ni_i2l hx hb (by omega) dX6_countOf_34 ?_
  refine rc_Sl (rest := [.long (lN fb)]) C0 FX hH (k_X6_common l X ad hi _ fa fb (by omega) (by omega)) (va_cwS 2 C0.2.2.2.2 gX6_countOf_X6_common rfl rfl rfl (by decide +kernel) ⟨Nat.le_of_ble_eq_true rfl, Nat.le_of_ble_eq_true rfl⟩) rfl rfl hl.1 (Nat.le_of_ble_eq_true rfl) dX6_countOf_35 ⟨Nat.le_of_ble_eq_true rfl, Nat.le_of_ble_eq_true rfl⟩ (fun r35 g35c H locs h35 hH => ?_)
  obtain ⟨e35, rfl⟩ := h35
  rw [e35] at hH
  refine ni_ldiv hx hb (by omega) (by omega) (by omega) dX6_countOf_38 ?_
  refine lv_lstore (lv' := [(5, .long (lN (fb / (Nat.gcd fa fb)))), (3, .long (lN (fa / (Nat.gcd fa fb)))), (0, .ref (ad 36)), (1, .int (nI kv)), (2, .int q)]) hx hb dX6_countOf_39 hl (by decide) rfl (fun ls hl => ?_)
  refine lv_iconst (v := nI 0) hx hb dX6_countOf_41 (by decide) ?_
  refine lv_istore (lv' := [(7, .int (nI 0)), (5, .long (lN (fb / (Nat.gcd fa fb)))), (3, .long (lN (fa / (Nat.gcd fa fb)))), (0, .ref (ad 36)), (1, .int (nI kv)), (2, .int q)]) hx hb dX6_countOf_42 hl (by decide) rfl (fun ls hl => ?_)
  have L44 : ∀ (fu : Nat) (x : Nat) (y : Nat) (i : Nat) (H : Heap) (locs : List Loc) (ls : Array Slot), (i ≤ kv) → (okc (nm, fa, fb, mc, rd) i) → ((x, y) = cnt (nm, fa, fb, mc, rd) i) → kv - i < fu → WH X 48 ad (pA 48 ad s.heap.size) s g H locs → lv_has ls 10 [(7, .int (nI i)), (5, .long (lN y)), (3, .long (lN x)), (0, .ref (ad 36)), (1, .int (nI kv)), (2, .int q)] → W p l e zr1 s m ([.ref (ad 36), .int (nI kv), .int q] : List Value).toArray below meth c H locs 0 0 Q (F0 m 44 ls []) := by
    intro fu
    induction fu with
    | zero =>
      intro x y i H locs ls i1 i2 i3 hm
      exact absurd hm (Nat.not_lt_zero _)
    | succ fu ih =>
      have ih44 := ih; clear ih
      intro x y i H locs ls i1 i2 i3 hm44 hH hl
      refine lv_iload hx hb dX6_countOf_44 (lv_at hl 0 rfl) ?_
      refine lv_iload_n hx hb dX6_countOf_46 rfl (lv_at hl 4 rfl) ?_
      refine ni_cge hx hb 147 dX6_countOf_47 (by decide) (by omega) (by omega) (fun c47 => ?_) (fun c47 => ?_)
      · refine lv_iload_n hx hb dX6_countOf_147 rfl (lv_at hl 5 rfl) ?_
        refine lv_if_ne (tgt := 155) hx hb dX6_countOf_148 (by decide) (fun c148 => ?_) (fun c148 => ?_)
        · refine lv_lload hx hb dX6_countOf_155 (lv_at hl 1 rfl) ?_
          refine RET _ _ _ _ _ _ dX6_countOf_157 ?_ hH
          refine ⟨rfl, ?_⟩
          unfold sp_countOf
          rw [show kv = i by omega, if_pos i2, ← i3, if_neg (show ¬ q = nI 0 from c148)]
        · refine lv_lload_n hx hb dX6_countOf_151 rfl (lv_at hl 2 rfl) ?_
          refine lv_goto (tgt := 157) hx hb dX6_countOf_152 (by decide) ?_
          refine RET _ _ _ _ _ _ dX6_countOf_157 ?_ hH
          refine ⟨rfl, ?_⟩
          unfold sp_countOf
          rw [show kv = i by omega, if_pos i2, ← i3, if_pos (show q = nI 0 from c148)]
      · have hcp := cnt_pos hlok i (by show i ≤ nm; omega)
        have hcl := cnt_le hlok (k := i) i2
        rw [← i3] at hcp hcl
        obtain ⟨hcp1, hcp2⟩ := hcp
        obtain ⟨hcl1, hcl2⟩ := hcl
        have hcp1 : 0 < x := hcp1
        have hcp2 : 0 < y := hcp2
        have hcl1 : x ≤ 1000000000000 := hcl1
        have hcl2 : y ≤ 1000000000000 := hcl2
        have hmo9 := (hmk i (by omega)).1
        have hfac := fac_in hmo9
        obtain ⟨⟨o1, o2⟩, ⟨o3, o4⟩, ⟨o5, o6⟩, o7, o8⟩ := id hmo9
        have hUb := Nat.mul_le_mul hcl1 hfac.1.2
        have hVb := Nat.mul_le_mul hcl2 hfac.2.2
        have hUp := Nat.mul_pos hcp1 hfac.1.1
        have hg1 := Nat.gcd_pos_of_pos_left (y * (1000 * mc i 1)) hUp
        have hg2 := Nat.gcd_le_left (y * (1000 * mc i 1)) hUp
        have hd1 := Nat.div_le_self (x * (mc i 0 * (1000 - mc i 3) * mc i 2)) (Nat.gcd (x * (mc i 0 * (1000 - mc i 3) * mc i 2)) (y * (1000 * mc i 1)))
        have hd2 := Nat.div_le_self (y * (1000 * mc i 1)) (Nat.gcd (x * (mc i 0 * (1000 - mc i 3) * mc i 2)) (y * (1000 * mc i 1)))
        have hc1 : cnt (nm, fa, fb, mc, rd) (i + 1) = ((x * (mc i 0 * (1000 - mc i 3) * mc i 2)) / Nat.gcd (x * (mc i 0 * (1000 - mc i 3) * mc i 2)) (y * (1000 * mc i 1)), (y * (1000 * mc i 1)) / Nat.gcd (x * (mc i 0 * (1000 - mc i 3) * mc i 2)) (y * (1000 * mc i 1))) := by show lt2 ((cnt (nm, fa, fb, mc, rd) i).1 * _) ((cnt (nm, fa, fb, mc, rd) i).2 * _) = _; rw [← i3]; rfl
        refine lv_lload_n hx hb dX6_countOf_50 rfl (lv_at hl 2 rfl) ?_
        refine lv_aload_n hx hb dX6_countOf_51 rfl (lv_at hl 3 rfl) ?_
        refine rp_get C0 FX hH 36 (by decide) (ci := 6) (k := 3) f36 rfl kiX6 (by decide) kf16 rfl dX6_countOf_52 ?_
        refine lv_iload hx hb dX6_countOf_55 (lv_at hl 0 rfl) ?_
        refine rp_iald C0 FX hH 37 (by decide) (v := mc i 0) f37 i (by omega) (by decide) (hq37 _ (by omega)) dX6_countOf_57 ?_
        refine ni_i2l hx hb (by omega) dX6_countOf_58 ?_
        refine lv_ldc2 hx hb C0.2.2.2.1 kl71 dX6_countOf_59 ?_
        refine lv_aload_n hx hb dX6_countOf_62 rfl (lv_at hl 3 rfl) ?_
        refine rp_get C0 FX hH 36 (by decide) (ci := 6) (k := 6) f36 rfl kiX6 (by decide) kf26 rfl dX6_countOf_63 ?_
        refine lv_iload hx hb dX6_countOf_66 (lv_at hl 0 rfl) ?_
        refine rp_iald C0 FX hH 40 (by decide) (v := mc i 3) f40 i (by omega) (by decide) (hq40 _ (by omega)) dX6_countOf_68 ?_
        refine ni_i2l hx hb (by omega) dX6_countOf_69 ?_
        refine ni_lsub hx hb (by omega) dX6_countOf_70 ?_
        refine ni_lmul hx hb dX6_countOf_71 ?_
        refine lv_aload_n hx hb dX6_countOf_72 rfl (lv_at hl 3 rfl) ?_
        refine rp_get C0 FX hH 36 (by decide) (ci := 6) (k := 5) f36 rfl kiX6 (by decide) kf23 rfl dX6_countOf_73 ?_
        refine lv_iload hx hb dX6_countOf_76 (lv_at hl 0 rfl) ?_
        refine rp_iald C0 FX hH 39 (by decide) (v := mc i 2) f39 i (by omega) (by decide) (hq39 _ (by omega)) dX6_countOf_78 ?_
        refine ni_i2l hx hb (by omega) dX6_countOf_79 ?_
        refine ni_lmul hx hb dX6_countOf_80 ?_
        refine ni_lmul hx hb dX6_countOf_81 ?_
        refine lv_lstore_n (lv' := [(3, .long (lN (x * (((mc i 0) * (1000 - (mc i 3))) * (mc i 2))))), (7, .int (nI i)), (5, .long (lN y)), (0, .ref (ad 36)), (1, .int (nI kv)), (2, .int q)]) hx hb dX6_countOf_82 rfl hl (by decide) rfl (fun ls hl => ?_)
        refine lv_lload hx hb dX6_countOf_83 (lv_at hl 2 rfl) ?_
        refine lv_ldc2 hx hb C0.2.2.2.1 kl71 dX6_countOf_85 ?_
        refine lv_aload_n hx hb dX6_countOf_88 rfl (lv_at hl 3 rfl) ?_
        refine rp_get C0 FX hH 36 (by decide) (ci := 6) (k := 4) f36 rfl kiX6 (by decide) kf20 rfl dX6_countOf_89 ?_
        refine lv_iload hx hb dX6_countOf_92 (lv_at hl 1 rfl) ?_
        refine rp_iald C0 FX hH 38 (by decide) (v := mc i 1) f38 i (by omega) (by decide) (hq38 _ (by omega)) dX6_countOf_94 ?_
        refine ni_i2l hx hb (by omega) dX6_countOf_95 ?_
        refine ni_lmul hx hb dX6_countOf_96 ?_
        refine ni_lmul hx hb dX6_countOf_97 ?_
        refine lv_lstore (lv' := [(5, .long (lN (y * (1000 * (mc i 1))))), (3, .long (lN (x * (((mc i 0) * (1000 - (mc i 3))) * (mc i 2))))), (7, .int (nI i)), (0, .ref (ad 36)), (1, .int (nI kv)), (2, .int q)]) hx hb dX6_countOf_98 hl (by decide) rfl (fun ls hl => ?_)
        refine lv_lload_n hx hb dX6_countOf_100 rfl (lv_at hl 1 rfl) ?_
        refine lv_lload hx hb dX6_countOf_101 (lv_at hl 0 rfl) ?_
        refine rc_Sl (rest := []) C0 FX hH (k_X6_common l X ad hi _ (x * (((mc i 0) * (1000 - (mc i 3))) * (mc i 2))) (y * (1000 * (mc i 1))) (by omega) (by omega)) (va_cwS 2 C0.2.2.2.2 gX6_countOf_X6_common rfl rfl rfl (by decide +kernel) ⟨Nat.le_of_ble_eq_true rfl, Nat.le_of_ble_eq_true rfl⟩) rfl rfl hl.1 (Nat.le_of_ble_eq_true rfl) dX6_countOf_103 ⟨Nat.le_of_ble_eq_true rfl, Nat.le_of_ble_eq_true rfl⟩ (fun r103 g103c H locs h103 hH => ?_)
        obtain ⟨e103, rfl⟩ := h103
        rw [e103] at hH
        refine lv_lstore (lv' := [(8, .long (lN (Nat.gcd (x * (((mc i 0) * (1000 - (mc i 3))) * (mc i 2))) (y * (1000 * (mc i 1)))))), (5, .long (lN (y * (1000 * (mc i 1))))), (3, .long (lN (x * (((mc i 0) * (1000 - (mc i 3))) * (mc i 2))))), (7, .int (nI i)), (0, .ref (ad 36)), (1, .int (nI kv)), (2, .int q)]) hx hb dX6_countOf_106 hl (by decide) rfl (fun ls hl => ?_)
        refine lv_lload_n hx hb dX6_countOf_108 rfl (lv_at hl 2 rfl) ?_
        refine lv_lload hx hb dX6_countOf_109 (lv_at hl 0 rfl) ?_
        refine ni_ldiv hx hb (by omega) (by omega) (by omega) dX6_countOf_111 ?_
        refine lv_lstore_n (lv' := [(3, .long (lN ((x * (((mc i 0) * (1000 - (mc i 3))) * (mc i 2))) / (Nat.gcd (x * (((mc i 0) * (1000 - (mc i 3))) * (mc i 2))) (y * (1000 * (mc i 1))))))), (8, .long (lN (Nat.gcd (x * (((mc i 0) * (1000 - (mc i 3))) * (mc i 2))) (y * (1000 * (mc i 1)))))), (5, .long (lN (y * (1000 * (mc i 1))))), (7, .int (nI i)), (0, .ref (ad 36)), (1, .int (nI kv)), (2, .int q)]) hx hb dX6_countOf_112 rfl hl (by decide) rfl (fun ls hl => ?_)
        refine lv_lload hx hb dX6_countOf_113 (lv_at hl 2 rfl) ?_
        refine lv_lload hx hb dX6_countOf_115 (lv_at hl 1 rfl) ?_
        refine ni_ldiv hx hb (by omega) (by omega) (by omega) dX6_countOf_117 ?_
        refine lv_lstore (lv' := [(5, .long (lN ((y * (1000 * (mc i 1))) / (Nat.gcd (x * (((mc i 0) * (1000 - (mc i 3))) * (mc i 2))) (y * (1000 * (mc i 1))))))), (3, .long (lN ((x * (((mc i 0) * (1000 - (mc i 3))) * (mc i 2))) / (Nat.gcd (x * (((mc i 0) * (1000 - (mc i 3))) * (mc i 2))) (y * (1000 * (mc i 1))))))), (8, .long (lN (Nat.gcd (x * (((mc i 0) * (1000 - (mc i 3))) * (mc i 2))) (y * (1000 * (mc i 1)))))), (7, .int (nI i)), (0, .ref (ad 36)), (1, .int (nI kv)), (2, .int q)]) hx hb dX6_countOf_118 hl (by decide) rfl (fun ls hl => ?_)
        refine lv_lload_n hx hb dX6_countOf_120 rfl (lv_at hl 1 rfl) ?_
        refine lv_ldc2 hx hb C0.2.2.2.1 kl77 dX6_countOf_121 ?_
        refine nl_gt hx hb 137 dX6_countOf_124 dX6_countOf_125 (by decide) (by omega) (by omega) (fun c124 => ?_) (fun c124 => ?_)
        · refine lv_ldc2 hx hb C0.2.2.2.1 kl79 dX6_countOf_137 ?_
          refine RET _ _ _ _ _ _ dX6_countOf_140 ?_ hH
          refine ⟨rfl, ?_⟩
          unfold sp_countOf
          rw [if_neg (fun z => by have z2 := z i c47; rw [hc1] at z2; exact absurd z2.1 (Nat.not_le.mpr c124))]
        · refine lv_lload hx hb dX6_countOf_128 (lv_at hl 0 rfl) ?_
          refine lv_ldc2 hx hb C0.2.2.2.1 kl77 dX6_countOf_130 ?_
          refine nl_le hx hb 141 dX6_countOf_133 dX6_countOf_134 (by decide) (by omega) (by omega) (fun c133 => ?_) (fun c133 => ?_)
          · refine lv_iinc (v := nI (i + 1)) (lv' := [(7, .int (nI (i + 1))), (5, .long (lN ((y * (1000 * (mc i 1))) / (Nat.gcd (x * (((mc i 0) * (1000 - (mc i 3))) * (mc i 2))) (y * (1000 * (mc i 1))))))), (3, .long (lN ((x * (((mc i 0) * (1000 - (mc i 3))) * (mc i 2))) / (Nat.gcd (x * (((mc i 0) * (1000 - (mc i 3))) * (mc i 2))) (y * (1000 * (mc i 1))))))), (8, .long (lN (Nat.gcd (x * (((mc i 0) * (1000 - (mc i 3))) * (mc i 2))) (y * (1000 * (mc i 1)))))), (0, .ref (ad 36)), (1, .int (nI kv)), (2, .int q)]) hx hb dX6_countOf_141 hl (k := 3) rfl (ni_inc1 _) (by decide) rfl (fun ls hl => ?_)
            refine lv_goto (tgt := 44) hx hb dX6_countOf_144 (by decide) ?_
            exact ih44 ((x * (((mc i 0) * (1000 - (mc i 3))) * (mc i 2))) / (Nat.gcd (x * (((mc i 0) * (1000 - (mc i 3))) * (mc i 2))) (y * (1000 * (mc i 1))))) ((y * (1000 * (mc i 1))) / (Nat.gcd (x * (((mc i 0) * (1000 - (mc i 3))) * (mc i 2))) (y * (1000 * (mc i 1))))) (i + 1) _ _ ls (by omega) (fun j h => by rcases Nat.lt_succ_iff_lt_or_eq.mp h with z | z; exact i2 j z; subst z; rw [hc1]; exact ⟨c124, c133⟩) (hc1.symm) (by omega) hH (lv_sub hl [0, 1, 2, 4, 5, 6] rfl)
          · refine lv_ldc2 hx hb C0.2.2.2.1 kl79 dX6_countOf_137 ?_
            refine RET _ _ _ _ _ _ dX6_countOf_140 ?_ hH
            refine ⟨rfl, ?_⟩
            unfold sp_countOf
            rw [if_neg (fun z => by have z2 := z i c47; rw [hc1] at z2; exact absurd z2.2 (Nat.not_le.mpr c133))]
  exact L44 ((kv - 0) + 1) (fa / (Nat.gcd fa fb)) (fb / (Nat.gcd fa fb)) 0 _ _ ls (by omega) (fun j h => absurd h (Nat.not_lt_zero _)) (by rfl) (Nat.lt_succ_self _) hH (lv_sub hl [0, 1, 2, 3, 4, 5] rfl)
set_option maxHeartbeats 4000000 in
set_option maxRecDepth 100000 in
theorem k_X6_countAt (l : Launch) (X : Cx) (ad : Nat → Nat) (hi : inj 48 ad) (g : PF) (nm fa fb : Nat) (mc rd : Nat → Nat → Nat) (nr : Nat → Nat) (ar : Nat → Nat → Nat) (nb : Nat) (num : Nat → Nat) (lay pev : Nat) (pln : Nat → Nat) (tr : Nat) (hR : rMod X ad ((nm, fa, fb, mc, rd), nr, ar, (nb, num, lay, pev, pln, tr)) g) (p0 p1 : Int32) : Kl l yX6_countAt wsX6_countAt zr2 X 48 ad g [.ref (ad 36), .int p0, .int p1] (fun r g' => g' = g ∧ r = sp_countAt p0 p1 (nm, fa, fb, mc, rd)) := by
  refine Kl.of (cc := cX6_countAt) (maxL := 3) hi (by decide) rfl (Nat.le_of_ble_eq_true rfl) ?_
  intro p e s m below meth c Q E RET ls hl
  obtain ⟨C0, FX, hH⟩ := E
  have hx := C0.1
  have hb := C0.2.1
  have kl85 := C0.2.2.2.2 (.constantLong RX6 85 (-2)) (by decide +kernel)
  have kiX6 : ∀ w ∈ u_ws RX6 TX6 18, w ∈ wsX6_countAt := (by decide +kernel)
  have kf64 : Cond.fieldLink RX6 64 "YarnMillModel" "machines" "I" ∈ wsX6_countAt := (by decide +kernel)
  have hl : lv_has ls 3 [(0, .ref (ad 36)), (1, .int p0), (2, .int p1)] := hl
  obtain ⟨md, ma, mb, ml, mr, mo, cn, ms, fs, nn, pl, pm, f36, f37, f38, f39, f40, f41, f42, f43, f44, f45, f46, f47, hrL, hrR, hrS, hlok, hrok, hsok, hpm⟩ := hR
  have f36 : g 36 = .inr (6, [.int (nI fa), .int (nI fb), .int (nI nm), .ref (ad 37), .ref (ad 38), .ref (ad 39), .ref (ad 40), .ref (ad 41), .ref (ad 42), .ref (ad 43), .ref (ad 44), .ref (ad 45), .int (nI nb), .ref (ad 46), .int (nI lay), .int (nI pm), .ref (ad 47), .int (nI tr)]) := f36
  have hq37 : ∀ j, j < nm → md j = mc j 0 := fun j hj => (hrL.1 j hj).1
  have hq38 : ∀ j, j < nm → ma j = mc j 1 := fun j hj => (hrL.1 j hj).2.1
  have hq39 : ∀ j, j < nm → mb j = mc j 2 := fun j hj => (hrL.1 j hj).2.2.1
  have hq40 : ∀ j, j < nm → ml j = mc j 3 := fun j hj => (hrL.1 j hj).2.2.2.1
  have hq41 : ∀ j, j < nm → mr j = mc j 4 := fun j hj => (hrL.1 j hj).2.2.2.2
  have hmo : ∀ j, j < nm → ∀ r, r < mc j 4 → mo (3 * j + r) = rd j r := hrL.2
  have h6 : nm ≤ 6 := hlok.1
  have hfa : 1 ≤ fa ∧ fa ≤ 10000 := hlok.2.1
  have hfb : 1 ≤ fb ∧ fb ≤ 10000 := hlok.2.2.1
  have hmk : ∀ j, j < nm → mcOk (mc j) ∧ ∀ r, r < mc j 4 → 1 ≤ rd j r ∧ rd j r ≤ 1000 := hlok.2.2.2
  have hcn : ∀ r, r < 8 → cn r = nr r := hrR.1
  have hms : ∀ r, r < 8 → ∀ j, j < nr r → ms (400 * r + j) = ar r j := hrR.2
  have hro : ∀ r, r < 8 → nr r ≤ 400 ∧ ∀ j, j < nr r → ar r j ≤ 1000000 := hrok
  have hnn : ∀ j, j < nb → nn j = num j := hrS.1
  have hper : 0 < lay → pm = pev := hrS.2.1
  have hpl : ∀ j, j < lay * pev → pl j = pln j := hrS.2.2
  obtain ⟨k1, k2, k3, k4, k5, k6, k7⟩ := id hsok
  have k1 : nb ≤ 12 := k1
  have k2 : ∀ j, j < nb → num j ≤ 10000 := k2
  have k3 : 0 < lay → (1 ≤ pev ∧ pev ≤ 6) := k3
  have k4 : lay * pev ≤ 12 := k4
  have k5 : ∀ j, j < lay * pev → pln j ≤ 12 := k5
  have k6 : tr ≤ 100000 := k6
  have k7 : lay ≤ 12 := k7
  refine lv_iload_n hx hb dX6_countAt_0 rfl (lv_at hl 1 rfl) ?_
  refine lv_i2l hx hb dX6_countAt_1 rfl ?_
  refine lv_lconst (v := lN 0) hx hb dX6_countAt_2 (by decide) ?_
  refine lv_aload_n hx hb dX6_countAt_3 rfl (lv_at hl 0 rfl) ?_
  refine rp_get C0 FX hH 36 (by decide) (ci := 6) (k := 2) f36 rfl kiX6 (by decide) kf64 rfl dX6_countAt_4 ?_
  refine ni_i2l hx hb (by omega) dX6_countAt_7 ?_
  refine rc_Si (rest := []) C0 FX hH (k_X6_in_rng l X ad hi _ p0 0 nm (by omega) (by omega)) (va_cwS 3 C0.2.2.2.2 gX6_countAt_X6_in rfl rfl rfl (by decide +kernel) ⟨Nat.le_of_ble_eq_true rfl, Nat.le_of_ble_eq_true rfl⟩) rfl rfl hl.1 (Nat.le_of_ble_eq_true rfl) dX6_countAt_8 ⟨Nat.le_of_ble_eq_true rfl, Nat.le_of_ble_eq_true rfl⟩ (fun r8 g8c H locs h8 hH => ?_)
  obtain ⟨e8, rfl⟩ := h8
  rw [e8] at hH
  refine rb_eq hx hb 33 dX6_countAt_11 (by decide) (fun c11 => ?_) (fun c11 => ?_)
  · refine lv_ldc2 hx hb C0.2.2.2.1 kl85 dX6_countAt_33 ?_
    refine RET _ _ _ _ _ _ dX6_countAt_36 ?_ hH
    refine ⟨rfl, ?_⟩
    unfold sp_countAt
    rw [if_neg (fun z => by first | exact absurd z.1 (by assumption) | exact absurd z.2 (by assumption))]
  · obtain ⟨kv, rfl, kv1, kv2, kv3⟩ := rng_nI c11
    refine lv_iload_n hx hb dX6_countAt_14 rfl (lv_at hl 2 rfl) ?_
    refine lv_i2l hx hb dX6_countAt_15 rfl ?_
    refine lv_lconst (v := lN 0) hx hb dX6_countAt_16 (by decide) ?_
    refine lv_lconst (v := lN 1) hx hb dX6_countAt_17 (by decide) ?_
    refine rc_Si (rest := []) C0 FX hH (k_X6_in_rng l X ad hi _ p1 0 1 (by omega) (by omega)) (va_cwS 3 C0.2.2.2.2 gX6_countAt_X6_in rfl rfl rfl (by decide +kernel) ⟨Nat.le_of_ble_eq_true rfl, Nat.le_of_ble_eq_true rfl⟩) rfl rfl hl.1 (Nat.le_of_ble_eq_true rfl) dX6_countAt_18 ⟨Nat.le_of_ble_eq_true rfl, Nat.le_of_ble_eq_true rfl⟩ (fun r18 g18c H locs h18 hH => ?_)
    obtain ⟨e18, rfl⟩ := h18
    rw [e18] at hH
    refine rb_eq hx hb 33 dX6_countAt_21 (by decide) (fun c21 => ?_) (fun c21 => ?_)
    · refine lv_ldc2 hx hb C0.2.2.2.1 kl85 dX6_countAt_33 ?_
      refine RET _ _ _ _ _ _ dX6_countAt_36 ?_ hH
      refine ⟨rfl, ?_⟩
      unfold sp_countAt
      rw [if_neg (fun z => by first | exact absurd z.1 (by assumption) | exact absurd z.2 (by assumption))]
    · obtain ⟨wv, rfl, wv1, wv2, wv3⟩ := rng_nI c21
      refine lv_aload_n hx hb dX6_countAt_24 rfl (lv_at hl 0 rfl) ?_
      refine lv_iload_n hx hb dX6_countAt_25 rfl (lv_at hl 1 rfl) ?_
      refine lv_iload_n hx hb dX6_countAt_26 rfl (lv_at hl 2 rfl) ?_
      refine rc_Vl (rest := []) C0 FX hH 36 (by decide) f36 rfl (k_X6_countOf l X ad hi _ nm fa fb mc rd nr ar nb num lay pev pln tr ⟨_, _, _, _, _, _, _, _, _, _, _, _, f36, f37, f38, f39, f40, f41, f42, f43, f44, f45, f46, f47, hrL, hrR, hrS, hlok, hrok, hsok, hpm⟩ kv (by omega) (nI wv)) (cwV 2 C0.2.2.2.2 gX6_countAt_X6_countOf rfl rfl rfl (by decide +kernel) ⟨Nat.le_of_ble_eq_true rfl, Nat.le_of_ble_eq_true rfl⟩) rfl rfl hl.1 (Nat.le_of_ble_eq_true rfl) dX6_countAt_27 ⟨Nat.le_of_ble_eq_true rfl, Nat.le_of_ble_eq_true rfl⟩ (fun r27 g27c H locs h27 hH => ?_)
      obtain ⟨e27, rfl⟩ := h27
      rw [e27] at hH
      refine lv_goto (tgt := 36) hx hb dX6_countAt_30 (by decide) ?_
      refine RET _ _ _ _ _ _ dX6_countAt_36 ?_ hH
      refine ⟨rfl, ?_⟩
      unfold sp_countAt
      rw [if_pos (show rng (nI kv) 0 nm ∧ rng (nI wv) 0 1 from ⟨(rng_iff (by omega)).mpr (by omega), (rng_iff (by omega)).mpr (by omega)⟩), tN_nI (by omega)]
set_option maxHeartbeats 4000000 in
set_option maxRecDepth 100000 in
theorem k_X6_periodOf (l : Launch) (X : Cx) (ad : Nat → Nat) (hi : inj 48 ad) (g : PF) (nm fa fb : Nat) (mc rd : Nat → Nat → Nat) (nr : Nat → Nat) (ar : Nat → Nat → Nat) (nb : Nat) (num : Nat → Nat) (lay pev : Nat) (pln : Nat → Nat) (tr : Nat) (hR : rMod X ad ((nm, fa, fb, mc, rd), nr, ar, (nb, num, lay, pev, pln, tr)) g) (mv rv : Nat) (hmv : mv < nm) (hrv : rv < mc mv 4) (q : Int32) : Kl l yX6_periodOf wsX6_periodOf zr1 X 48 ad g [.ref (ad 36), .int (nI mv), .int (nI rv), .int q] (fun r g' => g' = g ∧ r = if q = nI 0 then lN (per (nm, fa, fb, mc, rd) mv rv).1 else lN (per (nm, fa, fb, mc, rd) mv rv).2) := by
  refine Kl.of (cc := cX6_periodOf) (maxL := 11) hi (by decide) rfl (Nat.le_of_ble_eq_true rfl) ?_
  intro p e s m below meth c Q E RET ls hl
  obtain ⟨C0, FX, hH⟩ := E
  have hx := C0.1
  have hb := C0.2.1
  have kiX6 : ∀ w ∈ u_ws RX6 TX6 18, w ∈ wsX6_periodOf := (by decide +kernel)
  have kf20 : Cond.fieldLink RX6 20 "YarnMillModel" "draftAbove" "[I" ∈ wsX6_periodOf := (by decide +kernel)
  have kf23 : Cond.fieldLink RX6 23 "YarnMillModel" "draftBelow" "[I" ∈ wsX6_periodOf := (by decide +kernel)
  have kf32 : Cond.fieldLink RX6 32 "YarnMillModel" "round" "[I" ∈ wsX6_periodOf := (by decide +kernel)
  have kf64 : Cond.fieldLink RX6 64 "YarnMillModel" "machines" "I" ∈ wsX6_periodOf := (by decide +kernel)
  have hl : lv_has ls 11 [(0, .ref (ad 36)), (1, .int (nI mv)), (2, .int (nI rv)), (3, .int q)] := hl
  obtain ⟨md, ma, mb, ml, mr, mo, cn, ms, fs, nn, pl, pm, f36, f37, f38, f39, f40, f41, f42, f43, f44, f45, f46, f47, hrL, hrR, hrS, hlok, hrok, hsok, hpm⟩ := hR
  have f36 : g 36 = .inr (6, [.int (nI fa), .int (nI fb), .int (nI nm), .ref (ad 37), .ref (ad 38), .ref (ad 39), .ref (ad 40), .ref (ad 41), .ref (ad 42), .ref (ad 43), .ref (ad 44), .ref (ad 45), .int (nI nb), .ref (ad 46), .int (nI lay), .int (nI pm), .ref (ad 47), .int (nI tr)]) := f36
  have hq37 : ∀ j, j < nm → md j = mc j 0 := fun j hj => (hrL.1 j hj).1
  have hq38 : ∀ j, j < nm → ma j = mc j 1 := fun j hj => (hrL.1 j hj).2.1
  have hq39 : ∀ j, j < nm → mb j = mc j 2 := fun j hj => (hrL.1 j hj).2.2.1
  have hq40 : ∀ j, j < nm → ml j = mc j 3 := fun j hj => (hrL.1 j hj).2.2.2.1
  have hq41 : ∀ j, j < nm → mr j = mc j 4 := fun j hj => (hrL.1 j hj).2.2.2.2
  have hmo : ∀ j, j < nm → ∀ r, r < mc j 4 → mo (3 * j + r) = rd j r := hrL.2
  have h6 : nm ≤ 6 := hlok.1
  have hfa : 1 ≤ fa ∧ fa ≤ 10000 := hlok.2.1
  have hfb : 1 ≤ fb ∧ fb ≤ 10000 := hlok.2.2.1
  have hmk : ∀ j, j < nm → mcOk (mc j) ∧ ∀ r, r < mc j 4 → 1 ≤ rd j r ∧ rd j r ≤ 1000 := hlok.2.2.2
  have hcn : ∀ r, r < 8 → cn r = nr r := hrR.1
  have hms : ∀ r, r < 8 → ∀ j, j < nr r → ms (400 * r + j) = ar r j := hrR.2
  have hro : ∀ r, r < 8 → nr r ≤ 400 ∧ ∀ j, j < nr r → ar r j ≤ 1000000 := hrok
  have hnn : ∀ j, j < nb → nn j = num j := hrS.1
  have hper : 0 < lay → pm = pev := hrS.2.1
  have hpl : ∀ j, j < lay * pev → pl j = pln j := hrS.2.2
  obtain ⟨k1, k2, k3, k4, k5, k6, k7⟩ := id hsok
  have k1 : nb ≤ 12 := k1
  have k2 : ∀ j, j < nb → num j ≤ 10000 := k2
  have k3 : 0 < lay → (1 ≤ pev ∧ pev ≤ 6) := k3
  have k4 : lay * pev ≤ 12 := k4
  have k5 : ∀ j, j < lay * pev → pln j ≤ 12 := k5
  have k6 : tr ≤ 100000 := k6
  have k7 : lay ≤ 12 := k7
  have h34 := (hmk mv hmv).1.2.2.2.2
  have hrd9 := (hmk mv hmv).2 rv hrv
  refine lv_aload_n hx hb dX6_periodOf_0 rfl (lv_at hl 0 rfl) ?_
  refine rp_get C0 FX hH 36 (by decide) (ci := 6) (k := 8) f36 rfl kiX6 (by decide) kf32 rfl dX6_periodOf_1 ?_
  refine lv_iconst (v := nI 3) hx hb dX6_periodOf_4 (by decide) ?_
  refine lv_iload_n hx hb dX6_periodOf_5 rfl (lv_at hl 1 rfl) ?_
  refine ni_imul hx hb dX6_periodOf_6 ?_
  refine lv_iload_n hx hb dX6_periodOf_7 rfl (lv_at hl 2 rfl) ?_
  refine ni_iadd hx hb dX6_periodOf_8 ?_
  refine rp_iald C0 FX hH 42 (by decide) (v := rd mv rv) f42 ((3 * mv) + rv) (by omega) (by decide) (hmo mv (by omega) _ (by omega)) dX6_periodOf_9 ?_
  refine ni_i2l hx hb (by omega) dX6_periodOf_10 ?_
  refine lv_lstore (lv' := [(4, .long (lN (rd mv rv))), (0, .ref (ad 36)), (1, .int (nI mv)), (2, .int (nI rv)), (3, .int q)]) hx hb dX6_periodOf_11 hl (by decide) rfl (fun ls hl => ?_)
  refine lv_lconst (v := lN 1) hx hb dX6_periodOf_13 (by decide) ?_
  refine lv_lstore (lv' := [(6, .long (lN 1)), (4, .long (lN (rd mv rv))), (0, .ref (ad 36)), (1, .int (nI mv)), (2, .int (nI rv)), (3, .int q)]) hx hb dX6_periodOf_14 hl (by decide) rfl (fun ls hl => ?_)
  refine lv_iload_n hx hb dX6_periodOf_16 rfl (lv_at hl 3 rfl) ?_
  refine lv_iconst (v := nI 1) hx hb dX6_periodOf_17 (by decide) ?_
  refine ni_iadd hx hb dX6_periodOf_18 ?_
  refine lv_istore (lv' := [(8, .int (nI (mv + 1))), (6, .long (lN 1)), (4, .long (lN (rd mv rv))), (0, .ref (ad 36)), (1, .int (nI mv)), (2, .int (nI rv)), (3, .int q)]) hx hb dX6_periodOf_19 hl (by decide) rfl (fun ls hl => ?_)
  have L21 : ∀ (fu : Nat) (x : Nat) (y : Nat) (k9 : Nat) (H : Heap) (locs : List Loc) (ls : Array Slot), (mv + 1 ≤ k9) → (k9 ≤ nm) → ((x, y) = prd (nm, fa, fb, mc, rd) mv rv (k9 - (mv + 1))) → nm - k9 < fu → WH X 48 ad (pA 48 ad s.heap.size) s g H locs → lv_has ls 11 [(8, .int (nI k9)), (6, .long (lN y)), (4, .long (lN x)), (0, .ref (ad 36)), (1, .int (nI mv)), (2, .int (nI rv)), (3, .int q)] → W p l e zr1 s m ([.ref (ad 36), .int (nI mv), .int (nI rv), .int q] : List Value).toArray below meth c H locs 0 0 Q (F0 m 21 ls []) := by
    intro fu
    induction fu with
    | zero =>
      intro x y k9 H locs ls i1 i2 i3 hm
      exact absurd hm (Nat.not_lt_zero _)
    | succ fu ih =>
      have ih21 := ih; clear ih
      intro x y k9 H locs ls i1 i2 i3 hm21 hH hl
      refine lv_iload hx hb dX6_periodOf_21 (lv_at hl 0 rfl) ?_
      refine lv_aload_n hx hb dX6_periodOf_23 rfl (lv_at hl 3 rfl) ?_
      refine rp_get C0 FX hH 36 (by decide) (ci := 6) (k := 2) f36 rfl kiX6 (by decide) kf64 rfl dX6_periodOf_24 ?_
      refine ni_cge hx hb 85 dX6_periodOf_27 (by decide) (by omega) (by omega) (fun c27 => ?_) (fun c27 => ?_)
      · refine lv_iload_n hx hb dX6_periodOf_85 rfl (lv_at hl 6 rfl) ?_
        refine lv_if_ne (tgt := 94) hx hb dX6_periodOf_86 (by decide) (fun c86 => ?_) (fun c86 => ?_)
        · refine lv_lload hx hb dX6_periodOf_94 (lv_at hl 1 rfl) ?_
          refine RET _ _ _ _ _ _ dX6_periodOf_96 ?_ hH
          refine ⟨rfl, ?_⟩
          have hk9 : k9 = nm := by omega
          subst hk9
          unfold per
          show _ = (if q = nI 0 then lN (prd _ mv rv (k9 - (mv + 1))).1 else lN (prd _ mv rv (k9 - (mv + 1))).2)
          rw [← i3, if_neg (show ¬ q = nI 0 from c86)]
        · refine lv_lload hx hb dX6_periodOf_89 (lv_at hl 2 rfl) ?_
          refine lv_goto (tgt := 96) hx hb dX6_periodOf_91 (by decide) ?_
          refine RET _ _ _ _ _ _ dX6_periodOf_96 ?_ hH
          refine ⟨rfl, ?_⟩
          have hk9 : k9 = nm := by omega
          subst hk9
          unfold per
          show _ = (if q = nI 0 then lN (prd _ mv rv (k9 - (mv + 1))).1 else lN (prd _ mv rv (k9 - (mv + 1))).2)
          rw [← i3, if_pos (show q = nI 0 from c86)]
      · have hpl := prd_le hlok (m := mv) (r := rv) hmv hrv (i := k9 - (mv + 1)) (by show _ ≤ nm; omega)
        rw [← i3] at hpl
        obtain ⟨⟨hx1, hx2⟩, hy1, hy2⟩ := hpl
        have hx1 : 0 < x := hx1
        have hx2 : x ≤ 777600000000 := hx2
        have hy1 : 0 < y := hy1
        have hy2 : y ≤ 3200000 := hy2
        obtain ⟨⟨o1, o2⟩, ⟨o3, o4⟩, ⟨o5, o6⟩, o7, o8⟩ := (hmk k9 (by omega)).1
        have hUb := Nat.mul_le_mul hx2 o4
        have hVb := Nat.mul_le_mul hy2 o6
        have hUp := Nat.mul_pos hx1 (show 0 < mc k9 1 by omega)
        have hg1 := Nat.gcd_pos_of_pos_left (y * mc k9 2) hUp
        have hg2 := Nat.gcd_le_left (y * mc k9 2) hUp
        have hc1 : prd (nm, fa, fb, mc, rd) mv rv (k9 + 1 - (mv + 1)) = ((x * mc k9 1) / Nat.gcd (x * mc k9 1) (y * mc k9 2), (y * mc k9 2) / Nat.gcd (x * mc k9 1) (y * mc k9 2)) := by rw [show k9 + 1 - (mv + 1) = (k9 - (mv + 1)) + 1 by omega]; show lt2 ((prd (nm, fa, fb, mc, rd) mv rv (k9 - (mv + 1))).1 * mc (mv + 1 + (k9 - (mv + 1))) 1) ((prd (nm, fa, fb, mc, rd) mv rv (k9 - (mv + 1))).2 * mc (mv + 1 + (k9 - (mv + 1))) 2) = _; rw [← i3, show mv + 1 + (k9 - (mv + 1)) = k9 by omega]; rfl
        refine lv_lload hx hb dX6_periodOf_30 (lv_at hl 2 rfl) ?_
        refine lv_aload_n hx hb dX6_periodOf_32 rfl (lv_at hl 3 rfl) ?_
        refine rp_get C0 FX hH 36 (by decide) (ci := 6) (k := 4) f36 rfl kiX6 (by decide) kf20 rfl dX6_periodOf_33 ?_
        refine lv_iload hx hb dX6_periodOf_36 (lv_at hl 0 rfl) ?_
        refine rp_iald C0 FX hH 38 (by decide) (v := mc k9 1) f38 k9 (by omega) (by decide) (hq38 _ (by omega)) dX6_periodOf_38 ?_
        refine ni_i2l hx hb (by omega) dX6_periodOf_39 ?_
        refine ni_lmul hx hb dX6_periodOf_40 ?_
        refine lv_lstore (lv' := [(4, .long (lN (x * (mc k9 1)))), (8, .int (nI k9)), (6, .long (lN y)), (0, .ref (ad 36)), (1, .int (nI mv)), (2, .int (nI rv)), (3, .int q)]) hx hb dX6_periodOf_41 hl (by decide) rfl (fun ls hl => ?_)
        refine lv_lload hx hb dX6_periodOf_43 (lv_at hl 2 rfl) ?_
        refine lv_aload_n hx hb dX6_periodOf_45 rfl (lv_at hl 3 rfl) ?_
        refine rp_get C0 FX hH 36 (by decide) (ci := 6) (k := 5) f36 rfl kiX6 (by decide) kf23 rfl dX6_periodOf_46 ?_
        refine lv_iload hx hb dX6_periodOf_49 (lv_at hl 1 rfl) ?_
        refine rp_iald C0 FX hH 39 (by decide) (v := mc k9 2) f39 k9 (by omega) (by decide) (hq39 _ (by omega)) dX6_periodOf_51 ?_
        refine ni_i2l hx hb (by omega) dX6_periodOf_52 ?_
        refine ni_lmul hx hb dX6_periodOf_53 ?_
        refine lv_lstore (lv' := [(6, .long (lN (y * (mc k9 2)))), (4, .long (lN (x * (mc k9 1)))), (8, .int (nI k9)), (0, .ref (ad 36)), (1, .int (nI mv)), (2, .int (nI rv)), (3, .int q)]) hx hb dX6_periodOf_54 hl (by decide) rfl (fun ls hl => ?_)
        refine lv_lload hx hb dX6_periodOf_56 (lv_at hl 1 rfl) ?_
        refine lv_lload hx hb dX6_periodOf_58 (lv_at hl 0 rfl) ?_
        refine rc_Sl (rest := []) C0 FX hH (k_X6_common l X ad hi _ (x * (mc k9 1)) (y * (mc k9 2)) (by omega) (by omega)) (va_cwS 2 C0.2.2.2.2 gX6_periodOf_X6_common rfl rfl rfl (by decide +kernel) ⟨Nat.le_of_ble_eq_true rfl, Nat.le_of_ble_eq_true rfl⟩) rfl rfl hl.1 (Nat.le_of_ble_eq_true rfl) dX6_periodOf_60 ⟨Nat.le_of_ble_eq_true rfl, Nat.le_of_ble_eq_true rfl⟩ (fun r60 g60c H locs h60 hH => ?_)
        obtain ⟨e60, rfl⟩ := h60
        rw [e60] at hH
        refine lv_lstore (lv' := [(9, .long (lN (Nat.gcd (x * (mc k9 1)) (y * (mc k9 2))))), (6, .long (lN (y * (mc k9 2)))), (4, .long (lN (x * (mc k9 1)))), (8, .int (nI k9)), (0, .ref (ad 36)), (1, .int (nI mv)), (2, .int (nI rv)), (3, .int q)]) hx hb dX6_periodOf_63 hl (by decide) rfl (fun ls hl => ?_)
        refine lv_lload hx hb dX6_periodOf_65 (lv_at hl 2 rfl) ?_
        refine lv_lload hx hb dX6_periodOf_67 (lv_at hl 0 rfl) ?_
        refine ni_ldiv hx hb (by omega) (by omega) (by omega) dX6_periodOf_69 ?_
        refine lv_lstore (lv' := [(4, .long (lN ((x * (mc k9 1)) / (Nat.gcd (x * (mc k9 1)) (y * (mc k9 2)))))), (9, .long (lN (Nat.gcd (x * (mc k9 1)) (y * (mc k9 2))))), (6, .long (lN (y * (mc k9 2)))), (8, .int (nI k9)), (0, .ref (ad 36)), (1, .int (nI mv)), (2, .int (nI rv)), (3, .int q)]) hx hb dX6_periodOf_70 hl (by decide) rfl (fun ls hl => ?_)
        refine lv_lload hx hb dX6_periodOf_72 (lv_at hl 2 rfl) ?_
        refine lv_lload hx hb dX6_periodOf_74 (lv_at hl 1 rfl) ?_
        refine ni_ldiv hx hb (by omega) (by omega) (by omega) dX6_periodOf_76 ?_
        refine lv_lstore (lv' := [(6, .long (lN ((y * (mc k9 2)) / (Nat.gcd (x * (mc k9 1)) (y * (mc k9 2)))))), (4, .long (lN ((x * (mc k9 1)) / (Nat.gcd (x * (mc k9 1)) (y * (mc k9 2)))))), (9, .long (lN (Nat.gcd (x * (mc k9 1)) (y * (mc k9 2))))), (8, .int (nI k9)), (0, .ref (ad 36)), (1, .int (nI mv)), (2, .int (nI rv)), (3, .int q)]) hx hb dX6_periodOf_77 hl (by decide) rfl (fun ls hl => ?_)
        refine lv_iinc (v := nI (k9 + 1)) (lv' := [(8, .int (nI (k9 + 1))), (6, .long (lN ((y * (mc k9 2)) / (Nat.gcd (x * (mc k9 1)) (y * (mc k9 2)))))), (4, .long (lN ((x * (mc k9 1)) / (Nat.gcd (x * (mc k9 1)) (y * (mc k9 2)))))), (9, .long (lN (Nat.gcd (x * (mc k9 1)) (y * (mc k9 2))))), (0, .ref (ad 36)), (1, .int (nI mv)), (2, .int (nI rv)), (3, .int q)]) hx hb dX6_periodOf_79 hl (k := 3) rfl (ni_inc1 _) (by decide) rfl (fun ls hl => ?_)
        refine lv_goto (tgt := 21) hx hb dX6_periodOf_82 (by decide) ?_
        exact ih21 ((x * (mc k9 1)) / (Nat.gcd (x * (mc k9 1)) (y * (mc k9 2)))) ((y * (mc k9 2)) / (Nat.gcd (x * (mc k9 1)) (y * (mc k9 2)))) (k9 + 1) _ _ ls (by omega) (by omega) (hc1.symm) (by omega) hH (lv_sub hl [0, 1, 2, 4, 5, 6, 7] rfl)
  exact L21 ((nm - (mv + 1)) + 1) (rd mv rv) 1 (mv + 1) _ _ ls (by omega) (by omega) (by rw [Nat.sub_self]; rfl) (Nat.lt_succ_self _) hH (lv_sub hl [0, 1, 2, 3, 4, 5, 6] rfl)
theorem k_X6_periodOf_0 (l : Launch) (X : Cx) (ad : Nat → Nat) (hi : inj 48 ad) (g : PF) (nm fa fb : Nat) (mc rd : Nat → Nat → Nat) (nr : Nat → Nat) (ar : Nat → Nat → Nat) (nb : Nat) (num : Nat → Nat) (lay pev : Nat) (pln : Nat → Nat) (tr : Nat) (hR : rMod X ad ((nm, fa, fb, mc, rd), nr, ar, (nb, num, lay, pev, pln, tr)) g) (mv rv : Nat) (hmv : mv < nm) (hrv : rv < mc mv 4) : Kl l yX6_periodOf wsX6_periodOf zr1 X 48 ad g [.ref (ad 36), .int (nI mv), .int (nI rv), .int (nI 0)] (fun r g' => g' = g ∧ r = lN (per (nm, fa, fb, mc, rd) mv rv).1) := by
  have h := k_X6_periodOf l X ad hi g nm fa fb mc rd nr ar nb num lay pev pln tr hR mv rv hmv hrv (nI 0)
  rw [if_pos rfl] at h
  exact h
theorem k_X6_periodOf_1 (l : Launch) (X : Cx) (ad : Nat → Nat) (hi : inj 48 ad) (g : PF) (nm fa fb : Nat) (mc rd : Nat → Nat → Nat) (nr : Nat → Nat) (ar : Nat → Nat → Nat) (nb : Nat) (num : Nat → Nat) (lay pev : Nat) (pln : Nat → Nat) (tr : Nat) (hR : rMod X ad ((nm, fa, fb, mc, rd), nr, ar, (nb, num, lay, pev, pln, tr)) g) (mv rv : Nat) (hmv : mv < nm) (hrv : rv < mc mv 4) : Kl l yX6_periodOf wsX6_periodOf zr1 X 48 ad g [.ref (ad 36), .int (nI mv), .int (nI rv), .int (nI 1)] (fun r g' => g' = g ∧ r = lN (per (nm, fa, fb, mc, rd) mv rv).2) := by
  have h := k_X6_periodOf l X ad hi g nm fa fb mc rd nr ar nb num lay pev pln tr hR mv rv hmv hrv (nI 1)
  rw [if_neg (by decide)] at h
  exact h
set_option maxHeartbeats 4000000 in
set_option maxRecDepth 100000 in
theorem k_X6_period (l : Launch) (X : Cx) (ad : Nat → Nat) (hi : inj 48 ad) (g : PF) (nm fa fb : Nat) (mc rd : Nat → Nat → Nat) (nr : Nat → Nat) (ar : Nat → Nat → Nat) (nb : Nat) (num : Nat → Nat) (lay pev : Nat) (pln : Nat → Nat) (tr : Nat) (hR : rMod X ad ((nm, fa, fb, mc, rd), nr, ar, (nb, num, lay, pev, pln, tr)) g) (p0 p1 p2 : Int32) : Kl l yX6_period wsX6_period zr2 X 48 ad g [.ref (ad 36), .int p0, .int p1, .int p2] (fun r g' => g' = g ∧ r = sp_period p0 p1 p2 (nm, fa, fb, mc, rd)) := by
  refine Kl.of (cc := cX6_period) (maxL := 4) hi (by decide) rfl (Nat.le_of_ble_eq_true rfl) ?_
  intro p e s m below meth c Q E RET ls hl
  obtain ⟨C0, FX, hH⟩ := E
  have hx := C0.1
  have hb := C0.2.1
  have kl85 := C0.2.2.2.2 (.constantLong RX6 85 (-2)) (by decide +kernel)
  have kiX6 : ∀ w ∈ u_ws RX6 TX6 18, w ∈ wsX6_period := (by decide +kernel)
  have kf29 : Cond.fieldLink RX6 29 "YarnMillModel" "rollers" "[I" ∈ wsX6_period := (by decide +kernel)
  have hl : lv_has ls 4 [(0, .ref (ad 36)), (1, .int p0), (2, .int p1), (3, .int p2)] := hl
  obtain ⟨md, ma, mb, ml, mr, mo, cn, ms, fs, nn, pl, pm, f36, f37, f38, f39, f40, f41, f42, f43, f44, f45, f46, f47, hrL, hrR, hrS, hlok, hrok, hsok, hpm⟩ := hR
  have f36 : g 36 = .inr (6, [.int (nI fa), .int (nI fb), .int (nI nm), .ref (ad 37), .ref (ad 38), .ref (ad 39), .ref (ad 40), .ref (ad 41), .ref (ad 42), .ref (ad 43), .ref (ad 44), .ref (ad 45), .int (nI nb), .ref (ad 46), .int (nI lay), .int (nI pm), .ref (ad 47), .int (nI tr)]) := f36
  have hq37 : ∀ j, j < nm → md j = mc j 0 := fun j hj => (hrL.1 j hj).1
  have hq38 : ∀ j, j < nm → ma j = mc j 1 := fun j hj => (hrL.1 j hj).2.1
  have hq39 : ∀ j, j < nm → mb j = mc j 2 := fun j hj => (hrL.1 j hj).2.2.1
  have hq40 : ∀ j, j < nm → ml j = mc j 3 := fun j hj => (hrL.1 j hj).2.2.2.1
  have hq41 : ∀ j, j < nm → mr j = mc j 4 := fun j hj => (hrL.1 j hj).2.2.2.2
  have hmo : ∀ j, j < nm → ∀ r, r < mc j 4 → mo (3 * j + r) = rd j r := hrL.2
  have h6 : nm ≤ 6 := hlok.1
  have hfa : 1 ≤ fa ∧ fa ≤ 10000 := hlok.2.1
  have hfb : 1 ≤ fb ∧ fb ≤ 10000 := hlok.2.2.1
  have hmk : ∀ j, j < nm → mcOk (mc j) ∧ ∀ r, r < mc j 4 → 1 ≤ rd j r ∧ rd j r ≤ 1000 := hlok.2.2.2
  have hcn : ∀ r, r < 8 → cn r = nr r := hrR.1
  have hms : ∀ r, r < 8 → ∀ j, j < nr r → ms (400 * r + j) = ar r j := hrR.2
  have hro : ∀ r, r < 8 → nr r ≤ 400 ∧ ∀ j, j < nr r → ar r j ≤ 1000000 := hrok
  have hnn : ∀ j, j < nb → nn j = num j := hrS.1
  have hper : 0 < lay → pm = pev := hrS.2.1
  have hpl : ∀ j, j < lay * pev → pl j = pln j := hrS.2.2
  obtain ⟨k1, k2, k3, k4, k5, k6, k7⟩ := id hsok
  have k1 : nb ≤ 12 := k1
  have k2 : ∀ j, j < nb → num j ≤ 10000 := k2
  have k3 : 0 < lay → (1 ≤ pev ∧ pev ≤ 6) := k3
  have k4 : lay * pev ≤ 12 := k4
  have k5 : ∀ j, j < lay * pev → pln j ≤ 12 := k5
  have k6 : tr ≤ 100000 := k6
  have k7 : lay ≤ 12 := k7
  refine lv_aload_n hx hb dX6_period_0 rfl (lv_at hl 0 rfl) ?_
  refine lv_iload_n hx hb dX6_period_1 rfl (lv_at hl 1 rfl) ?_
  refine rc_Vi (rest := []) C0 FX hH 36 (by decide) f36 rfl (k_X6_isMachine l X ad hi _ nm fa fb mc rd nr ar nb num lay pev pln tr ⟨_, _, _, _, _, _, _, _, _, _, _, _, f36, f37, f38, f39, f40, f41, f42, f43, f44, f45, f46, f47, hrL, hrR, hrS, hlok, hrok, hsok, hpm⟩ p0) (cwV 1 C0.2.2.2.2 gX6_period_X6_isMachine rfl rfl rfl (by decide +kernel) ⟨Nat.le_of_ble_eq_true rfl, Nat.le_of_ble_eq_true rfl⟩) rfl rfl hl.1 (Nat.le_of_ble_eq_true rfl) dX6_period_2 ⟨Nat.le_of_ble_eq_true rfl, Nat.le_of_ble_eq_true rfl⟩ (fun r2 g2c H locs h2 hH => ?_)
  obtain ⟨e2, rfl⟩ := h2
  rw [e2] at hH
  refine rb_eq hx hb 36 dX6_period_5 (by decide) (fun c5 => ?_) (fun c5 => ?_)
  · refine lv_ldc2 hx hb C0.2.2.2.1 kl85 dX6_period_36 ?_
    refine RET _ _ _ _ _ _ dX6_period_39 ?_ hH
    refine ⟨rfl, ?_⟩
    unfold sp_period
    rw [if_neg (fun z => by first | exact absurd z.1 (by assumption) | exact absurd z.2.1 (by assumption) | (have z2 := z.2.2; rw [tN_nI (by omega)] at z2; exact absurd z2 (by assumption)))]
  · obtain ⟨mv, rfl, mv1, mv3⟩ := rngS_nI c5
    have h34 := (hmk mv mv1).1.2.2.2.2
    refine lv_iload_n hx hb dX6_period_8 rfl (lv_at hl 2 rfl) ?_
    refine lv_i2l hx hb dX6_period_9 rfl ?_
    refine lv_lconst (v := lN 0) hx hb dX6_period_10 (by decide) ?_
    refine lv_aload_n hx hb dX6_period_11 rfl (lv_at hl 0 rfl) ?_
    refine rp_get C0 FX hH 36 (by decide) (ci := 6) (k := 7) f36 rfl kiX6 (by decide) kf29 rfl dX6_period_12 ?_
    refine lv_iload_n hx hb dX6_period_15 rfl (lv_at hl 1 rfl) ?_
    refine rp_iald C0 FX hH 41 (by decide) (v := mc mv 4) f41 mv (by omega) (by decide) (hq41 _ (by omega)) dX6_period_16 ?_
    refine lv_iconst (v := nI 1) hx hb dX6_period_17 (by decide) ?_
    refine lv_isub hx hb dX6_period_18 ?_
    refine lv_i2l hx hb dX6_period_19 rfl ?_
    refine rc_Si (rest := []) C0 FX hH (k_X6_in_rngS l X ad hi _ p1 ((mc mv 4)) (by omega)) (va_cwS 3 C0.2.2.2.2 gX6_period_X6_in rfl rfl rfl (by decide +kernel) ⟨Nat.le_of_ble_eq_true rfl, Nat.le_of_ble_eq_true rfl⟩) rfl rfl hl.1 (Nat.le_of_ble_eq_true rfl) dX6_period_20 ⟨Nat.le_of_ble_eq_true rfl, Nat.le_of_ble_eq_true rfl⟩ (fun r20 g20c H locs h20 hH => ?_)
    obtain ⟨e20, rfl⟩ := h20
    rw [e20] at hH
    refine rb_eq hx hb 36 dX6_period_23 (by decide) (fun c23 => ?_) (fun c23 => ?_)
    · refine lv_ldc2 hx hb C0.2.2.2.1 kl85 dX6_period_36 ?_
      refine RET _ _ _ _ _ _ dX6_period_39 ?_ hH
      refine ⟨rfl, ?_⟩
      unfold sp_period
      rw [if_neg (fun z => by first | exact absurd z.1 (by assumption) | exact absurd z.2.1 (by assumption) | (have z2 := z.2.2; rw [tN_nI (by omega)] at z2; exact absurd z2 (by assumption)))]
    · obtain ⟨rv, rfl, rv1, rv3⟩ := rngS_nI c23
      refine lv_iload_n hx hb dX6_period_26 rfl (lv_at hl 3 rfl) ?_
      refine lv_i2l hx hb dX6_period_27 rfl ?_
      refine lv_lconst (v := lN 0) hx hb dX6_period_28 (by decide) ?_
      refine lv_lconst (v := lN 1) hx hb dX6_period_29 (by decide) ?_
      refine rc_Si (rest := []) C0 FX hH (k_X6_in_rng l X ad hi _ p2 0 1 (by omega) (by omega)) (va_cwS 3 C0.2.2.2.2 gX6_period_X6_in rfl rfl rfl (by decide +kernel) ⟨Nat.le_of_ble_eq_true rfl, Nat.le_of_ble_eq_true rfl⟩) rfl rfl hl.1 (Nat.le_of_ble_eq_true rfl) dX6_period_30 ⟨Nat.le_of_ble_eq_true rfl, Nat.le_of_ble_eq_true rfl⟩ (fun r30 g30c H locs h30 hH => ?_)
      obtain ⟨e30, rfl⟩ := h30
      rw [e30] at hH
      refine rb_ne hx hb 40 dX6_period_33 (by decide) (fun c33 => ?_) (fun c33 => ?_)
      · obtain ⟨wv, rfl, wv1, wv2, wv3⟩ := rng_nI c33
        refine lv_aload_n hx hb dX6_period_40 rfl (lv_at hl 0 rfl) ?_
        refine lv_iload_n hx hb dX6_period_41 rfl (lv_at hl 1 rfl) ?_
        refine lv_iload_n hx hb dX6_period_42 rfl (lv_at hl 2 rfl) ?_
        refine lv_iload_n hx hb dX6_period_43 rfl (lv_at hl 3 rfl) ?_
        refine rc_Vl (rest := []) C0 FX hH 36 (by decide) f36 rfl (k_X6_periodOf l X ad hi _ nm fa fb mc rd nr ar nb num lay pev pln tr ⟨_, _, _, _, _, _, _, _, _, _, _, _, f36, f37, f38, f39, f40, f41, f42, f43, f44, f45, f46, f47, hrL, hrR, hrS, hlok, hrok, hsok, hpm⟩ mv rv (by omega) (by omega) (nI wv)) (cwV 3 C0.2.2.2.2 gX6_period_X6_periodOf rfl rfl rfl (by decide +kernel) ⟨Nat.le_of_ble_eq_true rfl, Nat.le_of_ble_eq_true rfl⟩) rfl rfl hl.1 (Nat.le_of_ble_eq_true rfl) dX6_period_44 ⟨Nat.le_of_ble_eq_true rfl, Nat.le_of_ble_eq_true rfl⟩ (fun r44 g44c H locs h44 hH => ?_)
        obtain ⟨e44, rfl⟩ := h44
        rw [e44] at hH
        refine RET _ _ _ _ _ _ dX6_period_47 ?_ hH
        refine ⟨rfl, ?_⟩
        unfold sp_period
        rw [if_pos (show rngS (nI mv) nm ∧ rng (nI wv) 0 1 ∧ rngS (nI rv) (mc (tN (nI mv)) 4) from ⟨(rngS_iff (by omega)).mpr mv1, (rng_iff (by omega)).mpr (by omega), by rw [tN_nI (by omega)]; exact (rngS_iff (by omega)).mpr rv1⟩), tN_nI (by omega), tN_nI (by omega)]
      · refine lv_ldc2 hx hb C0.2.2.2.1 kl85 dX6_period_36 ?_
        refine RET _ _ _ _ _ _ dX6_period_39 ?_ hH
        refine ⟨rfl, ?_⟩
        unfold sp_period
        rw [if_neg (fun z => by first | exact absurd z.1 (by assumption) | exact absurd z.2.1 (by assumption) | (have z2 := z.2.2; rw [tN_nI (by omega)] at z2; exact absurd z2 (by assumption)))]
set_option maxHeartbeats 4000000 in
set_option maxRecDepth 100000 in
theorem k_X6_names (l : Launch) (X : Cx) (ad : Nat → Nat) (hi : inj 48 ad) (g : PF) (nm fa fb : Nat) (mc rd : Nat → Nat → Nat) (nr : Nat → Nat) (ar : Nat → Nat → Nat) (nb : Nat) (num : Nat → Nat) (lay pev : Nat) (pln : Nat → Nat) (tr : Nat) (hR : rMod X ad ((nm, fa, fb, mc, rd), nr, ar, (nb, num, lay, pev, pln, tr)) g) (p0 p1 p2 : Int32) : Ki l yX6_names wsX6_names zr2 X 48 ad g [.ref (ad 36), .int p0, .int p1, .int p2] (fun r g' => g' = g ∧ r = sp_names p0 p1 p2 (nm, fa, fb, mc, rd)) := by
  refine Ki.of (cc := cX6_names) (maxL := 11) hi (by decide) rfl (Nat.le_of_ble_eq_true rfl) ?_
  intro p e s m below meth c Q E RET ls hl
  obtain ⟨C0, FX, hH⟩ := E
  have hx := C0.1
  have hb := C0.2.1
  have kl71 := C0.2.2.2.2 (.constantLong RX6 71 (lN 1000)) (by decide +kernel)
  have kl91 := C0.2.2.2.2 (.constantLong RX6 91 (lN 1000000)) (by decide +kernel)
  have kl93 := C0.2.2.2.2 (.constantLong RX6 93 (lN 999)) (by decide +kernel)
  have kiX6 : ∀ w ∈ u_ws RX6 TX6 18, w ∈ wsX6_names := (by decide +kernel)
  have kf29 : Cond.fieldLink RX6 29 "YarnMillModel" "rollers" "[I" ∈ wsX6_names := (by decide +kernel)
  have kf64 : Cond.fieldLink RX6 64 "YarnMillModel" "machines" "I" ∈ wsX6_names := (by decide +kernel)
  have hl : lv_has ls 11 [(0, .ref (ad 36)), (1, .int p0), (2, .int p1), (3, .int p2)] := hl
  obtain ⟨md, ma, mb, ml, mr, mo, cn, ms, fs, nn, pl, pm, f36, f37, f38, f39, f40, f41, f42, f43, f44, f45, f46, f47, hrL, hrR, hrS, hlok, hrok, hsok, hpm⟩ := hR
  have f36 : g 36 = .inr (6, [.int (nI fa), .int (nI fb), .int (nI nm), .ref (ad 37), .ref (ad 38), .ref (ad 39), .ref (ad 40), .ref (ad 41), .ref (ad 42), .ref (ad 43), .ref (ad 44), .ref (ad 45), .int (nI nb), .ref (ad 46), .int (nI lay), .int (nI pm), .ref (ad 47), .int (nI tr)]) := f36
  have hq37 : ∀ j, j < nm → md j = mc j 0 := fun j hj => (hrL.1 j hj).1
  have hq38 : ∀ j, j < nm → ma j = mc j 1 := fun j hj => (hrL.1 j hj).2.1
  have hq39 : ∀ j, j < nm → mb j = mc j 2 := fun j hj => (hrL.1 j hj).2.2.1
  have hq40 : ∀ j, j < nm → ml j = mc j 3 := fun j hj => (hrL.1 j hj).2.2.2.1
  have hq41 : ∀ j, j < nm → mr j = mc j 4 := fun j hj => (hrL.1 j hj).2.2.2.2
  have hmo : ∀ j, j < nm → ∀ r, r < mc j 4 → mo (3 * j + r) = rd j r := hrL.2
  have h6 : nm ≤ 6 := hlok.1
  have hfa : 1 ≤ fa ∧ fa ≤ 10000 := hlok.2.1
  have hfb : 1 ≤ fb ∧ fb ≤ 10000 := hlok.2.2.1
  have hmk : ∀ j, j < nm → mcOk (mc j) ∧ ∀ r, r < mc j 4 → 1 ≤ rd j r ∧ rd j r ≤ 1000 := hlok.2.2.2
  have hcn : ∀ r, r < 8 → cn r = nr r := hrR.1
  have hms : ∀ r, r < 8 → ∀ j, j < nr r → ms (400 * r + j) = ar r j := hrR.2
  have hro : ∀ r, r < 8 → nr r ≤ 400 ∧ ∀ j, j < nr r → ar r j ≤ 1000000 := hrok
  have hnn : ∀ j, j < nb → nn j = num j := hrS.1
  have hper : 0 < lay → pm = pev := hrS.2.1
  have hpl : ∀ j, j < lay * pev → pl j = pln j := hrS.2.2
  obtain ⟨k1, k2, k3, k4, k5, k6, k7⟩ := id hsok
  have k1 : nb ≤ 12 := k1
  have k2 : ∀ j, j < nb → num j ≤ 10000 := k2
  have k3 : 0 < lay → (1 ≤ pev ∧ pev ≤ 6) := k3
  have k4 : lay * pev ≤ 12 := k4
  have k5 : ∀ j, j < lay * pev → pln j ≤ 12 := k5
  have k6 : tr ≤ 100000 := k6
  have k7 : lay ≤ 12 := k7
  refine lv_iload_n hx hb dX6_names_0 rfl (lv_at hl 1 rfl) ?_
  refine lv_i2l hx hb dX6_names_1 rfl ?_
  refine lv_lconst (v := lN 1) hx hb dX6_names_2 (by decide) ?_
  refine lv_ldc2 hx hb C0.2.2.2.1 kl91 dX6_names_3 ?_
  refine rc_Si (rest := []) C0 FX hH (k_X6_in_rng l X ad hi _ p0 1 1000000 (by omega) (by omega)) (va_cwS 3 C0.2.2.2.2 gX6_names_X6_in rfl rfl rfl (by decide +kernel) ⟨Nat.le_of_ble_eq_true rfl, Nat.le_of_ble_eq_true rfl⟩) rfl rfl hl.1 (Nat.le_of_ble_eq_true rfl) dX6_names_6 ⟨Nat.le_of_ble_eq_true rfl, Nat.le_of_ble_eq_true rfl⟩ (fun r6 g6c H locs h6 hH => ?_)
  obtain ⟨e6, rfl⟩ := h6
  rw [e6] at hH
  refine rb_eq hx hb 28 dX6_names_9 (by decide) (fun c9 => ?_) (fun c9 => ?_)
  · refine lv_bipush (v := (-2)) hx hb dX6_names_28 (by decide) ?_
    refine RET _ _ _ _ _ _ dX6_names_30 rfl ?_ hH
    refine ⟨rfl, ?_⟩
    unfold sp_names
    rw [if_neg (fun z => by first | exact absurd z.1 (by assumption) | exact absurd z.2.1 (by assumption) | exact absurd z.2.2 (by assumption))]
  · obtain ⟨pv, rfl, pv1, pv2, pv3⟩ := rng_nI c9
    refine lv_iload_n hx hb dX6_names_12 rfl (lv_at hl 2 rfl) ?_
    refine lv_i2l hx hb dX6_names_13 rfl ?_
    refine lv_lconst (v := lN 0) hx hb dX6_names_14 (by decide) ?_
    refine lv_ldc2 hx hb C0.2.2.2.1 kl93 dX6_names_15 ?_
    refine rc_Si (rest := []) C0 FX hH (k_X6_in_rng l X ad hi _ p1 0 999 (by omega) (by omega)) (va_cwS 3 C0.2.2.2.2 gX6_names_X6_in rfl rfl rfl (by decide +kernel) ⟨Nat.le_of_ble_eq_true rfl, Nat.le_of_ble_eq_true rfl⟩) rfl rfl hl.1 (Nat.le_of_ble_eq_true rfl) dX6_names_18 ⟨Nat.le_of_ble_eq_true rfl, Nat.le_of_ble_eq_true rfl⟩ (fun r18 g18c H locs h18 hH => ?_)
    obtain ⟨e18, rfl⟩ := h18
    rw [e18] at hH
    refine rb_eq hx hb 28 dX6_names_21 (by decide) (fun c21 => ?_) (fun c21 => ?_)
    · refine lv_bipush (v := (-2)) hx hb dX6_names_28 (by decide) ?_
      refine RET _ _ _ _ _ _ dX6_names_30 rfl ?_ hH
      refine ⟨rfl, ?_⟩
      unfold sp_names
      rw [if_neg (fun z => by first | exact absurd z.1 (by assumption) | exact absurd z.2.1 (by assumption) | exact absurd z.2.2 (by assumption))]
    · obtain ⟨tv, rfl, tv1, tv2, tv3⟩ := rng_nI c21
      refine lv_iload_n hx hb dX6_names_24 rfl (lv_at hl 3 rfl) ?_
      refine lv_if_ge (tgt := 31) hx hb dX6_names_25 (by decide) (fun c25 => ?_) (fun c25 => ?_)
      · obtain ⟨iv, rfl, iv3⟩ := ge0_nI c25
        refine lv_iconst (v := nI 0) hx hb dX6_names_31 (by decide) ?_
        refine lv_istore (lv' := [(4, .int (nI 0)), (0, .ref (ad 36)), (1, .int (nI pv)), (2, .int (nI tv)), (3, .int (nI iv))]) hx hb dX6_names_32 hl (by decide) rfl (fun ls hl => ?_)
        refine lv_iconst (v := nI 0) hx hb dX6_names_34 (by decide) ?_
        refine lv_istore (lv' := [(5, .int (nI 0)), (4, .int (nI 0)), (0, .ref (ad 36)), (1, .int (nI pv)), (2, .int (nI tv)), (3, .int (nI iv))]) hx hb dX6_names_35 hl (by decide) rfl (fun ls hl => ?_)
        have L37 : ∀ (fu : Nat) (ah : Nat) (k9 : Nat) (H : Heap) (locs : List Loc) (ls : Array Slot), (k9 ≤ nm) → (ah ≤ 3 * k9) → (nmm (nm, fa, fb, mc, rd) pv tv iv k9 = (none, ah)) → nm - k9 < fu → WH X 48 ad (pA 48 ad s.heap.size) s g H locs → lv_has ls 11 [(5, .int (nI k9)), (4, .int (nI ah)), (0, .ref (ad 36)), (1, .int (nI pv)), (2, .int (nI tv)), (3, .int (nI iv))] → W p l e zr2 s m ([.ref (ad 36), .int (nI pv), .int (nI tv), .int (nI iv)] : List Value).toArray below meth c H locs 0 0 Q (F0 m 37 ls []) := by
          intro fu
          induction fu with
          | zero =>
            intro ah k9 H locs ls j1 j2 j3 hm
            exact absurd hm (Nat.not_lt_zero _)
          | succ fu ih =>
            have ih37 := ih; clear ih
            intro ah k9 H locs ls j1 j2 j3 hm37 hH hl
            refine lv_iload hx hb dX6_names_37 (lv_at hl 0 rfl) ?_
            refine lv_aload_n hx hb dX6_names_39 rfl (lv_at hl 2 rfl) ?_
            refine rp_get C0 FX hH 36 (by decide) (ci := 6) (k := 2) f36 rfl kiX6 (by decide) kf64 rfl dX6_names_40 ?_
            refine ni_cge hx hb 146 dX6_names_43 (by decide) (by omega) (by omega) (fun c43 => ?_) (fun c43 => ?_)
            · refine lv_iconst (v := (-1)) hx hb dX6_names_146 (by decide) ?_
              refine RET _ _ _ _ _ _ dX6_names_147 rfl ?_ hH
              refine ⟨rfl, ?_⟩
              unfold sp_names
              rw [if_pos ⟨(rng_iff (by omega)).mpr (by omega), (rng_iff (by omega)).mpr (by omega), c25⟩, tN_nI (by omega), tN_nI (by omega), tN_nI (by omega)]
              have hk9 : k9 = nm := by omega
              rw [hk9] at j3
              show _ = (match (nmm (nm, fa, fb, mc, rd) pv tv iv nm).1 with | some v => nI v | none => -1)
              rw [j3]
            · refine lv_iconst (v := nI 0) hx hb dX6_names_46 (by decide) ?_
              refine lv_istore (lv' := [(6, .int (nI 0)), (5, .int (nI k9)), (4, .int (nI ah)), (0, .ref (ad 36)), (1, .int (nI pv)), (2, .int (nI tv)), (3, .int (nI iv))]) hx hb dX6_names_47 hl (by decide) rfl (fun ls hl => ?_)
              have L49 : ∀ (fu : Nat) (ah : Nat) (r9 : Nat) (H : Heap) (locs : List Loc) (ls : Array Slot), (r9 ≤ mc k9 4) → (ah ≤ 3 * k9 + r9) → (nmr (nm, fa, fb, mc, rd) pv tv iv k9 (nmm (nm, fa, fb, mc, rd) pv tv iv k9) r9 = (none, ah)) → mc k9 4 - r9 < fu → WH X 48 ad (pA 48 ad s.heap.size) s g H locs → lv_has ls 11 [(6, .int (nI r9)), (5, .int (nI k9)), (4, .int (nI ah)), (0, .ref (ad 36)), (1, .int (nI pv)), (2, .int (nI tv)), (3, .int (nI iv))] → W p l e zr2 s m ([.ref (ad 36), .int (nI pv), .int (nI tv), .int (nI iv)] : List Value).toArray below meth c H locs 0 0 Q (F0 m 49 ls []) := by
                intro fu
                induction fu with
                | zero =>
                  intro ah r9 H locs ls m1 m2 m3 hm
                  exact absurd hm (Nat.not_lt_zero _)
                | succ fu ih =>
                  have ih49 := ih; clear ih
                  intro ah r9 H locs ls m1 m2 m3 hm49 hH hl
                  obtain ⟨q1a, q1b, q1c, q1d, q1e⟩ := (hmk k9 (by omega)).1
                  refine lv_iload hx hb dX6_names_49 (lv_at hl 0 rfl) ?_
                  refine lv_aload_n hx hb dX6_names_51 rfl (lv_at hl 3 rfl) ?_
                  refine rp_get C0 FX hH 36 (by decide) (ci := 6) (k := 7) f36 rfl kiX6 (by decide) kf29 rfl dX6_names_52 ?_
                  refine lv_iload hx hb dX6_names_55 (lv_at hl 1 rfl) ?_
                  refine rp_iald C0 FX hH 41 (by decide) (v := mc k9 4) f41 k9 (by omega) (by decide) (hq41 _ (by omega)) dX6_names_57 ?_
                  refine ni_cge hx hb 140 dX6_names_58 (by decide) (by omega) (by omega) (fun c58 => ?_) (fun c58 => ?_)
                  · refine lv_iinc (v := nI (k9 + 1)) (lv' := [(5, .int (nI (k9 + 1))), (6, .int (nI r9)), (4, .int (nI ah)), (0, .ref (ad 36)), (1, .int (nI pv)), (2, .int (nI tv)), (3, .int (nI iv))]) hx hb dX6_names_140 hl (k := 1) rfl (ni_inc1 _) (by decide) rfl (fun ls hl => ?_)
                    refine lv_goto (tgt := 37) hx hb dX6_names_143 (by decide) ?_
                    exact ih37 ah (k9 + 1) _ _ ls (by omega) (by omega) (by show nmr (nm, fa, fb, mc, rd) pv tv iv k9 (nmm (nm, fa, fb, mc, rd) pv tv iv k9) (mc k9 4) = _; rw [show mc k9 4 = r9 by omega]; exact m3) (by omega) hH (lv_sub hl [0, 2, 3, 4, 5, 6] rfl)
                  · have hpe := prd_le hlok (m := k9) (r := r9) (by show k9 < nm; omega) (by show r9 < mc k9 4; omega) (i := nm - (k9 + 1)) (by show k9 + 1 + (nm - (k9 + 1)) ≤ nm; omega)
                    have hpe : (0 < (per (nm, fa, fb, mc, rd) k9 r9).1 ∧ (per (nm, fa, fb, mc, rd) k9 r9).1 ≤ 777600000000) ∧ (0 < (per (nm, fa, fb, mc, rd) k9 r9).2 ∧ (per (nm, fa, fb, mc, rd) k9 r9).2 ≤ 3200000) := hpe
                    have hBp := Nat.mul_le_mul pv2 hpe.2.2
                    have hlo := Nat.mul_le_mul hBp (show 1000 - tv ≤ 1000 by omega)
                    have hhi := Nat.mul_le_mul hBp (show 1000 + tv ≤ 1999 by omega)
                    refine lv_ldc2 hx hb C0.2.2.2.1 kl71 dX6_names_61 ?_
                    refine lv_aload_n hx hb dX6_names_64 rfl (lv_at hl 3 rfl) ?_
                    refine lv_iload hx hb dX6_names_65 (lv_at hl 1 rfl) ?_
                    refine lv_iload hx hb dX6_names_67 (lv_at hl 0 rfl) ?_
                    refine lv_iconst (v := nI 0) hx hb dX6_names_69 (by decide) ?_
                    refine rc_Vl (rest := [.long (lN 1000)]) C0 FX hH 36 (by decide) f36 rfl (k_X6_periodOf_0 l X ad hi _ nm fa fb mc rd nr ar nb num lay pev pln tr ⟨_, _, _, _, _, _, _, _, _, _, _, _, f36, f37, f38, f39, f40, f41, f42, f43, f44, f45, f46, f47, hrL, hrR, hrS, hlok, hrok, hsok, hpm⟩ k9 r9 (by omega) (by omega)) (cwV 3 C0.2.2.2.2 gX6_names_X6_periodOf rfl rfl rfl (by decide +kernel) ⟨Nat.le_of_ble_eq_true rfl, Nat.le_of_ble_eq_true rfl⟩) rfl rfl hl.1 (Nat.le_of_ble_eq_true rfl) dX6_names_70 ⟨Nat.le_of_ble_eq_true rfl, Nat.le_of_ble_eq_true rfl⟩ (fun r70 g70c H locs h70 hH => ?_)
                    obtain ⟨e70, rfl⟩ := h70
                    rw [e70] at hH
                    refine ni_lmul hx hb dX6_names_73 ?_
                    refine lv_lstore (lv' := [(7, .long (lN (1000 * ((per (nm, fa, fb, mc, rd) k9 r9).1)))), (6, .int (nI r9)), (5, .int (nI k9)), (4, .int (nI ah)), (0, .ref (ad 36)), (1, .int (nI pv)), (2, .int (nI tv)), (3, .int (nI iv))]) hx hb dX6_names_74 hl (by decide) rfl (fun ls hl => ?_)
                    refine lv_iload_n hx hb dX6_names_76 rfl (lv_at hl 5 rfl) ?_
                    refine ni_i2l hx hb (by omega) dX6_names_77 ?_
                    refine lv_aload_n hx hb dX6_names_78 rfl (lv_at hl 4 rfl) ?_
                    refine lv_iload hx hb dX6_names_79 (lv_at hl 2 rfl) ?_
                    refine lv_iload hx hb dX6_names_81 (lv_at hl 1 rfl) ?_
                    refine lv_iconst (v := nI 1) hx hb dX6_names_83 (by decide) ?_
                    refine rc_Vl (rest := [.long (lN pv)]) C0 FX hH 36 (by decide) f36 rfl (k_X6_periodOf_1 l X ad hi _ nm fa fb mc rd nr ar nb num lay pev pln tr ⟨_, _, _, _, _, _, _, _, _, _, _, _, f36, f37, f38, f39, f40, f41, f42, f43, f44, f45, f46, f47, hrL, hrR, hrS, hlok, hrok, hsok, hpm⟩ k9 r9 (by omega) (by omega)) (cwV 3 C0.2.2.2.2 gX6_names_X6_periodOf rfl rfl rfl (by decide +kernel) ⟨Nat.le_of_ble_eq_true rfl, Nat.le_of_ble_eq_true rfl⟩) rfl rfl hl.1 (Nat.le_of_ble_eq_true rfl) dX6_names_84 ⟨Nat.le_of_ble_eq_true rfl, Nat.le_of_ble_eq_true rfl⟩ (fun r84 g84c H locs h84 hH => ?_)
                    obtain ⟨e84, rfl⟩ := h84
                    rw [e84] at hH
                    refine ni_lmul hx hb dX6_names_87 ?_
                    refine lv_lstore (lv' := [(9, .long (lN (pv * ((per (nm, fa, fb, mc, rd) k9 r9).2)))), (7, .long (lN (1000 * ((per (nm, fa, fb, mc, rd) k9 r9).1)))), (6, .int (nI r9)), (5, .int (nI k9)), (4, .int (nI ah)), (0, .ref (ad 36)), (1, .int (nI pv)), (2, .int (nI tv)), (3, .int (nI iv))]) hx hb dX6_names_88 hl (by decide) rfl (fun ls hl => ?_)
                    refine lv_lload hx hb dX6_names_90 (lv_at hl 1 rfl) ?_
                    refine lv_lload hx hb dX6_names_92 (lv_at hl 0 rfl) ?_
                    refine lv_sipush (v := nI 1000) hx hb dX6_names_94 (by decide) ?_
                    refine lv_iload_n hx hb dX6_names_97 rfl (lv_at hl 7 rfl) ?_
                    refine ni_isub hx hb (by omega) dX6_names_98 ?_
                    refine ni_i2l hx hb (by omega) dX6_names_99 ?_
                    refine ni_lmul hx hb dX6_names_100 ?_
                    refine lv_lload hx hb dX6_names_101 (lv_at hl 0 rfl) ?_
                    refine lv_sipush (v := nI 1000) hx hb dX6_names_103 (by decide) ?_
                    refine lv_iload_n hx hb dX6_names_106 rfl (lv_at hl 7 rfl) ?_
                    refine ni_iadd hx hb dX6_names_107 ?_
                    refine ni_i2l hx hb (by omega) dX6_names_108 ?_
                    refine ni_lmul hx hb dX6_names_109 ?_
                    refine rc_Si (rest := []) C0 FX hH (k_X6_in_nat l X ad hi _ (1000 * ((per (nm, fa, fb, mc, rd) k9 r9).1)) ((pv * ((per (nm, fa, fb, mc, rd) k9 r9).2)) * (1000 - tv)) ((pv * ((per (nm, fa, fb, mc, rd) k9 r9).2)) * (1000 + tv)) (by omega) (by omega) (by omega)) (va_cwS 3 C0.2.2.2.2 gX6_names_X6_in rfl rfl rfl (by decide +kernel) ⟨Nat.le_of_ble_eq_true rfl, Nat.le_of_ble_eq_true rfl⟩) rfl rfl hl.1 (Nat.le_of_ble_eq_true rfl) dX6_names_110 ⟨Nat.le_of_ble_eq_true rfl, Nat.le_of_ble_eq_true rfl⟩ (fun r110 g110c H locs h110 hH => ?_)
                    obtain ⟨e110, rfl⟩ := h110
                    rw [e110] at hH
                    refine rb_eq hx hb 134 dX6_names_113 (by decide) (fun c113 => ?_) (fun c113 => ?_)
                    · have hnr : ¬ near (nm, fa, fb, mc, rd) pv tv k9 r9 := fun z => c113 (by unfold near at z; rw [Nat.mul_comm (per (nm, fa, fb, mc, rd) k9 r9).2 pv] at z; exact z)
                      refine lv_iinc (v := nI (r9 + 1)) (lv' := [(6, .int (nI (r9 + 1))), (9, .long (lN (pv * ((per (nm, fa, fb, mc, rd) k9 r9).2)))), (7, .long (lN (1000 * ((per (nm, fa, fb, mc, rd) k9 r9).1)))), (5, .int (nI k9)), (4, .int (nI ah)), (0, .ref (ad 36)), (1, .int (nI pv)), (2, .int (nI tv)), (3, .int (nI iv))]) hx hb dX6_names_134 hl (k := 2) rfl (ni_inc1 _) (by decide) rfl (fun ls hl => ?_)
                      refine lv_goto (tgt := 49) hx hb dX6_names_137 (by decide) ?_
                      exact ih49 ah (r9 + 1) _ _ ls (by omega) (by omega) (by show (match nmr (nm, fa, fb, mc, rd) pv tv iv k9 (nmm (nm, fa, fb, mc, rd) pv tv iv k9) r9 with | (some v, k) => (some v, k) | (none, k) => if near (nm, fa, fb, mc, rd) pv tv k9 r9 then (if k = iv then (some (8 * k9 + r9), k) else (none, k + 1)) else (none, k)) = _; rw [m3]; show (if _ then _ else _) = _; rw [if_neg hnr]) (by omega) hH (lv_sub hl [0, 3, 4, 5, 6, 7, 8] rfl)
                    · have hnr : near (nm, fa, fb, mc, rd) pv tv k9 r9 := by unfold near; rw [Nat.mul_comm (per (nm, fa, fb, mc, rd) k9 r9).2 pv]; exact c113
                      refine lv_iload hx hb dX6_names_116 (lv_at hl 4 rfl) ?_
                      refine lv_iload_n hx hb dX6_names_118 rfl (lv_at hl 8 rfl) ?_
                      refine ni_cne hx hb 131 dX6_names_119 (by decide) (by omega) (by omega) (fun c119 => ?_) (fun c119 => ?_)
                      · refine lv_iinc (v := nI (ah + 1)) (lv' := [(4, .int (nI (ah + 1))), (9, .long (lN (pv * ((per (nm, fa, fb, mc, rd) k9 r9).2)))), (7, .long (lN (1000 * ((per (nm, fa, fb, mc, rd) k9 r9).1)))), (6, .int (nI r9)), (5, .int (nI k9)), (0, .ref (ad 36)), (1, .int (nI pv)), (2, .int (nI tv)), (3, .int (nI iv))]) hx hb dX6_names_131 hl (k := 4) rfl (ni_inc1 _) (by decide) rfl (fun ls hl => ?_)
                        refine lv_iinc (v := nI (r9 + 1)) (lv' := [(6, .int (nI (r9 + 1))), (4, .int (nI (ah + 1))), (9, .long (lN (pv * ((per (nm, fa, fb, mc, rd) k9 r9).2)))), (7, .long (lN (1000 * ((per (nm, fa, fb, mc, rd) k9 r9).1)))), (5, .int (nI k9)), (0, .ref (ad 36)), (1, .int (nI pv)), (2, .int (nI tv)), (3, .int (nI iv))]) hx hb dX6_names_134 hl (k := 3) rfl (ni_inc1 _) (by decide) rfl (fun ls hl => ?_)
                        refine lv_goto (tgt := 49) hx hb dX6_names_137 (by decide) ?_
                        exact ih49 (ah + 1) (r9 + 1) _ _ ls (by omega) (by omega) (by show (match nmr (nm, fa, fb, mc, rd) pv tv iv k9 (nmm (nm, fa, fb, mc, rd) pv tv iv k9) r9 with | (some v, k) => (some v, k) | (none, k) => if near (nm, fa, fb, mc, rd) pv tv k9 r9 then (if k = iv then (some (8 * k9 + r9), k) else (none, k + 1)) else (none, k)) = _; rw [m3]; show (if _ then _ else _) = _; rw [if_pos hnr, if_neg c119]) (by omega) hH (lv_sub hl [0, 4, 1, 5, 6, 7, 8] rfl)
                      · refine lv_bipush (v := nI 8) hx hb dX6_names_122 (by decide) ?_
                        refine lv_iload hx hb dX6_names_124 (lv_at hl 3 rfl) ?_
                        refine ni_imul hx hb dX6_names_126 ?_
                        refine lv_iload hx hb dX6_names_127 (lv_at hl 2 rfl) ?_
                        refine ni_iadd hx hb dX6_names_129 ?_
                        refine RET _ _ _ _ _ _ dX6_names_130 rfl ?_ hH
                        refine ⟨rfl, ?_⟩
                        have hf1 : nmr (nm, fa, fb, mc, rd) pv tv iv k9 (nmm (nm, fa, fb, mc, rd) pv tv iv k9) (r9 + 1) = (some (8 * k9 + r9), ah) := by
                          show (match nmr (nm, fa, fb, mc, rd) pv tv iv k9 (nmm (nm, fa, fb, mc, rd) pv tv iv k9) r9 with | (some v, k) => (some v, k) | (none, k) => if near (nm, fa, fb, mc, rd) pv tv k9 r9 then (if k = iv then (some (8 * k9 + r9), k) else (none, k + 1)) else (none, k)) = _
                          rw [m3]
                          show (if _ then _ else _) = _
                          rw [if_pos hnr, if_pos c119]
                        have hf2 := nmr_keep hf1 (mc k9 4 - (r9 + 1))
                        rw [show r9 + 1 + (mc k9 4 - (r9 + 1)) = mc k9 4 by omega] at hf2
                        have hf3 : nmm (nm, fa, fb, mc, rd) pv tv iv (k9 + 1) = (some (8 * k9 + r9), ah) := hf2
                        have hf4 := nmm_keep hf3 (nm - (k9 + 1))
                        rw [show k9 + 1 + (nm - (k9 + 1)) = nm by omega] at hf4
                        unfold sp_names
                        rw [if_pos ⟨(rng_iff (by omega)).mpr (by omega), (rng_iff (by omega)).mpr (by omega), c25⟩, tN_nI (by omega), tN_nI (by omega), tN_nI (by omega)]
                        show _ = (match (nmm (nm, fa, fb, mc, rd) pv tv iv nm).1 with | some v => nI v | none => -1)
                        rw [hf4]
              exact L49 ((mc k9 4 - 0) + 1) ah 0 _ _ ls (Nat.zero_le _) (by omega) (j3) (Nat.lt_succ_self _) hH (lv_sub hl [0, 1, 2, 3, 4, 5, 6] rfl)
        exact L37 ((nm - 0) + 1) 0 0 _ _ ls (by omega) (by omega) (by rfl) (Nat.lt_succ_self _) hH (lv_sub hl [0, 1, 2, 3, 4, 5] rfl)
      · refine lv_bipush (v := (-2)) hx hb dX6_names_28 (by decide) ?_
        refine RET _ _ _ _ _ _ dX6_names_30 rfl ?_ hH
        refine ⟨rfl, ?_⟩
        unfold sp_names
        rw [if_neg (fun z => by first | exact absurd z.1 (by assumption) | exact absurd z.2.1 (by assumption) | exact absurd z.2.2 (by assumption))]
