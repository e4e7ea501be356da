set_option maxHeartbeats 4000000 in
set_option maxRecDepth 100000 in
theorem k_X6_common (l : Launch) (X : Cx) (ad : Nat → Nat) (hi : inj 48 ad) (g : PF) (u v : Nat) (hu : u < 2 ^ 63) (hv : v < 2 ^ 63) : Kl l yX6_common wsX6_common zr0 X 48 ad g [.long (lN u), .long (lN v)] (fun r g' => g' = g ∧ r = lN (Nat.gcd u v)) := by
  refine Kl.of (cc := cX6_common) (maxL := 10) hi (by decide) rfl (Nat.le_of_ble_eq_true rfl) ?_
  intro p e s m below meth c Q E RET ls hl
  obtain ⟨C0, FX, hH⟩ := E
  have hx := C0.1
  have hb := C0.2.1
  have hl : lv_has ls 10 [(0, .long (lN u)), (2, .long (lN v))] := hl
  refine lv_lload_n hx hb dX6_common_0 rfl (lv_at hl 0 rfl) ?_
  refine lv_lstore (lv' := [(4, .long (lN u)), (0, .long (lN u)), (2, .long (lN v))]) hx hb dX6_common_1 hl (by decide) rfl (fun ls hl => ?_)
  refine lv_lload_n hx hb dX6_common_3 rfl (lv_at hl 2 rfl) ?_
  refine lv_lstore (lv' := [(6, .long (lN v)), (4, .long (lN u)), (0, .long (lN u)), (2, .long (lN v))]) hx hb dX6_common_4 hl (by decide) rfl (fun ls hl => ?_)
  have L6 : ∀ (fu : Nat) (x : Nat) (y : Nat) (ls : Array Slot), (Nat.gcd x y = Nat.gcd u v) → (x < 2 ^ 63 ∧ y < 2 ^ 63) → y < fu → lv_has ls 10 [(6, .long (lN y)), (4, .long (lN x)), (0, .long (lN u)), (2, .long (lN v))] → W p l e zr0 s m ([.long (lN u), .long (lN v)] : List Value).toArray below meth c s.heap [] 0 0 Q (F0 m 6 ls []) := by
    intro fu
    induction fu with
    | zero =>
      intro x y  ls i2 i3 hm
      exact absurd hm (Nat.not_lt_zero _)
    | succ fu ih =>
      have ih6 := ih; clear ih
      intro x y  ls i2 i3 hm6  hl
      refine lv_lload hx hb dX6_common_6 (lv_at hl 0 rfl) ?_
      refine lv_lconst (v := lN 0) hx hb dX6_common_8 (by decide) ?_
      refine nl_eq hx hb 31 dX6_common_9 dX6_common_10 (by decide) i3.2 (by omega) (fun c9 => ?_) (fun c9 => ?_)
      · refine lv_lload hx hb dX6_common_31 (lv_at hl 1 rfl) ?_
        refine RET _ _ _ _ _ _ dX6_common_33 ?_ hH
        refine ⟨rfl, ?_⟩
        rw [← i2, c9, Nat.gcd_zero_right]
      · have c9 : 0 < y := by omega
        refine lv_lload hx hb dX6_common_13 (lv_at hl 1 rfl) ?_
        refine lv_lload hx hb dX6_common_15 (lv_at hl 0 rfl) ?_
        refine ni_lrem hx hb i3.1 (by omega) i3.2 dX6_common_17 ?_
        refine lv_lstore (lv' := [(8, .long (lN (x % y))), (6, .long (lN y)), (4, .long (lN x)), (0, .long (lN u)), (2, .long (lN v))]) hx hb dX6_common_18 hl (by decide) rfl (fun ls hl => ?_)
        refine lv_lload hx hb dX6_common_20 (lv_at hl 1 rfl) ?_
        refine lv_lstore (lv' := [(4, .long (lN y)), (8, .long (lN (x % y))), (6, .long (lN y)), (0, .long (lN u)), (2, .long (lN v))]) hx hb dX6_common_22 hl (by decide) rfl (fun ls hl => ?_)
        refine lv_lload hx hb dX6_common_24 (lv_at hl 1 rfl) ?_
        refine lv_lstore (lv' := [(6, .long (lN (x % y))), (4, .long (lN y)), (8, .long (lN (x % y))), (0, .long (lN u)), (2, .long (lN v))]) hx hb dX6_common_26 hl (by decide) rfl (fun ls hl => ?_)
        refine lv_goto (tgt := 6) hx hb dX6_common_28 (by decide) ?_
        exact ih6 y (x % y) ls (by rw [← i2]; rw [Nat.gcd_comm x y, Nat.gcd_rec y x]; exact Nat.gcd_comm _ _) (⟨i3.2, by have := Nat.mod_lt x c9; omega⟩) (by have := Nat.mod_lt x c9; omega) (lv_sub hl [0, 1, 3, 4] rfl)
  exact L6 (v + 1) u v ls (by rfl) (⟨hu, hv⟩) (Nat.lt_succ_self _) (lv_sub hl [0, 1, 2, 3] rfl)
set_option maxHeartbeats 4000000 in
set_option maxRecDepth 100000 in
theorem k_X6_isRow (l : Launch) (X : Cx) (ad : Nat → Nat) (hi : inj 48 ad) (g : PF) (p0 : Int32) : Ki l yX6_isRow wsX6_isRow zr1 X 48 ad g [.int p0] (fun r g' => g' = g ∧ r = bI (rng p0 0 7)) := by
  refine Ki.of (cc := cX6_isRow) (maxL := 1) hi (by decide) rfl (Nat.le_of_ble_eq_true rfl) ?_
  intro p e s m below meth c Q E RET ls hl
  obtain ⟨C0, FX, hH⟩ := E
  have hx := C0.1
  have hb := C0.2.1
  have kl95 := C0.2.2.2.2 (.constantLong RX6 95 (lN 7)) (by decide +kernel)
  have hl : lv_has ls 1 [(0, .int p0)] := hl
  refine lv_iload_n hx hb dX6_isRow_0 rfl (lv_at hl 0 rfl) ?_
  refine lv_i2l hx hb dX6_isRow_1 rfl ?_
  refine lv_lconst (v := lN 0) hx hb dX6_isRow_2 (by decide) ?_
  refine lv_ldc2 hx hb C0.2.2.2.1 kl95 dX6_isRow_3 ?_
  refine rc_Si (rest := []) C0 FX hH (k_X6_in_rng l X ad hi _ p0 0 7 (by omega) (by omega)) (va_cwS 3 C0.2.2.2.2 gX6_isRow_X6_in rfl rfl rfl (by decide +kernel) ⟨Nat.le_of_ble_eq_true rfl, Nat.le_of_ble_eq_true rfl⟩) rfl rfl hl.1 (Nat.le_of_ble_eq_true rfl) dX6_isRow_6 ⟨Nat.le_of_ble_eq_true rfl, Nat.le_of_ble_eq_true rfl⟩ (fun r6 g6c H locs h6 hH => ?_)
  obtain ⟨e6, rfl⟩ := h6
  rw [e6] at hH
  refine RET _ _ _ _ _ _ dX6_isRow_9 bI_nar ?_ hH
  exact ⟨rfl, rfl⟩
set_option maxHeartbeats 4000000 in
set_option maxRecDepth 100000 in
theorem k_X6_isRow_nat (l : Launch) (X : Cx) (ad : Nat → Nat) (hi : inj 48 ad) (g : PF) (v : Nat) (hv : v < 2147483648) : Ki l yX6_isRow wsX6_isRow zr1 X 48 ad g [.int (nI v)] (fun r g' => g' = g ∧ r = bI (v ≤ 7)) := by
  refine Ki.of (cc := cX6_isRow) (maxL := 1) hi (by decide) rfl (Nat.le_of_ble_eq_true rfl) ?_
  intro p e s m below meth c Q E RET ls hl
  obtain ⟨C0, FX, hH⟩ := E
  have hx := C0.1
  have hb := C0.2.1
  have kl95 := C0.2.2.2.2 (.constantLong RX6 95 (lN 7)) (by decide +kernel)
  have hl : lv_has ls 1 [(0, .int (nI v))] := hl
  refine lv_iload_n hx hb dX6_isRow_0 rfl (lv_at hl 0 rfl) ?_
  refine ni_i2l hx hb (by omega) dX6_isRow_1 ?_
  refine lv_lconst (v := lN 0) hx hb dX6_isRow_2 (by decide) ?_
  refine lv_ldc2 hx hb C0.2.2.2.1 kl95 dX6_isRow_3 ?_
  refine rc_Si (rest := []) C0 FX hH (k_X6_in_nat l X ad hi _ v 0 7 (by omega) (by omega) (by omega)) (va_cwS 3 C0.2.2.2.2 gX6_isRow_X6_in rfl rfl rfl (by decide +kernel) ⟨Nat.le_of_ble_eq_true rfl, Nat.le_of_ble_eq_true rfl⟩) rfl rfl hl.1 (Nat.le_of_ble_eq_true rfl) dX6_isRow_6 ⟨Nat.le_of_ble_eq_true rfl, Nat.le_of_ble_eq_true rfl⟩ (fun r6 g6c H locs h6 hH => ?_)
  obtain ⟨e6, rfl⟩ := h6
  rw [e6] at hH
  refine RET _ _ _ _ _ _ dX6_isRow_9 bI_nar ?_ hH
  exact ⟨rfl, bI_congr ⟨fun z => z.2, fun z => ⟨Nat.zero_le _, z⟩⟩⟩
set_option maxHeartbeats 4000000 in
set_option maxRecDepth 100000 in
theorem k_X6_isMass_nat (l : Launch) (X : Cx) (ad : Nat → Nat) (hi : inj 48 ad) (g : PF) (v : Nat) (hv : v < 2 ^ 63) : Ki l yX6_isMass wsX6_isMass zr1 X 48 ad g [.long (lN v)] (fun r g' => g' = g ∧ r = bI (v ≤ 1000000)) := by
  refine Ki.of (cc := cX6_isMass) (maxL := 2) hi (by decide) rfl (Nat.le_of_ble_eq_true rfl) ?_
  intro p e s m below meth c Q E RET ls hl
  obtain ⟨C0, FX, hH⟩ := E
  have hx := C0.1
  have hb := C0.2.1
  have kl91 := C0.2.2.2.2 (.constantLong RX6 91 (lN 1000000)) (by decide +kernel)
  have hl : lv_has ls 2 [(0, .long (lN v))] := hl
  refine lv_lload_n hx hb dX6_isMass_0 rfl (lv_at hl 0 rfl) ?_
  refine lv_lconst (v := lN 0) hx hb dX6_isMass_1 (by decide) ?_
  refine lv_ldc2 hx hb C0.2.2.2.1 kl91 dX6_isMass_2 ?_
  refine rc_Si (rest := []) C0 FX hH (k_X6_in_nat l X ad hi _ v 0 1000000 (by omega) (by omega) (by omega)) (va_cwS 3 C0.2.2.2.2 gX6_isMass_X6_in rfl rfl rfl (by decide +kernel) ⟨Nat.le_of_ble_eq_true rfl, Nat.le_of_ble_eq_true rfl⟩) rfl rfl hl.1 (Nat.le_of_ble_eq_true rfl) dX6_isMass_5 ⟨Nat.le_of_ble_eq_true rfl, Nat.le_of_ble_eq_true rfl⟩ (fun r5 g5c H locs h5 hH => ?_)
  obtain ⟨e5, rfl⟩ := h5
  rw [e5] at hH
  refine RET _ _ _ _ _ _ dX6_isMass_8 bI_nar ?_ hH
  exact ⟨rfl, bI_congr ⟨fun z => z.2, fun z => ⟨Nat.zero_le _, z⟩⟩⟩
set_option maxHeartbeats 4000000 in
set_option maxRecDepth 100000 in
theorem k_X6_isMass_rng (l : Launch) (X : Cx) (ad : Nat → Nat) (hi : inj 48 ad) (g : PF) (p0 : Int32) : Ki l yX6_isMass wsX6_isMass zr1 X 48 ad g [.long ((p0).toInt64)] (fun r g' => g' = g ∧ r = bI (rng p0 0 1000000)) := by
  refine Ki.of (cc := cX6_isMass) (maxL := 2) hi (by decide) rfl (Nat.le_of_ble_eq_true rfl) ?_
  intro p e s m below meth c Q E RET ls hl
  obtain ⟨C0, FX, hH⟩ := E
  have hx := C0.1
  have hb := C0.2.1
  have kl91 := C0.2.2.2.2 (.constantLong RX6 91 (lN 1000000)) (by decide +kernel)
  have hl : lv_has ls 2 [(0, .long ((p0).toInt64))] := hl
  refine lv_lload_n hx hb dX6_isMass_0 rfl (lv_at hl 0 rfl) ?_
  refine lv_lconst (v := lN 0) hx hb dX6_isMass_1 (by decide) ?_
  refine lv_ldc2 hx hb C0.2.2.2.1 kl91 dX6_isMass_2 ?_
  refine rc_Si (rest := []) C0 FX hH (k_X6_in_rng l X ad hi _ p0 0 1000000 (by omega) (by omega)) (va_cwS 3 C0.2.2.2.2 gX6_isMass_X6_in rfl rfl rfl (by decide +kernel) ⟨Nat.le_of_ble_eq_true rfl, Nat.le_of_ble_eq_true rfl⟩) rfl rfl hl.1 (Nat.le_of_ble_eq_true rfl) dX6_isMass_5 ⟨Nat.le_of_ble_eq_true rfl, Nat.le_of_ble_eq_true rfl⟩ (fun r5 g5c H locs h5 hH => ?_)
  obtain ⟨e5, rfl⟩ := h5
  rw [e5] at hH
  refine RET _ _ _ _ _ _ dX6_isMass_8 bI_nar ?_ hH
  exact ⟨rfl, rfl⟩
set_option maxHeartbeats 4000000 in
set_option maxRecDepth 100000 in
theorem k_X6_isLaw (l : Launch) (X : Cx) (ad : Nat → Nat) (hi : inj 48 ad) (g : PF) (th tn lq : Int32) : Ki l yX6_isLaw wsX6_isLaw zr1 X 48 ad g [.int th, .int tn, .int lq] (fun r g' => g' = g ∧ r = bI (lawP th tn lq)) := by
  refine Ki.of (cc := cX6_isLaw) (maxL := 3) hi (by decide) rfl (Nat.le_of_ble_eq_true rfl) ?_
  intro p e s m below meth c Q E RET ls hl
  obtain ⟨C0, FX, hH⟩ := E
  have hx := C0.1
  have hb := C0.2.1
  have kl104 := C0.2.2.2.2 (.constantLong RX6 104 (lN 100)) (by decide +kernel)
  have kl139 := C0.2.2.2.2 (.constantLong RX6 139 (lN 50)) (by decide +kernel)
  have kl71 := C0.2.2.2.2 (.constantLong RX6 71 (lN 1000)) (by decide +kernel)
  have hl : lv_has ls 3 [(0, .int th), (1, .int tn), (2, .int lq)] := hl
  refine lv_iload_n hx hb dX6_isLaw_0 rfl (lv_at hl 0 rfl) ?_
  refine lv_i2l hx hb dX6_isLaw_1 rfl ?_
  refine lv_lconst (v := lN 1) hx hb dX6_isLaw_2 (by decide) ?_
  refine lv_ldc2 hx hb C0.2.2.2.1 kl71 dX6_isLaw_3 ?_
  refine rc_Si (rest := []) C0 FX hH (k_X6_in_rng l X ad hi _ th 1 1000 (by omega) (by omega)) (va_cwS 3 C0.2.2.2.2 gX6_isLaw_X6_in rfl rfl rfl (by decide +kernel) ⟨Nat.le_of_ble_eq_true rfl, Nat.le_of_ble_eq_true rfl⟩) rfl rfl hl.1 (Nat.le_of_ble_eq_true rfl) dX6_isLaw_6 ⟨Nat.le_of_ble_eq_true rfl, Nat.le_of_ble_eq_true rfl⟩ (fun r6 g6c H locs h6 hH => ?_)
  obtain ⟨e6, rfl⟩ := h6
  rw [e6] at hH
  refine rb_eq hx hb 40 dX6_isLaw_9 (by decide) (fun c9 => ?_) (fun c9 => ?_)
  · refine lv_iconst (v := nI 0) hx hb dX6_isLaw_40 (by decide) ?_
    refine RET _ _ _ _ _ _ dX6_isLaw_41 (by decide) ?_ hH
    refine ⟨rfl, ?_⟩
    exact (bI_f (fun z => by first | exact absurd z.1 (by assumption) | exact absurd z.2.1 (by assumption) | exact absurd z.2.2 (by assumption))).symm
  · refine lv_iload_n hx hb dX6_isLaw_12 rfl (lv_at hl 1 rfl) ?_
    refine lv_i2l hx hb dX6_isLaw_13 rfl ?_
    refine lv_lconst (v := lN 0) hx hb dX6_isLaw_14 (by decide) ?_
    refine lv_ldc2 hx hb C0.2.2.2.1 kl104 dX6_isLaw_15 ?_
    refine rc_Si (rest := []) C0 FX hH (k_X6_in_rng l X ad hi _ tn 0 100 (by omega) (by omega)) (va_cwS 3 C0.2.2.2.2 gX6_isLaw_X6_in rfl rfl rfl (by decide +kernel) ⟨Nat.le_of_ble_eq_true rfl, Nat.le_of_ble_eq_true rfl⟩) rfl rfl hl.1 (Nat.le_of_ble_eq_true rfl) dX6_isLaw_18 ⟨Nat.le_of_ble_eq_true rfl, Nat.le_of_ble_eq_true rfl⟩ (fun r18 g18c H locs h18 hH => ?_)
    obtain ⟨e18, rfl⟩ := h18
    rw [e18] at hH
    refine rb_eq hx hb 40 dX6_isLaw_21 (by decide) (fun c21 => ?_) (fun c21 => ?_)
    · refine lv_iconst (v := nI 0) hx hb dX6_isLaw_40 (by decide) ?_
      refine RET _ _ _ _ _ _ dX6_isLaw_41 (by decide) ?_ hH
      refine ⟨rfl, ?_⟩
      exact (bI_f (fun z => by first | exact absurd z.1 (by assumption) | exact absurd z.2.1 (by assumption) | exact absurd z.2.2 (by assumption))).symm
    · refine lv_iload_n hx hb dX6_isLaw_24 rfl (lv_at hl 2 rfl) ?_
      refine lv_i2l hx hb dX6_isLaw_25 rfl ?_
      refine lv_lconst (v := lN 1) hx hb dX6_isLaw_26 (by decide) ?_
      refine lv_ldc2 hx hb C0.2.2.2.1 kl139 dX6_isLaw_27 ?_
      refine rc_Si (rest := []) C0 FX hH (k_X6_in_rng l X ad hi _ lq 1 50 (by omega) (by omega)) (va_cwS 3 C0.2.2.2.2 gX6_isLaw_X6_in rfl rfl rfl (by decide +kernel) ⟨Nat.le_of_ble_eq_true rfl, Nat.le_of_ble_eq_true rfl⟩) rfl rfl hl.1 (Nat.le_of_ble_eq_true rfl) dX6_isLaw_30 ⟨Nat.le_of_ble_eq_true rfl, Nat.le_of_ble_eq_true rfl⟩ (fun r30 g30c H locs h30 hH => ?_)
      obtain ⟨e30, rfl⟩ := h30
      rw [e30] at hH
      refine rb_eq hx hb 40 dX6_isLaw_33 (by decide) (fun c33 => ?_) (fun c33 => ?_)
      · refine lv_iconst (v := nI 0) hx hb dX6_isLaw_40 (by decide) ?_
        refine RET _ _ _ _ _ _ dX6_isLaw_41 (by decide) ?_ hH
        refine ⟨rfl, ?_⟩
        exact (bI_f (fun z => by first | exact absurd z.1 (by assumption) | exact absurd z.2.1 (by assumption) | exact absurd z.2.2 (by assumption))).symm
      · refine lv_iconst (v := nI 1) hx hb dX6_isLaw_36 (by decide) ?_
        refine lv_goto (tgt := 41) hx hb dX6_isLaw_37 (by decide) ?_
        refine RET _ _ _ _ _ _ dX6_isLaw_41 (by decide) ?_ hH
        refine ⟨rfl, ?_⟩
        exact (bI_t ⟨by assumption, by assumption, by assumption⟩).symm
set_option maxHeartbeats 4000000 in
set_option maxRecDepth 100000 in
theorem k_X6_isMachine (l : Launch) (X : Cx) (ad : Nat → Nat) (hi : inj 48 ad) (g : PF) (nm fa fb : Nat) (mc rd : Nat → Nat → Nat) (nr : Nat → Nat) (ar : Nat → Nat → Nat) (nb : Nat) (num : Nat → Nat) (lay pev : Nat) (pln : Nat → Nat) (tr : Nat) (hR : rMod X ad ((nm, fa, fb, mc, rd), nr, ar, (nb, num, lay, pev, pln, tr)) g) (p0 : Int32) : Ki l yX6_isMachine wsX6_isMachine zr1 X 48 ad g [.ref (ad 36), .int p0] (fun r g' => g' = g ∧ r = bI (rngS p0 nm)) := by
  refine Ki.of (cc := cX6_isMachine) (maxL := 2) hi (by decide) rfl (Nat.le_of_ble_eq_true rfl) ?_
  intro p e s m below meth c Q E RET ls hl
  obtain ⟨C0, FX, hH⟩ := E
  have hx := C0.1
  have hb := C0.2.1
  have kiX6 : ∀ w ∈ u_ws RX6 TX6 18, w ∈ wsX6_isMachine := (by decide +kernel)
  have kf64 : Cond.fieldLink RX6 64 "YarnMillModel" "machines" "I" ∈ wsX6_isMachine := (by decide +kernel)
  have hl : lv_has ls 2 [(0, .ref (ad 36)), (1, .int p0)] := hl
  obtain ⟨md, ma, mb, ml, mr, mo, cn, ms, fs, nn, pl, pm, f36, f37, f38, f39, f40, f41, f42, f43, f44, f45, f46, f47, hrL, hrR, hrS, hlok, hrok, hsok, hpm⟩ := hR
  have f36 : g 36 = .inr (6, [.int (nI fa), .int (nI fb), .int (nI nm), .ref (ad 37), .ref (ad 38), .ref (ad 39), .ref (ad 40), .ref (ad 41), .ref (ad 42), .ref (ad 43), .ref (ad 44), .ref (ad 45), .int (nI nb), .ref (ad 46), .int (nI lay), .int (nI pm), .ref (ad 47), .int (nI tr)]) := f36
  have hq37 : ∀ j, j < nm → md j = mc j 0 := fun j hj => (hrL.1 j hj).1
  have hq38 : ∀ j, j < nm → ma j = mc j 1 := fun j hj => (hrL.1 j hj).2.1
  have hq39 : ∀ j, j < nm → mb j = mc j 2 := fun j hj => (hrL.1 j hj).2.2.1
  have hq40 : ∀ j, j < nm → ml j = mc j 3 := fun j hj => (hrL.1 j hj).2.2.2.1
  have hq41 : ∀ j, j < nm → mr j = mc j 4 := fun j hj => (hrL.1 j hj).2.2.2.2
  have hmo : ∀ j, j < nm → ∀ r, r < mc j 4 → mo (3 * j + r) = rd j r := hrL.2
  have h6 : nm ≤ 6 := hlok.1
  have hfa : 1 ≤ fa ∧ fa ≤ 10000 := hlok.2.1
  have hfb : 1 ≤ fb ∧ fb ≤ 10000 := hlok.2.2.1
  have hmk : ∀ j, j < nm → mcOk (mc j) ∧ ∀ r, r < mc j 4 → 1 ≤ rd j r ∧ rd j r ≤ 1000 := hlok.2.2.2
  have hcn : ∀ r, r < 8 → cn r = nr r := hrR.1
  have hms : ∀ r, r < 8 → ∀ j, j < nr r → ms (400 * r + j) = ar r j := hrR.2
  have hro : ∀ r, r < 8 → nr r ≤ 400 ∧ ∀ j, j < nr r → ar r j ≤ 1000000 := hrok
  have hnn : ∀ j, j < nb → nn j = num j := hrS.1
  have hper : 0 < lay → pm = pev := hrS.2.1
  have hpl : ∀ j, j < lay * pev → pl j = pln j := hrS.2.2
  obtain ⟨k1, k2, k3, k4, k5, k6, k7⟩ := id hsok
  have k1 : nb ≤ 12 := k1
  have k2 : ∀ j, j < nb → num j ≤ 10000 := k2
  have k3 : 0 < lay → (1 ≤ pev ∧ pev ≤ 6) := k3
  have k4 : lay * pev ≤ 12 := k4
  have k5 : ∀ j, j < lay * pev → pln j ≤ 12 := k5
  have k6 : tr ≤ 100000 := k6
  have k7 : lay ≤ 12 := k7
  refine lv_iload_n hx hb dX6_isMachine_0 rfl (lv_at hl 1 rfl) ?_
  refine lv_i2l hx hb dX6_isMachine_1 rfl ?_
  refine lv_lconst (v := lN 0) hx hb dX6_isMachine_2 (by decide) ?_
  refine lv_aload_n hx hb dX6_isMachine_3 rfl (lv_at hl 0 rfl) ?_
  refine rp_get C0 FX hH 36 (by decide) (ci := 6) (k := 2) f36 rfl kiX6 (by decide) kf64 rfl dX6_isMachine_4 ?_
  refine lv_iconst (v := nI 1) hx hb dX6_isMachine_7 (by decide) ?_
  refine lv_isub hx hb dX6_isMachine_8 ?_
  refine lv_i2l hx hb dX6_isMachine_9 rfl ?_
  refine rc_Si (rest := []) C0 FX hH (k_X6_in_rngS l X ad hi _ p0 nm (by omega)) (va_cwS 3 C0.2.2.2.2 gX6_isMachine_X6_in rfl rfl rfl (by decide +kernel) ⟨Nat.le_of_ble_eq_true rfl, Nat.le_of_ble_eq_true rfl⟩) rfl rfl hl.1 (Nat.le_of_ble_eq_true rfl) dX6_isMachine_10 ⟨Nat.le_of_ble_eq_true rfl, Nat.le_of_ble_eq_true rfl⟩ (fun r10 g10c H locs h10 hH => ?_)
  obtain ⟨e10, rfl⟩ := h10
  rw [e10] at hH
  refine RET _ _ _ _ _ _ dX6_isMachine_13 bI_nar ?_ hH
  exact ⟨rfl, rfl⟩
set_option maxHeartbeats 4000000 in
set_option maxRecDepth 100000 in
theorem k_X6_count (l : Launch) (X : Cx) (ad : Nat → Nat) (hi : inj 48 ad) (g : PF) (nm fa fb : Nat) (mc rd : Nat → Nat → Nat) (nr : Nat → Nat) (ar : Nat → Nat → Nat) (nb : Nat) (num : Nat → Nat) (lay pev : Nat) (pln : Nat → Nat) (tr : Nat) (hR : rMod X ad ((nm, fa, fb, mc, rd), nr, ar, (nb, num, lay, pev, pln, tr)) g) (p0 p1 : Int32) : Ki l yX6_count wsX6_count zr1 X 48 ad g [.ref (ad 36), .int p0, .int p1] (fun r g' => r = (lineOp (sp_count p0 p1) ((nm, fa, fb, mc, rd), nr, ar, (nb, num, lay, pev, pln, tr))).1 ∧ rMod X ad (lineOp (sp_count p0 p1) ((nm, fa, fb, mc, rd), nr, ar, (nb, num, lay, pev, pln, tr))).2 g' ∧ frM g g') := by
  refine Ki.of (cc := cX6_count) (maxL := 3) hi (by decide) rfl (Nat.le_of_ble_eq_true rfl) ?_
  intro p e s m below meth c Q E RET ls hl
  obtain ⟨C0, FX, hH⟩ := E
  have hx := C0.1
  have hb := C0.2.1
  have kl50 := C0.2.2.2.2 (.constantLong RX6 50 (lN 10000)) (by decide +kernel)
  have kiX6 : ∀ w ∈ u_ws RX6 TX6 18, w ∈ wsX6_count := (by decide +kernel)
  have kf13 : Cond.fieldLink RX6 13 "YarnMillModel" "below" "I" ∈ wsX6_count := (by decide +kernel)
  have kf7 : Cond.fieldLink RX6 7 "YarnMillModel" "above" "I" ∈ wsX6_count := (by decide +kernel)
  have hl : lv_has ls 3 [(0, .ref (ad 36)), (1, .int p0), (2, .int p1)] := hl
  have fr : ∀ j, (j < 36) → g j = g j := fun j _ => rfl
  obtain ⟨md, ma, mb, ml, mr, mo, cn, ms, fs, nn, pl, pm, f36, f37, f38, f39, f40, f41, f42, f43, f44, f45, f46, f47, hrL, hrR, hrS, hlok, hrok, hsok, hpm⟩ := hR
  have f36 : g 36 = .inr (6, [.int (nI fa), .int (nI fb), .int (nI nm), .ref (ad 37), .ref (ad 38), .ref (ad 39), .ref (ad 40), .ref (ad 41), .ref (ad 42), .ref (ad 43), .ref (ad 44), .ref (ad 45), .int (nI nb), .ref (ad 46), .int (nI lay), .int (nI pm), .ref (ad 47), .int (nI tr)]) := f36
  have hq37 : ∀ j, j < nm → md j = mc j 0 := fun j hj => (hrL.1 j hj).1
  have hq38 : ∀ j, j < nm → ma j = mc j 1 := fun j hj => (hrL.1 j hj).2.1
  have hq39 : ∀ j, j < nm → mb j = mc j 2 := fun j hj => (hrL.1 j hj).2.2.1
  have hq40 : ∀ j, j < nm → ml j = mc j 3 := fun j hj => (hrL.1 j hj).2.2.2.1
  have hq41 : ∀ j, j < nm → mr j = mc j 4 := fun j hj => (hrL.1 j hj).2.2.2.2
  have hmo : ∀ j, j < nm → ∀ r, r < mc j 4 → mo (3 * j + r) = rd j r := hrL.2
  have h6 : nm ≤ 6 := hlok.1
  have hfa : 1 ≤ fa ∧ fa ≤ 10000 := hlok.2.1
  have hfb : 1 ≤ fb ∧ fb ≤ 10000 := hlok.2.2.1
  have hmk : ∀ j, j < nm → mcOk (mc j) ∧ ∀ r, r < mc j 4 → 1 ≤ rd j r ∧ rd j r ≤ 1000 := hlok.2.2.2
  have hcn : ∀ r, r < 8 → cn r = nr r := hrR.1
  have hms : ∀ r, r < 8 → ∀ j, j < nr r → ms (400 * r + j) = ar r j := hrR.2
  have hro : ∀ r, r < 8 → nr r ≤ 400 ∧ ∀ j, j < nr r → ar r j ≤ 1000000 := hrok
  have hnn : ∀ j, j < nb → nn j = num j := hrS.1
  have hper : 0 < lay → pm = pev := hrS.2.1
  have hpl : ∀ j, j < lay * pev → pl j = pln j := hrS.2.2
  obtain ⟨k1, k2, k3, k4, k5, k6, k7⟩ := id hsok
  have k1 : nb ≤ 12 := k1
  have k2 : ∀ j, j < nb → num j ≤ 10000 := k2
  have k3 : 0 < lay → (1 ≤ pev ∧ pev ≤ 6) := k3
  have k4 : lay * pev ≤ 12 := k4
  have k5 : ∀ j, j < lay * pev → pln j ≤ 12 := k5
  have k6 : tr ≤ 100000 := k6
  have k7 : lay ≤ 12 := k7
  refine lv_iload_n hx hb dX6_count_0 rfl (lv_at hl 1 rfl) ?_
  refine lv_i2l hx hb dX6_count_1 rfl ?_
  refine lv_lconst (v := lN 1) hx hb dX6_count_2 (by decide) ?_
  refine lv_ldc2 hx hb C0.2.2.2.1 kl50 dX6_count_3 ?_
  refine rc_Si (rest := []) C0 FX hH (k_X6_in_rng l X ad hi _ p0 1 10000 (by omega) (by omega)) (va_cwS 3 C0.2.2.2.2 gX6_count_X6_in rfl rfl rfl (by decide +kernel) ⟨Nat.le_of_ble_eq_true rfl, Nat.le_of_ble_eq_true rfl⟩) rfl rfl hl.1 (Nat.le_of_ble_eq_true rfl) dX6_count_6 ⟨Nat.le_of_ble_eq_true rfl, Nat.le_of_ble_eq_true rfl⟩ (fun r6 g6c H locs h6 hH => ?_)
  obtain ⟨e6, rfl⟩ := h6
  rw [e6] at hH
  refine rb_eq hx hb 24 dX6_count_9 (by decide) (fun c9 => ?_) (fun c9 => ?_)
  · refine lv_bipush (v := (-2)) hx hb dX6_count_24 (by decide) ?_
    refine RET _ _ _ _ _ _ dX6_count_26 rfl ?_ hH
    exact postM (by unfold lineOp sp_count; rw [if_neg (fun z => by first | exact absurd z.1 (by assumption) | exact absurd z.2 (by assumption))]) ⟨_, _, _, _, _, _, _, _, _, _, _, _, f36, f37, f38, f39, f40, f41, f42, f43, f44, f45, f46, f47, hrL, hrR, hrS, hlok, hrok, hsok, hpm⟩ fr
  · obtain ⟨av, rfl, av1, av2, av3⟩ := rng_nI c9
    refine lv_iload_n hx hb dX6_count_12 rfl (lv_at hl 2 rfl) ?_
    refine lv_i2l hx hb dX6_count_13 rfl ?_
    refine lv_lconst (v := lN 1) hx hb dX6_count_14 (by decide) ?_
    refine lv_ldc2 hx hb C0.2.2.2.1 kl50 dX6_count_15 ?_
    refine rc_Si (rest := []) C0 FX hH (k_X6_in_rng l X ad hi _ p1 1 10000 (by omega) (by omega)) (va_cwS 3 C0.2.2.2.2 gX6_count_X6_in rfl rfl rfl (by decide +kernel) ⟨Nat.le_of_ble_eq_true rfl, Nat.le_of_ble_eq_true rfl⟩) rfl rfl hl.1 (Nat.le_of_ble_eq_true rfl) dX6_count_18 ⟨Nat.le_of_ble_eq_true rfl, Nat.le_of_ble_eq_true rfl⟩ (fun r18 g18c H locs h18 hH => ?_)
    obtain ⟨e18, rfl⟩ := h18
    rw [e18] at hH
    refine rb_ne hx hb 27 dX6_count_21 (by decide) (fun c21 => ?_) (fun c21 => ?_)
    · obtain ⟨bv, rfl, bv1, bv2, bv3⟩ := rng_nI c21
      refine lv_aload_n hx hb dX6_count_27 rfl (lv_at hl 0 rfl) ?_
      refine lv_iload_n hx hb dX6_count_28 rfl (lv_at hl 1 rfl) ?_
      refine rp_put C0 FX hH 36 (by decide) (ci := 6) (k := 0) tyX6 tyX6_ok nmX6 f36 rfl kiX6 (by decide) kf7 rfl rfl rfl (Nat.le_of_ble_eq_true rfl) dX6_count_29 (fun g1 H locs eq2 nq2 hH => ?_)
      have f36 : g1 36 = .inr (6, [.int (nI av), .int (nI fb), .int (nI nm), .ref (ad 37), .ref (ad 38), .ref (ad 39), .ref (ad 40), .ref (ad 41), .ref (ad 42), .ref (ad 43), .ref (ad 44), .ref (ad 45), .int (nI nb), .ref (ad 46), .int (nI lay), .int (nI pm), .ref (ad 47), .int (nI tr)]) := eq2
      have f37 : g1 37 = arr X 6 md := (nq2 _ (by omega)).trans f37
      have f38 : g1 38 = arr X 6 ma := (nq2 _ (by omega)).trans f38
      have f39 : g1 39 = arr X 6 mb := (nq2 _ (by omega)).trans f39
      have f40 : g1 40 = arr X 6 ml := (nq2 _ (by omega)).trans f40
      have f41 : g1 41 = arr X 6 mr := (nq2 _ (by omega)).trans f41
      have f42 : g1 42 = arr X 18 mo := (nq2 _ (by omega)).trans f42
      have f43 : g1 43 = arr X 8 cn := (nq2 _ (by omega)).trans f43
      have f44 : g1 44 = arr X 3200 ms := (nq2 _ (by omega)).trans f44
      have f45 : g1 45 = arr X 400 fs := (nq2 _ (by omega)).trans f45
      have f46 : g1 46 = arr X 12 nn := (nq2 _ (by omega)).trans f46
      have f47 : g1 47 = arr X 12 pl := (nq2 _ (by omega)).trans f47
      have fr : ∀ j, (j < 36) → g1 j = g j := fun j a0 => (nq2 j (by omega)).trans (fr j a0)
      refine lv_aload_n hx hb dX6_count_32 rfl (lv_at hl 0 rfl) ?_
      refine lv_iload_n hx hb dX6_count_33 rfl (lv_at hl 2 rfl) ?_
      refine rp_put C0 FX hH 36 (by decide) (ci := 6) (k := 1) tyX6 tyX6_ok nmX6 f36 rfl kiX6 (by decide) kf13 rfl rfl rfl (Nat.le_of_ble_eq_true rfl) dX6_count_34 (fun g3 H locs eq4 nq4 hH => ?_)
      have f36 : g3 36 = .inr (6, [.int (nI av), .int (nI bv), .int (nI nm), .ref (ad 37), .ref (ad 38), .ref (ad 39), .ref (ad 40), .ref (ad 41), .ref (ad 42), .ref (ad 43), .ref (ad 44), .ref (ad 45), .int (nI nb), .ref (ad 46), .int (nI lay), .int (nI pm), .ref (ad 47), .int (nI tr)]) := eq4
      have f37 : g3 37 = arr X 6 md := (nq4 _ (by omega)).trans f37
      have f38 : g3 38 = arr X 6 ma := (nq4 _ (by omega)).trans f38
      have f39 : g3 39 = arr X 6 mb := (nq4 _ (by omega)).trans f39
      have f40 : g3 40 = arr X 6 ml := (nq4 _ (by omega)).trans f40
      have f41 : g3 41 = arr X 6 mr := (nq4 _ (by omega)).trans f41
      have f42 : g3 42 = arr X 18 mo := (nq4 _ (by omega)).trans f42
      have f43 : g3 43 = arr X 8 cn := (nq4 _ (by omega)).trans f43
      have f44 : g3 44 = arr X 3200 ms := (nq4 _ (by omega)).trans f44
      have f45 : g3 45 = arr X 400 fs := (nq4 _ (by omega)).trans f45
      have f46 : g3 46 = arr X 12 nn := (nq4 _ (by omega)).trans f46
      have f47 : g3 47 = arr X 12 pl := (nq4 _ (by omega)).trans f47
      have fr : ∀ j, (j < 36) → g3 j = g j := fun j a0 => (nq4 j (by omega)).trans (fr j a0)
      refine lv_iconst (v := nI 1) hx hb dX6_count_37 (by decide) ?_
      refine RET _ _ _ _ _ _ dX6_count_38 rfl ?_ hH
      exact postM (C' := ((nm, av, bv, mc, rd), nr, ar, (nb, num, lay, pev, pln, tr))) (by unfold lineOp sp_count; rw [if_pos ⟨(rng_iff (by omega)).mpr (by omega), (rng_iff (by omega)).mpr (by omega)⟩, tN_nI (by omega), tN_nI (by omega)]) ⟨_, _, _, _, _, _, _, _, _, _, _, _, f36, f37, f38, f39, f40, f41, f42, f43, f44, f45, f46, f47, hrL, hrR, hrS, ⟨h6, ⟨av1, av2⟩, ⟨bv1, bv2⟩, hmk⟩, hrok, hsok, hpm⟩ fr
    · refine lv_bipush (v := (-2)) hx hb dX6_count_24 (by decide) ?_
      refine RET _ _ _ _ _ _ dX6_count_26 rfl ?_ hH
      exact postM (by unfold lineOp sp_count; rw [if_neg (fun z => by first | exact absurd z.1 (by assumption) | exact absurd z.2 (by assumption))]) ⟨_, _, _, _, _, _, _, _, _, _, _, _, f36, f37, f38, f39, f40, f41, f42, f43, f44, f45, f46, f47, hrL, hrR, hrS, hlok, hrok, hsok, hpm⟩ fr
set_option maxHeartbeats 4000000 in
set_option maxRecDepth 100000 in
theorem k_X6_clear (l : Launch) (X : Cx) (ad : Nat → Nat) (hi : inj 48 ad) (g : PF) (nm fa fb : Nat) (mc rd : Nat → Nat → Nat) (nr : Nat → Nat) (ar : Nat → Nat → Nat) (nb : Nat) (num : Nat → Nat) (lay pev : Nat) (pln : Nat → Nat) (tr : Nat) (hR : rMod X ad ((nm, fa, fb, mc, rd), nr, ar, (nb, num, lay, pev, pln, tr)) g)  : Ki l yX6_clear wsX6_clear zr0 X 48 ad g [.ref (ad 36)] (fun r g' => r = (lineOp (sp_clear) ((nm, fa, fb, mc, rd), nr, ar, (nb, num, lay, pev, pln, tr))).1 ∧ rMod X ad (lineOp (sp_clear) ((nm, fa, fb, mc, rd), nr, ar, (nb, num, lay, pev, pln, tr))).2 g' ∧ frM g g') := by
  refine Ki.of (cc := cX6_clear) (maxL := 2) hi (by decide) rfl (Nat.le_of_ble_eq_true rfl) ?_
  intro p e s m below meth c Q E RET ls hl
  obtain ⟨C0, FX, hH⟩ := E
  have hx := C0.1
  have hb := C0.2.1
  have kiX6 : ∀ w ∈ u_ws RX6 TX6 18, w ∈ wsX6_clear := (by decide +kernel)
  have kf64 : Cond.fieldLink RX6 64 "YarnMillModel" "machines" "I" ∈ wsX6_clear := (by decide +kernel)
  have hl : lv_has ls 2 [(0, .ref (ad 36))] := hl
  have fr : ∀ j, (j < 36) → g j = g j := fun j _ => rfl
  obtain ⟨md, ma, mb, ml, mr, mo, cn, ms, fs, nn, pl, pm, f36, f37, f38, f39, f40, f41, f42, f43, f44, f45, f46, f47, hrL, hrR, hrS, hlok, hrok, hsok, hpm⟩ := hR
  have f36 : g 36 = .inr (6, [.int (nI fa), .int (nI fb), .int (nI nm), .ref (ad 37), .ref (ad 38), .ref (ad 39), .ref (ad 40), .ref (ad 41), .ref (ad 42), .ref (ad 43), .ref (ad 44), .ref (ad 45), .int (nI nb), .ref (ad 46), .int (nI lay), .int (nI pm), .ref (ad 47), .int (nI tr)]) := f36
  have hq37 : ∀ j, j < nm → md j = mc j 0 := fun j hj => (hrL.1 j hj).1
  have hq38 : ∀ j, j < nm → ma j = mc j 1 := fun j hj => (hrL.1 j hj).2.1
  have hq39 : ∀ j, j < nm → mb j = mc j 2 := fun j hj => (hrL.1 j hj).2.2.1
  have hq40 : ∀ j, j < nm → ml j = mc j 3 := fun j hj => (hrL.1 j hj).2.2.2.1
  have hq41 : ∀ j, j < nm → mr j = mc j 4 := fun j hj => (hrL.1 j hj).2.2.2.2
  have hmo : ∀ j, j < nm → ∀ r, r < mc j 4 → mo (3 * j + r) = rd j r := hrL.2
  have h6 : nm ≤ 6 := hlok.1
  have hfa : 1 ≤ fa ∧ fa ≤ 10000 := hlok.2.1
  have hfb : 1 ≤ fb ∧ fb ≤ 10000 := hlok.2.2.1
  have hmk : ∀ j, j < nm → mcOk (mc j) ∧ ∀ r, r < mc j 4 → 1 ≤ rd j r ∧ rd j r ≤ 1000 := hlok.2.2.2
  have hcn : ∀ r, r < 8 → cn r = nr r := hrR.1
  have hms : ∀ r, r < 8 → ∀ j, j < nr r → ms (400 * r + j) = ar r j := hrR.2
  have hro : ∀ r, r < 8 → nr r ≤ 400 ∧ ∀ j, j < nr r → ar r j ≤ 1000000 := hrok
  have hnn : ∀ j, j < nb → nn j = num j := hrS.1
  have hper : 0 < lay → pm = pev := hrS.2.1
  have hpl : ∀ j, j < lay * pev → pl j = pln j := hrS.2.2
  obtain ⟨k1, k2, k3, k4, k5, k6, k7⟩ := id hsok
  have k1 : nb ≤ 12 := k1
  have k2 : ∀ j, j < nb → num j ≤ 10000 := k2
  have k3 : 0 < lay → (1 ≤ pev ∧ pev ≤ 6) := k3
  have k4 : lay * pev ≤ 12 := k4
  have k5 : ∀ j, j < lay * pev → pln j ≤ 12 := k5
  have k6 : tr ≤ 100000 := k6
  have k7 : lay ≤ 12 := k7
  refine lv_aload_n hx hb dX6_clear_0 rfl (lv_at hl 0 rfl) ?_
  refine rp_get C0 FX hH 36 (by decide) (ci := 6) (k := 2) f36 rfl kiX6 (by decide) kf64 rfl dX6_clear_1 ?_
  refine lv_istore_n (lv' := [(1, .int (nI nm)), (0, .ref (ad 36))]) hx hb dX6_clear_4 rfl hl (by decide) rfl (fun ls hl => ?_)
  refine lv_aload_n hx hb dX6_clear_5 rfl (lv_at hl 1 rfl) ?_
  refine lv_iconst (v := nI 0) hx hb dX6_clear_6 (by decide) ?_
  refine rp_put C0 FX hH 36 (by decide) (ci := 6) (k := 2) tyX6 tyX6_ok nmX6 f36 rfl kiX6 (by decide) kf64 rfl rfl rfl (Nat.le_of_ble_eq_true rfl) dX6_clear_7 (fun g1 H locs eq2 nq2 hH => ?_)
  have f36 : g1 36 = .inr (6, [.int (nI fa), .int (nI fb), .int (nI 0), .ref (ad 37), .ref (ad 38), .ref (ad 39), .ref (ad 40), .ref (ad 41), .ref (ad 42), .ref (ad 43), .ref (ad 44), .ref (ad 45), .int (nI nb), .ref (ad 46), .int (nI lay), .int (nI pm), .ref (ad 47), .int (nI tr)]) := eq2
  have f37 : g1 37 = arr X 6 md := (nq2 _ (by omega)).trans f37
  have f38 : g1 38 = arr X 6 ma := (nq2 _ (by omega)).trans f38
  have f39 : g1 39 = arr X 6 mb := (nq2 _ (by omega)).trans f39
  have f40 : g1 40 = arr X 6 ml := (nq2 _ (by omega)).trans f40
  have f41 : g1 41 = arr X 6 mr := (nq2 _ (by omega)).trans f41
  have f42 : g1 42 = arr X 18 mo := (nq2 _ (by omega)).trans f42
  have f43 : g1 43 = arr X 8 cn := (nq2 _ (by omega)).trans f43
  have f44 : g1 44 = arr X 3200 ms := (nq2 _ (by omega)).trans f44
  have f45 : g1 45 = arr X 400 fs := (nq2 _ (by omega)).trans f45
  have f46 : g1 46 = arr X 12 nn := (nq2 _ (by omega)).trans f46
  have f47 : g1 47 = arr X 12 pl := (nq2 _ (by omega)).trans f47
  have fr : ∀ j, (j < 36) → g1 j = g j := fun j a0 => (nq2 j (by omega)).trans (fr j a0)
  refine lv_iload_n hx hb dX6_clear_10 rfl (lv_at hl 0 rfl) ?_
  refine RET _ _ _ _ _ _ dX6_clear_11 rfl ?_ hH
  exact postM rfl ⟨_, _, _, _, _, _, _, _, _, _, _, _, f36, f37, f38, f39, f40, f41, f42, f43, f44, f45, f46, f47, ⟨fun j hj => absurd hj (Nat.not_lt_zero _), fun j hj => absurd hj (Nat.not_lt_zero _)⟩, hrR, hrS, ⟨Nat.zero_le _, hfa, hfb, fun j hj => absurd hj (Nat.not_lt_zero _)⟩, hrok, hsok, hpm⟩ fr
set_option maxHeartbeats 4000000 in
set_option maxRecDepth 100000 in
theorem k_X6_machine (l : Launch) (X : Cx) (ad : Nat → Nat) (hi : inj 48 ad) (g : PF) (nm fa fb : Nat) (mc rd : Nat → Nat → Nat) (nr : Nat → Nat) (ar : Nat → Nat → Nat) (nb : Nat) (num : Nat → Nat) (lay pev : Nat) (pln : Nat → Nat) (tr : Nat) (hR : rMod X ad ((nm, fa, fb, mc, rd), nr, ar, (nb, num, lay, pev, pln, tr)) g) (p0 p1 p2 p3 : Int32) : Ki l yX6_machine wsX6_machine zr1 X 48 ad g [.ref (ad 36), .int p0, .int p1, .int p2, .int p3] (fun r g' => r = (lineOp (sp_machine p0 p1 p2 p3) ((nm, fa, fb, mc, rd), nr, ar, (nb, num, lay, pev, pln, tr))).1 ∧ rMod X ad (lineOp (sp_machine p0 p1 p2 p3) ((nm, fa, fb, mc, rd), nr, ar, (nb, num, lay, pev, pln, tr))).2 g' ∧ frM g g') := by
  refine Ki.of (cc := cX6_machine) (maxL := 5) hi (by decide) rfl (Nat.le_of_ble_eq_true rfl) ?_
  intro p e s m below meth c Q E RET ls hl
  obtain ⟨C0, FX, hH⟩ := E
  have hx := C0.1
  have hb := C0.2.1
  have kl56 := C0.2.2.2.2 (.constantLong RX6 56 (lN 16)) (by decide +kernel)
  have kl58 := C0.2.2.2.2 (.constantLong RX6 58 (lN 60)) (by decide +kernel)
  have kl60 := C0.2.2.2.2 (.constantLong RX6 60 (lN 20)) (by decide +kernel)
  have kl62 := C0.2.2.2.2 (.constantLong RX6 62 (lN 500)) (by decide +kernel)
  have kiX6 : ∀ w ∈ u_ws RX6 TX6 18, w ∈ wsX6_machine := (by decide +kernel)
  have kf16 : Cond.fieldLink RX6 16 "YarnMillModel" "doublings" "[I" ∈ wsX6_machine := (by decide +kernel)
  have kf20 : Cond.fieldLink RX6 20 "YarnMillModel" "draftAbove" "[I" ∈ wsX6_machine := (by decide +kernel)
  have kf23 : Cond.fieldLink RX6 23 "YarnMillModel" "draftBelow" "[I" ∈ wsX6_machine := (by decide +kernel)
  have kf26 : Cond.fieldLink RX6 26 "YarnMillModel" "loss" "[I" ∈ wsX6_machine := (by decide +kernel)
  have kf29 : Cond.fieldLink RX6 29 "YarnMillModel" "rollers" "[I" ∈ wsX6_machine := (by decide +kernel)
  have kf64 : Cond.fieldLink RX6 64 "YarnMillModel" "machines" "I" ∈ wsX6_machine := (by decide +kernel)
  have hl : lv_has ls 5 [(0, .ref (ad 36)), (1, .int p0), (2, .int p1), (3, .int p2), (4, .int p3)] := hl
  have fr : ∀ j, (j < 36) → g j = g j := fun j _ => rfl
  obtain ⟨md, ma, mb, ml, mr, mo, cn, ms, fs, nn, pl, pm, f36, f37, f38, f39, f40, f41, f42, f43, f44, f45, f46, f47, hrL, hrR, hrS, hlok, hrok, hsok, hpm⟩ := hR
  have f36 : g 36 = .inr (6, [.int (nI fa), .int (nI fb), .int (nI nm), .ref (ad 37), .ref (ad 38), .ref (ad 39), .ref (ad 40), .ref (ad 41), .ref (ad 42), .ref (ad 43), .ref (ad 44), .ref (ad 45), .int (nI nb), .ref (ad 46), .int (nI lay), .int (nI pm), .ref (ad 47), .int (nI tr)]) := f36
  have hq37 : ∀ j, j < nm → md j = mc j 0 := fun j hj => (hrL.1 j hj).1
  have hq38 : ∀ j, j < nm → ma j = mc j 1 := fun j hj => (hrL.1 j hj).2.1
  have hq39 : ∀ j, j < nm → mb j = mc j 2 := fun j hj => (hrL.1 j hj).2.2.1
  have hq40 : ∀ j, j < nm → ml j = mc j 3 := fun j hj => (hrL.1 j hj).2.2.2.1
  have hq41 : ∀ j, j < nm → mr j = mc j 4 := fun j hj => (hrL.1 j hj).2.2.2.2
  have hmo : ∀ j, j < nm → ∀ r, r < mc j 4 → mo (3 * j + r) = rd j r := hrL.2
  have h6 : nm ≤ 6 := hlok.1
  have hfa : 1 ≤ fa ∧ fa ≤ 10000 := hlok.2.1
  have hfb : 1 ≤ fb ∧ fb ≤ 10000 := hlok.2.2.1
  have hmk : ∀ j, j < nm → mcOk (mc j) ∧ ∀ r, r < mc j 4 → 1 ≤ rd j r ∧ rd j r ≤ 1000 := hlok.2.2.2
  have hcn : ∀ r, r < 8 → cn r = nr r := hrR.1
  have hms : ∀ r, r < 8 → ∀ j, j < nr r → ms (400 * r + j) = ar r j := hrR.2
  have hro : ∀ r, r < 8 → nr r ≤ 400 ∧ ∀ j, j < nr r → ar r j ≤ 1000000 := hrok
  have hnn : ∀ j, j < nb → nn j = num j := hrS.1
  have hper : 0 < lay → pm = pev := hrS.2.1
  have hpl : ∀ j, j < lay * pev → pl j = pln j := hrS.2.2
  obtain ⟨k1, k2, k3, k4, k5, k6, k7⟩ := id hsok
  have k1 : nb ≤ 12 := k1
  have k2 : ∀ j, j < nb → num j ≤ 10000 := k2
  have k3 : 0 < lay → (1 ≤ pev ∧ pev ≤ 6) := k3
  have k4 : lay * pev ≤ 12 := k4
  have k5 : ∀ j, j < lay * pev → pln j ≤ 12 := k5
  have k6 : tr ≤ 100000 := k6
  have k7 : lay ≤ 12 := k7
  refine lv_iload_n hx hb dX6_machine_0 rfl (lv_at hl 1 rfl) ?_
  refine lv_i2l hx hb dX6_machine_1 rfl ?_
  refine lv_lconst (v := lN 1) hx hb dX6_machine_2 (by decide) ?_
  refine lv_ldc2 hx hb C0.2.2.2.1 kl56 dX6_machine_3 ?_
  refine rc_Si (rest := []) C0 FX hH (k_X6_in_rng l X ad hi _ p0 1 16 (by omega) (by omega)) (va_cwS 3 C0.2.2.2.2 gX6_machine_X6_in rfl rfl rfl (by decide +kernel) ⟨Nat.le_of_ble_eq_true rfl, Nat.le_of_ble_eq_true rfl⟩) rfl rfl hl.1 (Nat.le_of_ble_eq_true rfl) dX6_machine_6 ⟨Nat.le_of_ble_eq_true rfl, Nat.le_of_ble_eq_true rfl⟩ (fun r6 g6c H locs h6 hH => ?_)
  obtain ⟨e6, rfl⟩ := h6
  rw [e6] at hH
  refine rb_eq hx hb 49 dX6_machine_9 (by decide) (fun c9 => ?_) (fun c9 => ?_)
  · refine lv_bipush (v := (-2)) hx hb dX6_machine_49 (by decide) ?_
    refine RET _ _ _ _ _ _ dX6_machine_51 rfl ?_ hH
    exact postM (by unfold lineOp sp_machine; rw [if_neg (fun z => by first | exact absurd z.1 (by assumption) | exact absurd z.2.1 (by assumption) | exact absurd z.2.2.1 (by assumption) | exact absurd z.2.2.2 (by assumption))]) ⟨_, _, _, _, _, _, _, _, _, _, _, _, f36, f37, f38, f39, f40, f41, f42, f43, f44, f45, f46, f47, hrL, hrR, hrS, hlok, hrok, hsok, hpm⟩ fr
  · obtain ⟨v0, rfl, v01, v02, v03⟩ := rng_nI c9
    refine lv_iload_n hx hb dX6_machine_12 rfl (lv_at hl 2 rfl) ?_
    refine lv_i2l hx hb dX6_machine_13 rfl ?_
    refine lv_lconst (v := lN 1) hx hb dX6_machine_14 (by decide) ?_
    refine lv_ldc2 hx hb C0.2.2.2.1 kl58 dX6_machine_15 ?_
    refine rc_Si (rest := []) C0 FX hH (k_X6_in_rng l X ad hi _ p1 1 60 (by omega) (by omega)) (va_cwS 3 C0.2.2.2.2 gX6_machine_X6_in rfl rfl rfl (by decide +kernel) ⟨Nat.le_of_ble_eq_true rfl, Nat.le_of_ble_eq_true rfl⟩) rfl rfl hl.1 (Nat.le_of_ble_eq_true rfl) dX6_machine_18 ⟨Nat.le_of_ble_eq_true rfl, Nat.le_of_ble_eq_true rfl⟩ (fun r18 g18c H locs h18 hH => ?_)
    obtain ⟨e18, rfl⟩ := h18
    rw [e18] at hH
    refine rb_eq hx hb 49 dX6_machine_21 (by decide) (fun c21 => ?_) (fun c21 => ?_)
    · refine lv_bipush (v := (-2)) hx hb dX6_machine_49 (by decide) ?_
      refine RET _ _ _ _ _ _ dX6_machine_51 rfl ?_ hH
      exact postM (by unfold lineOp sp_machine; rw [if_neg (fun z => by first | exact absurd z.1 (by assumption) | exact absurd z.2.1 (by assumption) | exact absurd z.2.2.1 (by assumption) | exact absurd z.2.2.2 (by assumption))]) ⟨_, _, _, _, _, _, _, _, _, _, _, _, f36, f37, f38, f39, f40, f41, f42, f43, f44, f45, f46, f47, hrL, hrR, hrS, hlok, hrok, hsok, hpm⟩ fr
    · obtain ⟨v1, rfl, v11, v12, v13⟩ := rng_nI c21
      refine lv_iload_n hx hb dX6_machine_24 rfl (lv_at hl 3 rfl) ?_
      refine lv_i2l hx hb dX6_machine_25 rfl ?_
      refine lv_lconst (v := lN 1) hx hb dX6_machine_26 (by decide) ?_
      refine lv_ldc2 hx hb C0.2.2.2.1 kl60 dX6_machine_27 ?_
      refine rc_Si (rest := []) C0 FX hH (k_X6_in_rng l X ad hi _ p2 1 20 (by omega) (by omega)) (va_cwS 3 C0.2.2.2.2 gX6_machine_X6_in rfl rfl rfl (by decide +kernel) ⟨Nat.le_of_ble_eq_true rfl, Nat.le_of_ble_eq_true rfl⟩) rfl rfl hl.1 (Nat.le_of_ble_eq_true rfl) dX6_machine_30 ⟨Nat.le_of_ble_eq_true rfl, Nat.le_of_ble_eq_true rfl⟩ (fun r30 g30c H locs h30 hH => ?_)
      obtain ⟨e30, rfl⟩ := h30
      rw [e30] at hH
      refine rb_eq hx hb 49 dX6_machine_33 (by decide) (fun c33 => ?_) (fun c33 => ?_)
      · refine lv_bipush (v := (-2)) hx hb dX6_machine_49 (by decide) ?_
        refine RET _ _ _ _ _ _ dX6_machine_51 rfl ?_ hH
        exact postM (by unfold lineOp sp_machine; rw [if_neg (fun z => by first | exact absurd z.1 (by assumption) | exact absurd z.2.1 (by assumption) | exact absurd z.2.2.1 (by assumption) | exact absurd z.2.2.2 (by assumption))]) ⟨_, _, _, _, _, _, _, _, _, _, _, _, f36, f37, f38, f39, f40, f41, f42, f43, f44, f45, f46, f47, hrL, hrR, hrS, hlok, hrok, hsok, hpm⟩ fr
      · obtain ⟨v2, rfl, v21, v22, v23⟩ := rng_nI c33
        refine lv_iload hx hb dX6_machine_36 (lv_at hl 4 rfl) ?_
        refine lv_i2l hx hb dX6_machine_38 rfl ?_
        refine lv_lconst (v := lN 0) hx hb dX6_machine_39 (by decide) ?_
        refine lv_ldc2 hx hb C0.2.2.2.1 kl62 dX6_machine_40 ?_
        refine rc_Si (rest := []) C0 FX hH (k_X6_in_rng l X ad hi _ p3 0 500 (by omega) (by omega)) (va_cwS 3 C0.2.2.2.2 gX6_machine_X6_in rfl rfl rfl (by decide +kernel) ⟨Nat.le_of_ble_eq_true rfl, Nat.le_of_ble_eq_true rfl⟩) rfl rfl hl.1 (Nat.le_of_ble_eq_true rfl) dX6_machine_43 ⟨Nat.le_of_ble_eq_true rfl, Nat.le_of_ble_eq_true rfl⟩ (fun r43 g43c H locs h43 hH => ?_)
        obtain ⟨e43, rfl⟩ := h43
        rw [e43] at hH
        refine rb_ne hx hb 52 dX6_machine_46 (by decide) (fun c46 => ?_) (fun c46 => ?_)
        · obtain ⟨v3, rfl, v31, v32, v33⟩ := rng_nI c46
          refine lv_aload_n hx hb dX6_machine_52 rfl (lv_at hl 0 rfl) ?_
          refine rp_get C0 FX hH 36 (by decide) (ci := 6) (k := 2) f36 rfl kiX6 (by decide) kf64 rfl dX6_machine_53 ?_
          refine lv_bipush (v := nI 6) hx hb dX6_machine_56 (by decide) ?_
          refine ni_cne hx hb 64 dX6_machine_58 (by decide) (by omega) (by omega) (fun c58 => ?_) (fun c58 => ?_)
          · refine lv_aload_n hx hb dX6_machine_64 rfl (lv_at hl 0 rfl) ?_
            refine rp_get C0 FX hH 36 (by decide) (ci := 6) (k := 3) f36 rfl kiX6 (by decide) kf16 rfl dX6_machine_65 ?_
            refine lv_aload_n hx hb dX6_machine_68 rfl (lv_at hl 0 rfl) ?_
            refine rp_get C0 FX hH 36 (by decide) (ci := 6) (k := 2) f36 rfl kiX6 (by decide) kf64 rfl dX6_machine_69 ?_
            refine lv_iload_n hx hb dX6_machine_72 rfl (lv_at hl 1 rfl) ?_
            refine rp_iast C0 FX hH 37 (by decide) f37 nm v0 (by omega) (by decide) dX6_machine_73 (fun g1 H locs eq2 nq2 hH => ?_)
            have f37 : g1 37 = arr X 6 (va_up md nm v0) := eq2
            have f36 : g1 36 = .inr (6, [.int (nI fa), .int (nI fb), .int (nI nm), .ref (ad 37), .ref (ad 38), .ref (ad 39), .ref (ad 40), .ref (ad 41), .ref (ad 42), .ref (ad 43), .ref (ad 44), .ref (ad 45), .int (nI nb), .ref (ad 46), .int (nI lay), .int (nI pm), .ref (ad 47), .int (nI tr)]) := (nq2 _ (by omega)).trans f36
            have f38 : g1 38 = arr X 6 ma := (nq2 _ (by omega)).trans f38
            have f39 : g1 39 = arr X 6 mb := (nq2 _ (by omega)).trans f39
            have f40 : g1 40 = arr X 6 ml := (nq2 _ (by omega)).trans f40
            have f41 : g1 41 = arr X 6 mr := (nq2 _ (by omega)).trans f41
            have f42 : g1 42 = arr X 18 mo := (nq2 _ (by omega)).trans f42
            have f43 : g1 43 = arr X 8 cn := (nq2 _ (by omega)).trans f43
            have f44 : g1 44 = arr X 3200 ms := (nq2 _ (by omega)).trans f44
            have f45 : g1 45 = arr X 400 fs := (nq2 _ (by omega)).trans f45
            have f46 : g1 46 = arr X 12 nn := (nq2 _ (by omega)).trans f46
            have f47 : g1 47 = arr X 12 pl := (nq2 _ (by omega)).trans f47
            have fr : ∀ j, (j < 36) → g1 j = g j := fun j a0 => (nq2 j (by omega)).trans (fr j a0)
            refine lv_aload_n hx hb dX6_machine_74 rfl (lv_at hl 0 rfl) ?_
            refine rp_get C0 FX hH 36 (by decide) (ci := 6) (k := 4) f36 rfl kiX6 (by decide) kf20 rfl dX6_machine_75 ?_
            refine lv_aload_n hx hb dX6_machine_78 rfl (lv_at hl 0 rfl) ?_
            refine rp_get C0 FX hH 36 (by decide) (ci := 6) (k := 2) f36 rfl kiX6 (by decide) kf64 rfl dX6_machine_79 ?_
            refine lv_iload_n hx hb dX6_machine_82 rfl (lv_at hl 2 rfl) ?_
            refine rp_iast C0 FX hH 38 (by decide) f38 nm v1 (by omega) (by decide) dX6_machine_83 (fun g3 H locs eq4 nq4 hH => ?_)
            have f38 : g3 38 = arr X 6 (va_up ma nm v1) := eq4
            have f36 : g3 36 = .inr (6, [.int (nI fa), .int (nI fb), .int (nI nm), .ref (ad 37), .ref (ad 38), .ref (ad 39), .ref (ad 40), .ref (ad 41), .ref (ad 42), .ref (ad 43), .ref (ad 44), .ref (ad 45), .int (nI nb), .ref (ad 46), .int (nI lay), .int (nI pm), .ref (ad 47), .int (nI tr)]) := (nq4 _ (by omega)).trans f36
            have f37 : g3 37 = arr X 6 (va_up md nm v0) := (nq4 _ (by omega)).trans f37
            have f39 : g3 39 = arr X 6 mb := (nq4 _ (by omega)).trans f39
            have f40 : g3 40 = arr X 6 ml := (nq4 _ (by omega)).trans f40
            have f41 : g3 41 = arr X 6 mr := (nq4 _ (by omega)).trans f41
            have f42 : g3 42 = arr X 18 mo := (nq4 _ (by omega)).trans f42
            have f43 : g3 43 = arr X 8 cn := (nq4 _ (by omega)).trans f43
            have f44 : g3 44 = arr X 3200 ms := (nq4 _ (by omega)).trans f44
            have f45 : g3 45 = arr X 400 fs := (nq4 _ (by omega)).trans f45
            have f46 : g3 46 = arr X 12 nn := (nq4 _ (by omega)).trans f46
            have f47 : g3 47 = arr X 12 pl := (nq4 _ (by omega)).trans f47
            have fr : ∀ j, (j < 36) → g3 j = g j := fun j a0 => (nq4 j (by omega)).trans (fr j a0)
            refine lv_aload_n hx hb dX6_machine_84 rfl (lv_at hl 0 rfl) ?_
            refine rp_get C0 FX hH 36 (by decide) (ci := 6) (k := 5) f36 rfl kiX6 (by decide) kf23 rfl dX6_machine_85 ?_
            refine lv_aload_n hx hb dX6_machine_88 rfl (lv_at hl 0 rfl) ?_
            refine rp_get C0 FX hH 36 (by decide) (ci := 6) (k := 2) f36 rfl kiX6 (by decide) kf64 rfl dX6_machine_89 ?_
            refine lv_iload_n hx hb dX6_machine_92 rfl (lv_at hl 3 rfl) ?_
            refine rp_iast C0 FX hH 39 (by decide) f39 nm v2 (by omega) (by decide) dX6_machine_93 (fun g5 H locs eq6 nq6 hH => ?_)
            have f39 : g5 39 = arr X 6 (va_up mb nm v2) := eq6
            have f36 : g5 36 = .inr (6, [.int (nI fa), .int (nI fb), .int (nI nm), .ref (ad 37), .ref (ad 38), .ref (ad 39), .ref (ad 40), .ref (ad 41), .ref (ad 42), .ref (ad 43), .ref (ad 44), .ref (ad 45), .int (nI nb), .ref (ad 46), .int (nI lay), .int (nI pm), .ref (ad 47), .int (nI tr)]) := (nq6 _ (by omega)).trans f36
            have f37 : g5 37 = arr X 6 (va_up md nm v0) := (nq6 _ (by omega)).trans f37
            have f38 : g5 38 = arr X 6 (va_up ma nm v1) := (nq6 _ (by omega)).trans f38
            have f40 : g5 40 = arr X 6 ml := (nq6 _ (by omega)).trans f40
            have f41 : g5 41 = arr X 6 mr := (nq6 _ (by omega)).trans f41
            have f42 : g5 42 = arr X 18 mo := (nq6 _ (by omega)).trans f42
            have f43 : g5 43 = arr X 8 cn := (nq6 _ (by omega)).trans f43
            have f44 : g5 44 = arr X 3200 ms := (nq6 _ (by omega)).trans f44
            have f45 : g5 45 = arr X 400 fs := (nq6 _ (by omega)).trans f45
            have f46 : g5 46 = arr X 12 nn := (nq6 _ (by omega)).trans f46
            have f47 : g5 47 = arr X 12 pl := (nq6 _ (by omega)).trans f47
            have fr : ∀ j, (j < 36) → g5 j = g j := fun j a0 => (nq6 j (by omega)).trans (fr j a0)
            refine lv_aload_n hx hb dX6_machine_94 rfl (lv_at hl 0 rfl) ?_
            refine rp_get C0 FX hH 36 (by decide) (ci := 6) (k := 6) f36 rfl kiX6 (by decide) kf26 rfl dX6_machine_95 ?_
            refine lv_aload_n hx hb dX6_machine_98 rfl (lv_at hl 0 rfl) ?_
            refine rp_get C0 FX hH 36 (by decide) (ci := 6) (k := 2) f36 rfl kiX6 (by decide) kf64 rfl dX6_machine_99 ?_
            refine lv_iload hx hb dX6_machine_102 (lv_at hl 4 rfl) ?_
            refine rp_iast C0 FX hH 40 (by decide) f40 nm v3 (by omega) (by decide) dX6_machine_104 (fun g7 H locs eq8 nq8 hH => ?_)
            have f40 : g7 40 = arr X 6 (va_up ml nm v3) := eq8
            have f36 : g7 36 = .inr (6, [.int (nI fa), .int (nI fb), .int (nI nm), .ref (ad 37), .ref (ad 38), .ref (ad 39), .ref (ad 40), .ref (ad 41), .ref (ad 42), .ref (ad 43), .ref (ad 44), .ref (ad 45), .int (nI nb), .ref (ad 46), .int (nI lay), .int (nI pm), .ref (ad 47), .int (nI tr)]) := (nq8 _ (by omega)).trans f36
            have f37 : g7 37 = arr X 6 (va_up md nm v0) := (nq8 _ (by omega)).trans f37
            have f38 : g7 38 = arr X 6 (va_up ma nm v1) := (nq8 _ (by omega)).trans f38
            have f39 : g7 39 = arr X 6 (va_up mb nm v2) := (nq8 _ (by omega)).trans f39
            have f41 : g7 41 = arr X 6 mr := (nq8 _ (by omega)).trans f41
            have f42 : g7 42 = arr X 18 mo := (nq8 _ (by omega)).trans f42
            have f43 : g7 43 = arr X 8 cn := (nq8 _ (by omega)).trans f43
            have f44 : g7 44 = arr X 3200 ms := (nq8 _ (by omega)).trans f44
            have f45 : g7 45 = arr X 400 fs := (nq8 _ (by omega)).trans f45
            have f46 : g7 46 = arr X 12 nn := (nq8 _ (by omega)).trans f46
            have f47 : g7 47 = arr X 12 pl := (nq8 _ (by omega)).trans f47
            have fr : ∀ j, (j < 36) → g7 j = g j := fun j a0 => (nq8 j (by omega)).trans (fr j a0)
            refine lv_aload_n hx hb dX6_machine_105 rfl (lv_at hl 0 rfl) ?_
            refine rp_get C0 FX hH 36 (by decide) (ci := 6) (k := 7) f36 rfl kiX6 (by decide) kf29 rfl dX6_machine_106 ?_
            refine lv_aload_n hx hb dX6_machine_109 rfl (lv_at hl 0 rfl) ?_
            refine rp_get C0 FX hH 36 (by decide) (ci := 6) (k := 2) f36 rfl kiX6 (by decide) kf64 rfl dX6_machine_110 ?_
            refine lv_iconst (v := nI 0) hx hb dX6_machine_113 (by decide) ?_
            refine rp_iast C0 FX hH 41 (by decide) f41 nm 0 (by omega) (by decide) dX6_machine_114 (fun g9 H locs eq10 nq10 hH => ?_)
            have f41 : g9 41 = arr X 6 (va_up mr nm 0) := eq10
            have f36 : g9 36 = .inr (6, [.int (nI fa), .int (nI fb), .int (nI nm), .ref (ad 37), .ref (ad 38), .ref (ad 39), .ref (ad 40), .ref (ad 41), .ref (ad 42), .ref (ad 43), .ref (ad 44), .ref (ad 45), .int (nI nb), .ref (ad 46), .int (nI lay), .int (nI pm), .ref (ad 47), .int (nI tr)]) := (nq10 _ (by omega)).trans f36
            have f37 : g9 37 = arr X 6 (va_up md nm v0) := (nq10 _ (by omega)).trans f37
            have f38 : g9 38 = arr X 6 (va_up ma nm v1) := (nq10 _ (by omega)).trans f38
            have f39 : g9 39 = arr X 6 (va_up mb nm v2) := (nq10 _ (by omega)).trans f39
            have f40 : g9 40 = arr X 6 (va_up ml nm v3) := (nq10 _ (by omega)).trans f40
            have f42 : g9 42 = arr X 18 mo := (nq10 _ (by omega)).trans f42
            have f43 : g9 43 = arr X 8 cn := (nq10 _ (by omega)).trans f43
            have f44 : g9 44 = arr X 3200 ms := (nq10 _ (by omega)).trans f44
            have f45 : g9 45 = arr X 400 fs := (nq10 _ (by omega)).trans f45
            have f46 : g9 46 = arr X 12 nn := (nq10 _ (by omega)).trans f46
            have f47 : g9 47 = arr X 12 pl := (nq10 _ (by omega)).trans f47
            have fr : ∀ j, (j < 36) → g9 j = g j := fun j a0 => (nq10 j (by omega)).trans (fr j a0)
            refine lv_aload_n hx hb dX6_machine_115 rfl (lv_at hl 0 rfl) ?_
            refine lv_dup hx hb dX6_machine_116 rfl ?_
            refine rp_get C0 FX hH 36 (by decide) (ci := 6) (k := 2) f36 rfl kiX6 (by decide) kf64 rfl dX6_machine_117 ?_
            refine lv_iconst (v := nI 1) hx hb dX6_machine_120 (by decide) ?_
            refine ni_iadd hx hb dX6_machine_121 ?_
            refine rp_put C0 FX hH 36 (by decide) (ci := 6) (k := 2) tyX6 tyX6_ok nmX6 f36 rfl kiX6 (by decide) kf64 rfl rfl rfl (Nat.le_of_ble_eq_true rfl) dX6_machine_122 (fun g11 H locs eq12 nq12 hH => ?_)
            have f36 : g11 36 = .inr (6, [.int (nI fa), .int (nI fb), .int (nI (nm + 1)), .ref (ad 37), .ref (ad 38), .ref (ad 39), .ref (ad 40), .ref (ad 41), .ref (ad 42), .ref (ad 43), .ref (ad 44), .ref (ad 45), .int (nI nb), .ref (ad 46), .int (nI lay), .int (nI pm), .ref (ad 47), .int (nI tr)]) := eq12
            have f37 : g11 37 = arr X 6 (va_up md nm v0) := (nq12 _ (by omega)).trans f37
            have f38 : g11 38 = arr X 6 (va_up ma nm v1) := (nq12 _ (by omega)).trans f38
            have f39 : g11 39 = arr X 6 (va_up mb nm v2) := (nq12 _ (by omega)).trans f39
            have f40 : g11 40 = arr X 6 (va_up ml nm v3) := (nq12 _ (by omega)).trans f40
            have f41 : g11 41 = arr X 6 (va_up mr nm 0) := (nq12 _ (by omega)).trans f41
            have f42 : g11 42 = arr X 18 mo := (nq12 _ (by omega)).trans f42
            have f43 : g11 43 = arr X 8 cn := (nq12 _ (by omega)).trans f43
            have f44 : g11 44 = arr X 3200 ms := (nq12 _ (by omega)).trans f44
            have f45 : g11 45 = arr X 400 fs := (nq12 _ (by omega)).trans f45
            have f46 : g11 46 = arr X 12 nn := (nq12 _ (by omega)).trans f46
            have f47 : g11 47 = arr X 12 pl := (nq12 _ (by omega)).trans f47
            have fr : ∀ j, (j < 36) → g11 j = g j := fun j a0 => (nq12 j (by omega)).trans (fr j a0)
            refine lv_aload_n hx hb dX6_machine_125 rfl (lv_at hl 0 rfl) ?_
            refine rp_get C0 FX hH 36 (by decide) (ci := 6) (k := 2) f36 rfl kiX6 (by decide) kf64 rfl dX6_machine_126 ?_
            refine lv_iconst (v := nI 1) hx hb dX6_machine_129 (by decide) ?_
            refine ni_isub hx hb (by omega) dX6_machine_130 ?_
            refine RET _ _ _ _ _ _ dX6_machine_131 rfl ?_ hH
            rw [show nm + 1 - 1 = nm by omega]
            refine postM (C' := ((nm + 1, fa, fb, va_up mc nm (mrow v0 v1 v2 v3), rd), nr, ar, (nb, num, lay, pev, pln, tr))) (by unfold lineOp sp_machine; rw [if_pos ⟨(rng_iff (by omega)).mpr (by omega), (rng_iff (by omega)).mpr (by omega), (rng_iff (by omega)).mpr (by omega), (rng_iff (by omega)).mpr (by omega)⟩, if_neg (by show ¬ 6 ≤ nm; omega), tN_nI (by omega), tN_nI (by omega), tN_nI (by omega), tN_nI (by omega)]) ⟨_, _, _, _, _, _, _, _, _, _, _, _, f36, f37, f38, f39, f40, f41, f42, f43, f44, f45, f46, f47, ⟨?_, ?_⟩, hrR, hrS, ?_, hrok, hsok, hpm⟩ fr
            · intro j hj
              have hj : j < nm + 1 := hj
              show va_up md nm v0 j = va_up mc nm (mrow v0 v1 v2 v3) j 0 ∧ va_up ma nm v1 j = va_up mc nm (mrow v0 v1 v2 v3) j 1 ∧ va_up mb nm v2 j = va_up mc nm (mrow v0 v1 v2 v3) j 2 ∧ va_up ml nm v3 j = va_up mc nm (mrow v0 v1 v2 v3) j 3 ∧ va_up mr nm 0 j = va_up mc nm (mrow v0 v1 v2 v3) j 4
              by_cases q : j = nm
              · subst q; simp only [va_up_self]; exact ⟨rfl, rfl, rfl, rfl, rfl⟩
              · rw [va_up_ne _ _ q, va_up_ne _ _ q, va_up_ne _ _ q, va_up_ne _ _ q, va_up_ne _ _ q, va_up_ne _ _ q]; exact hrL.1 j (by show j < nm; omega)
            · intro j hj r hr4
              have hj : j < nm + 1 := hj
              have hr4 : r < va_up mc nm (mrow v0 v1 v2 v3) j 4 := hr4
              by_cases q : j = nm
              · subst q; rw [va_up_self] at hr4; exact absurd hr4 (Nat.not_lt_zero _)
              · rw [va_up_ne _ _ q] at hr4; exact hmo j (by omega) r hr4
            · refine ⟨by show nm + 1 ≤ 6; omega, hfa, hfb, fun j hj => ?_⟩
              have hj : j < nm + 1 := hj
              show mcOk (va_up mc nm (mrow v0 v1 v2 v3) j) ∧ ∀ r, r < va_up mc nm (mrow v0 v1 v2 v3) j 4 → 1 ≤ rd j r ∧ rd j r ≤ 1000
              by_cases q : j = nm
              · subst q; rw [va_up_self]; exact ⟨⟨⟨v01, v02⟩, ⟨v11, v12⟩, ⟨v21, v22⟩, v32, Nat.zero_le _⟩, fun r hr => absurd hr (Nat.not_lt_zero _)⟩
              · rw [va_up_ne _ _ q]; exact hmk j (by omega)
          · refine lv_bipush (v := (-4)) hx hb dX6_machine_61 (by decide) ?_
            refine RET _ _ _ _ _ _ dX6_machine_63 rfl ?_ hH
            exact postM (by unfold lineOp sp_machine; rw [if_pos ⟨(rng_iff (by omega)).mpr (by omega), (rng_iff (by omega)).mpr (by omega), (rng_iff (by omega)).mpr (by omega), (rng_iff (by omega)).mpr (by omega)⟩, if_pos (by show 6 ≤ nm; omega)]) ⟨_, _, _, _, _, _, _, _, _, _, _, _, f36, f37, f38, f39, f40, f41, f42, f43, f44, f45, f46, f47, hrL, hrR, hrS, hlok, hrok, hsok, hpm⟩ fr
        · refine lv_bipush (v := (-2)) hx hb dX6_machine_49 (by decide) ?_
          refine RET _ _ _ _ _ _ dX6_machine_51 rfl ?_ hH
          exact postM (by unfold lineOp sp_machine; rw [if_neg (fun z => by first | exact absurd z.1 (by assumption) | exact absurd z.2.1 (by assumption) | exact absurd z.2.2.1 (by assumption) | exact absurd z.2.2.2 (by assumption))]) ⟨_, _, _, _, _, _, _, _, _, _, _, _, f36, f37, f38, f39, f40, f41, f42, f43, f44, f45, f46, f47, hrL, hrR, hrS, hlok, hrok, hsok, hpm⟩ fr
set_option maxHeartbeats 4000000 in
set_option maxRecDepth 100000 in
theorem k_X6_roller (l : Launch) (X : Cx) (ad : Nat → Nat) (hi : inj 48 ad) (g : PF) (nm fa fb : Nat) (mc rd : Nat → Nat → Nat) (nr : Nat → Nat) (ar : Nat → Nat → Nat) (nb : Nat) (num : Nat → Nat) (lay pev : Nat) (pln : Nat → Nat) (tr : Nat) (hR : rMod X ad ((nm, fa, fb, mc, rd), nr, ar, (nb, num, lay, pev, pln, tr)) g) (p0 p1 : Int32) : Ki l yX6_roller wsX6_roller zr2 X 48 ad g [.ref (ad 36), .int p0, .int p1] (fun r g' => r = (lineOp (sp_roller p0 p1) ((nm, fa, fb, mc, rd), nr, ar, (nb, num, lay, pev, pln, tr))).1 ∧ rMod X ad (lineOp (sp_roller p0 p1) ((nm, fa, fb, mc, rd), nr, ar, (nb, num, lay, pev, pln, tr))).2 g' ∧ frM g g') := by
  refine Ki.of (cc := cX6_roller) (maxL := 3) hi (by decide) rfl (Nat.le_of_ble_eq_true rfl) ?_
  intro p e s m below meth c Q E RET ls hl
  obtain ⟨C0, FX, hH⟩ := E
  have hx := C0.1
  have hb := C0.2.1
  have kl71 := C0.2.2.2.2 (.constantLong RX6 71 (lN 1000)) (by decide +kernel)
  have kiX6 : ∀ w ∈ u_ws RX6 TX6 18, w ∈ wsX6_roller := (by decide +kernel)
  have kf29 : Cond.fieldLink RX6 29 "YarnMillModel" "rollers" "[I" ∈ wsX6_roller := (by decide +kernel)
  have kf32 : Cond.fieldLink RX6 32 "YarnMillModel" "round" "[I" ∈ wsX6_roller := (by decide +kernel)
  have hl : lv_has ls 3 [(0, .ref (ad 36)), (1, .int p0), (2, .int p1)] := hl
  have fr : ∀ j, (j < 36) → g j = g j := fun j _ => rfl
  obtain ⟨md, ma, mb, ml, mr, mo, cn, ms, fs, nn, pl, pm, f36, f37, f38, f39, f40, f41, f42, f43, f44, f45, f46, f47, hrL, hrR, hrS, hlok, hrok, hsok, hpm⟩ := hR
  have f36 : g 36 = .inr (6, [.int (nI fa), .int (nI fb), .int (nI nm), .ref (ad 37), .ref (ad 38), .ref (ad 39), .ref (ad 40), .ref (ad 41), .ref (ad 42), .ref (ad 43), .ref (ad 44), .ref (ad 45), .int (nI nb), .ref (ad 46), .int (nI lay), .int (nI pm), .ref (ad 47), .int (nI tr)]) := f36
  have hq37 : ∀ j, j < nm → md j = mc j 0 := fun j hj => (hrL.1 j hj).1
  have hq38 : ∀ j, j < nm → ma j = mc j 1 := fun j hj => (hrL.1 j hj).2.1
  have hq39 : ∀ j, j < nm → mb j = mc j 2 := fun j hj => (hrL.1 j hj).2.2.1
  have hq40 : ∀ j, j < nm → ml j = mc j 3 := fun j hj => (hrL.1 j hj).2.2.2.1
  have hq41 : ∀ j, j < nm → mr j = mc j 4 := fun j hj => (hrL.1 j hj).2.2.2.2
  have hmo : ∀ j, j < nm → ∀ r, r < mc j 4 → mo (3 * j + r) = rd j r := hrL.2
  have h6 : nm ≤ 6 := hlok.1
  have hfa : 1 ≤ fa ∧ fa ≤ 10000 := hlok.2.1
  have hfb : 1 ≤ fb ∧ fb ≤ 10000 := hlok.2.2.1
  have hmk : ∀ j, j < nm → mcOk (mc j) ∧ ∀ r, r < mc j 4 → 1 ≤ rd j r ∧ rd j r ≤ 1000 := hlok.2.2.2
  have hcn : ∀ r, r < 8 → cn r = nr r := hrR.1
  have hms : ∀ r, r < 8 → ∀ j, j < nr r → ms (400 * r + j) = ar r j := hrR.2
  have hro : ∀ r, r < 8 → nr r ≤ 400 ∧ ∀ j, j < nr r → ar r j ≤ 1000000 := hrok
  have hnn : ∀ j, j < nb → nn j = num j := hrS.1
  have hper : 0 < lay → pm = pev := hrS.2.1
  have hpl : ∀ j, j < lay * pev → pl j = pln j := hrS.2.2
  obtain ⟨k1, k2, k3, k4, k5, k6, k7⟩ := id hsok
  have k1 : nb ≤ 12 := k1
  have k2 : ∀ j, j < nb → num j ≤ 10000 := k2
  have k3 : 0 < lay → (1 ≤ pev ∧ pev ≤ 6) := k3
  have k4 : lay * pev ≤ 12 := k4
  have k5 : ∀ j, j < lay * pev → pln j ≤ 12 := k5
  have k6 : tr ≤ 100000 := k6
  have k7 : lay ≤ 12 := k7
  refine lv_aload_n hx hb dX6_roller_0 rfl (lv_at hl 0 rfl) ?_
  refine lv_iload_n hx hb dX6_roller_1 rfl (lv_at hl 1 rfl) ?_
  refine rc_Vi (rest := []) C0 FX hH 36 (by decide) f36 rfl (k_X6_isMachine l X ad hi _ nm fa fb mc rd nr ar nb num lay pev pln tr ⟨_, _, _, _, _, _, _, _, _, _, _, _, f36, f37, f38, f39, f40, f41, f42, f43, f44, f45, f46, f47, hrL, hrR, hrS, hlok, hrok, hsok, hpm⟩ p0) (cwV 1 C0.2.2.2.2 gX6_roller_X6_isMachine rfl rfl rfl (by decide +kernel) ⟨Nat.le_of_ble_eq_true rfl, Nat.le_of_ble_eq_true rfl⟩) rfl rfl hl.1 (Nat.le_of_ble_eq_true rfl) dX6_roller_2 ⟨Nat.le_of_ble_eq_true rfl, Nat.le_of_ble_eq_true rfl⟩ (fun r2 g2c H locs h2 hH => ?_)
  obtain ⟨e2, rfl⟩ := h2
  rw [e2] at hH
  refine rb_eq hx hb 20 dX6_roller_5 (by decide) (fun c5 => ?_) (fun c5 => ?_)
  · refine lv_bipush (v := (-2)) hx hb dX6_roller_20 (by decide) ?_
    refine RET _ _ _ _ _ _ dX6_roller_22 rfl ?_ hH
    exact postM (by unfold lineOp sp_roller; rw [if_neg (fun z => by first | exact absurd z.1 (by assumption) | exact absurd z.2 (by assumption))]) ⟨_, _, _, _, _, _, _, _, _, _, _, _, f36, f37, f38, f39, f40, f41, f42, f43, f44, f45, f46, f47, hrL, hrR, hrS, hlok, hrok, hsok, hpm⟩ fr
  · obtain ⟨mv, rfl, mv1, mv3⟩ := rngS_nI c5
    refine lv_iload_n hx hb dX6_roller_8 rfl (lv_at hl 2 rfl) ?_
    refine lv_i2l hx hb dX6_roller_9 rfl ?_
    refine lv_lconst (v := lN 1) hx hb dX6_roller_10 (by decide) ?_
    refine lv_ldc2 hx hb C0.2.2.2.1 kl71 dX6_roller_11 ?_
    refine rc_Si (rest := []) C0 FX hH (k_X6_in_rng l X ad hi _ p1 1 1000 (by omega) (by omega)) (va_cwS 3 C0.2.2.2.2 gX6_roller_X6_in rfl rfl rfl (by decide +kernel) ⟨Nat.le_of_ble_eq_true rfl, Nat.le_of_ble_eq_true rfl⟩) rfl rfl hl.1 (Nat.le_of_ble_eq_true rfl) dX6_roller_14 ⟨Nat.le_of_ble_eq_true rfl, Nat.le_of_ble_eq_true rfl⟩ (fun r14 g14c H locs h14 hH => ?_)
    obtain ⟨e14, rfl⟩ := h14
    rw [e14] at hH
    refine rb_ne hx hb 23 dX6_roller_17 (by decide) (fun c17 => ?_) (fun c17 => ?_)
    · obtain ⟨rv, rfl, rv1, rv2, rv3⟩ := rng_nI c17
      have h34 := (hmk mv mv1).1.2.2.2.2
      refine lv_aload_n hx hb dX6_roller_23 rfl (lv_at hl 0 rfl) ?_
      refine rp_get C0 FX hH 36 (by decide) (ci := 6) (k := 7) f36 rfl kiX6 (by decide) kf29 rfl dX6_roller_24 ?_
      refine lv_iload_n hx hb dX6_roller_27 rfl (lv_at hl 1 rfl) ?_
      refine rp_iald C0 FX hH 41 (by decide) (v := mc mv 4) f41 mv (by omega) (by decide) (hq41 _ (by omega)) dX6_roller_28 ?_
      refine lv_iconst (v := nI 3) hx hb dX6_roller_29 (by decide) ?_
      refine ni_cne hx hb 36 dX6_roller_30 (by decide) (by omega) (by omega) (fun c30 => ?_) (fun c30 => ?_)
      · refine lv_aload_n hx hb dX6_roller_36 rfl (lv_at hl 0 rfl) ?_
        refine rp_get C0 FX hH 36 (by decide) (ci := 6) (k := 8) f36 rfl kiX6 (by decide) kf32 rfl dX6_roller_37 ?_
        refine lv_iconst (v := nI 3) hx hb dX6_roller_40 (by decide) ?_
        refine lv_iload_n hx hb dX6_roller_41 rfl (lv_at hl 1 rfl) ?_
        refine ni_imul hx hb dX6_roller_42 ?_
        refine lv_aload_n hx hb dX6_roller_43 rfl (lv_at hl 0 rfl) ?_
        refine rp_get C0 FX hH 36 (by decide) (ci := 6) (k := 7) f36 rfl kiX6 (by decide) kf29 rfl dX6_roller_44 ?_
        refine lv_iload_n hx hb dX6_roller_47 rfl (lv_at hl 1 rfl) ?_
        refine rp_iald C0 FX hH 41 (by decide) (v := mc mv 4) f41 mv (by omega) (by decide) (hq41 _ (by omega)) dX6_roller_48 ?_
        refine ni_iadd hx hb dX6_roller_49 ?_
        refine lv_iload_n hx hb dX6_roller_50 rfl (lv_at hl 2 rfl) ?_
        refine rp_iast C0 FX hH 42 (by decide) f42 ((3 * mv) + (mc mv 4)) rv (by omega) (by decide) dX6_roller_51 (fun g1 H locs eq2 nq2 hH => ?_)
        have f42 : g1 42 = arr X 18 (va_up mo ((3 * mv) + (mc mv 4)) rv) := eq2
        have f36 : g1 36 = .inr (6, [.int (nI fa), .int (nI fb), .int (nI nm), .ref (ad 37), .ref (ad 38), .ref (ad 39), .ref (ad 40), .ref (ad 41), .ref (ad 42), .ref (ad 43), .ref (ad 44), .ref (ad 45), .int (nI nb), .ref (ad 46), .int (nI lay), .int (nI pm), .ref (ad 47), .int (nI tr)]) := (nq2 _ (by omega)).trans f36
        have f37 : g1 37 = arr X 6 md := (nq2 _ (by omega)).trans f37
        have f38 : g1 38 = arr X 6 ma := (nq2 _ (by omega)).trans f38
        have f39 : g1 39 = arr X 6 mb := (nq2 _ (by omega)).trans f39
        have f40 : g1 40 = arr X 6 ml := (nq2 _ (by omega)).trans f40
        have f41 : g1 41 = arr X 6 mr := (nq2 _ (by omega)).trans f41
        have f43 : g1 43 = arr X 8 cn := (nq2 _ (by omega)).trans f43
        have f44 : g1 44 = arr X 3200 ms := (nq2 _ (by omega)).trans f44
        have f45 : g1 45 = arr X 400 fs := (nq2 _ (by omega)).trans f45
        have f46 : g1 46 = arr X 12 nn := (nq2 _ (by omega)).trans f46
        have f47 : g1 47 = arr X 12 pl := (nq2 _ (by omega)).trans f47
        have fr : ∀ j, (j < 36) → g1 j = g j := fun j a0 => (nq2 j (by omega)).trans (fr j a0)
        refine lv_aload_n hx hb dX6_roller_52 rfl (lv_at hl 0 rfl) ?_
        refine rp_get C0 FX hH 36 (by decide) (ci := 6) (k := 7) f36 rfl kiX6 (by decide) kf29 rfl dX6_roller_53 ?_
        refine lv_iload_n hx hb dX6_roller_56 rfl (lv_at hl 1 rfl) ?_
        refine lv_dup2_11 hx hb dX6_roller_57 rfl rfl ?_
        refine rp_iald C0 FX hH 41 (by decide) (v := mc mv 4) f41 mv (by omega) (by decide) (hq41 _ (by omega)) dX6_roller_58 ?_
        refine lv_iconst (v := nI 1) hx hb dX6_roller_59 (by decide) ?_
        refine ni_iadd hx hb dX6_roller_60 ?_
        refine rp_iast C0 FX hH 41 (by decide) f41 mv ((mc mv 4) + 1) (by omega) (by decide) dX6_roller_61 (fun g3 H locs eq4 nq4 hH => ?_)
        have f41 : g3 41 = arr X 6 (va_up mr mv ((mc mv 4) + 1)) := eq4
        have f36 : g3 36 = .inr (6, [.int (nI fa), .int (nI fb), .int (nI nm), .ref (ad 37), .ref (ad 38), .ref (ad 39), .ref (ad 40), .ref (ad 41), .ref (ad 42), .ref (ad 43), .ref (ad 44), .ref (ad 45), .int (nI nb), .ref (ad 46), .int (nI lay), .int (nI pm), .ref (ad 47), .int (nI tr)]) := (nq4 _ (by omega)).trans f36
        have f37 : g3 37 = arr X 6 md := (nq4 _ (by omega)).trans f37
        have f38 : g3 38 = arr X 6 ma := (nq4 _ (by omega)).trans f38
        have f39 : g3 39 = arr X 6 mb := (nq4 _ (by omega)).trans f39
        have f40 : g3 40 = arr X 6 ml := (nq4 _ (by omega)).trans f40
        have f42 : g3 42 = arr X 18 (va_up mo ((3 * mv) + (mc mv 4)) rv) := (nq4 _ (by omega)).trans f42
        have f43 : g3 43 = arr X 8 cn := (nq4 _ (by omega)).trans f43
        have f44 : g3 44 = arr X 3200 ms := (nq4 _ (by omega)).trans f44
        have f45 : g3 45 = arr X 400 fs := (nq4 _ (by omega)).trans f45
        have f46 : g3 46 = arr X 12 nn := (nq4 _ (by omega)).trans f46
        have f47 : g3 47 = arr X 12 pl := (nq4 _ (by omega)).trans f47
        have fr : ∀ j, (j < 36) → g3 j = g j := fun j a0 => (nq4 j (by omega)).trans (fr j a0)
        refine lv_aload_n hx hb dX6_roller_62 rfl (lv_at hl 0 rfl) ?_
        refine rp_get C0 FX hH 36 (by decide) (ci := 6) (k := 7) f36 rfl kiX6 (by decide) kf29 rfl dX6_roller_63 ?_
        refine lv_iload_n hx hb dX6_roller_66 rfl (lv_at hl 1 rfl) ?_
        refine rp_iald C0 FX hH 41 (by decide) (v := (va_up mr mv ((mc mv 4) + 1)) mv) f41 mv (by omega) (by decide) rfl dX6_roller_67 ?_
        refine lv_iconst (v := nI 1) hx hb dX6_roller_68 (by decide) ?_
        refine ni_isub hx hb (by rw [va_up_self]; omega) dX6_roller_69 ?_
        refine RET _ _ _ _ _ _ dX6_roller_70 rfl ?_ hH
        rw [show (va_up mr mv (mc mv 4 + 1)) mv - 1 = mc mv 4 by rw [va_up_self]; omega]
        refine postM (C' := ((nm, fa, fb, va_up mc mv (va_up (mc mv) 4 (mc mv 4 + 1)), va_up rd mv (va_up (rd mv) (mc mv 4) rv)), nr, ar, (nb, num, lay, pev, pln, tr))) (by unfold lineOp sp_roller; rw [if_pos ⟨(rngS_iff (by omega)).mpr mv1, (rng_iff (by omega)).mpr (by omega)⟩, tN_nI (by omega), tN_nI (by omega), if_neg (by show ¬ 3 ≤ mc mv 4; omega)]) ⟨_, _, _, _, _, _, _, _, _, _, _, _, f36, f37, f38, f39, f40, f41, f42, f43, f44, f45, f46, f47, ⟨?_, ?_⟩, hrR, hrS, ?_, hrok, hsok, hpm⟩ fr
        · intro j hj
          show md j = (va_up mc mv (va_up (mc mv) 4 (mc mv 4 + 1))) j 0 ∧ ma j = (va_up mc mv (va_up (mc mv) 4 (mc mv 4 + 1))) j 1 ∧ mb j = (va_up mc mv (va_up (mc mv) 4 (mc mv 4 + 1))) j 2 ∧ ml j = (va_up mc mv (va_up (mc mv) 4 (mc mv 4 + 1))) j 3 ∧ va_up mr mv (mc mv 4 + 1) j = (va_up mc mv (va_up (mc mv) 4 (mc mv 4 + 1))) j 4
          by_cases q : j = mv
          · subst q; rw [va_up_self, va_up_self, va_up_self]; exact ⟨hq37 _ hj, hq38 _ hj, hq39 _ hj, hq40 _ hj, rfl⟩
          · rw [va_up_ne _ _ q, va_up_ne _ _ q]; exact hrL.1 j hj
        · intro j hj r hr4
          have hj : j < nm := hj
          have hr4 : r < (va_up mc mv (va_up (mc mv) 4 (mc mv 4 + 1))) j 4 := hr4
          show va_up mo (3 * mv + mc mv 4) rv (3 * j + r) = (va_up rd mv (va_up (rd mv) (mc mv 4) rv)) j r
          by_cases q : j = mv
          · subst q; rw [va_up_self, va_up_self] at hr4; rw [va_up_self]
            by_cases q2 : r = mc j 4
            · rw [q2, va_up_self, va_up_self]
            · rw [va_up_ne _ _ q2, va_up_ne _ _ (by omega)]; exact hmo j hj r (by omega)
          · rw [va_up_ne _ _ q] at hr4; rw [va_up_ne _ _ q]
            have := (hmk j hj).1.2.2.2.2
            rw [va_up_ne _ _ (by omega)]; exact hmo j hj r hr4
        · refine ⟨h6, hfa, hfb, fun j hj => ?_⟩
          have hj : j < nm := hj
          show mcOk ((va_up mc mv (va_up (mc mv) 4 (mc mv 4 + 1))) j) ∧ ∀ r, r < (va_up mc mv (va_up (mc mv) 4 (mc mv 4 + 1))) j 4 → 1 ≤ (va_up rd mv (va_up (rd mv) (mc mv 4) rv)) j r ∧ (va_up rd mv (va_up (rd mv) (mc mv 4) rv)) j r ≤ 1000
          by_cases q : j = mv
          · subst q; rw [va_up_self, va_up_self, va_up_self]
            obtain ⟨o0, o1, o2, o3, o4⟩ := (hmk j hj).1
            refine ⟨⟨o0, o1, o2, o3, by rw [va_up_self]; omega⟩, fun r hr4 => ?_⟩
            by_cases q2 : r = mc j 4
            · rw [q2, va_up_self]; exact ⟨rv1, rv2⟩
            · rw [va_up_ne _ _ q2]; exact (hmk j hj).2 r (by omega)
          · rw [va_up_ne _ _ q, va_up_ne _ _ q]; exact hmk j hj
      · refine lv_bipush (v := (-4)) hx hb dX6_roller_33 (by decide) ?_
        refine RET _ _ _ _ _ _ dX6_roller_35 rfl ?_ hH
        exact postM (by unfold lineOp sp_roller; rw [if_pos ⟨(rngS_iff (by omega)).mpr mv1, (rng_iff (by omega)).mpr (by omega)⟩, tN_nI (by omega), if_pos (by show 3 ≤ mc mv 4; omega)]) ⟨_, _, _, _, _, _, _, _, _, _, _, _, f36, f37, f38, f39, f40, f41, f42, f43, f44, f45, f46, f47, hrL, hrR, hrS, hlok, hrok, hsok, hpm⟩ fr
    · refine lv_bipush (v := (-2)) hx hb dX6_roller_20 (by decide) ?_
      refine RET _ _ _ _ _ _ dX6_roller_22 rfl ?_ hH
      exact postM (by unfold lineOp sp_roller; rw [if_neg (fun z => by first | exact absurd z.1 (by assumption) | exact absurd z.2 (by assumption))]) ⟨_, _, _, _, _, _, _, _, _, _, _, _, f36, f37, f38, f39, f40, f41, f42, f43, f44, f45, f46, f47, hrL, hrR, hrS, hlok, hrok, hsok, hpm⟩ fr
