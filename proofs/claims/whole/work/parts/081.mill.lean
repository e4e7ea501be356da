set_option maxHeartbeats 4000000 in
set_option maxRecDepth 100000 in
theorem k_X5_rowOrNull (l : Launch) (X : Cx) (ad : Nat → Nat) (hi : inj 48 ad) (g : PF) (C : ClS) (hC : rCls X ad C g) (p0 : Int32) : Kq l yX5_rowOrNull wsX5_rowOrNull zr1 X 48 ad g [.ref (ad 0), .int p0] (fun r g' => g' = g ∧ r = if rng p0 0 7 then some (ad (17 + 2 * tN p0)) else none) := by
  refine Kq.of (cc := cX5_rowOrNull) (maxL := 2) hi (by decide) rfl (Nat.le_of_ble_eq_true rfl) ?_
  intro p e s m below meth c Q E RET ls hl
  obtain ⟨C0, FX, hH⟩ := E
  have hx := C0.1
  have hb := C0.2.1
  have kl143 := C0.2.2.2.2 (.constantLong RX5 143 (lN 7)) (by decide +kernel)
  have kiX5 : ∀ w ∈ u_ws RX5 TX5 3, w ∈ wsX5_rowOrNull := (by decide +kernel)
  have kf18 : Cond.fieldLink RX5 18 "YarnMill" "rows" "[LYarnMill$Row;" ∈ wsX5_rowOrNull := (by decide +kernel)
  have hl : lv_has ls 2 [(0, .ref (ad 0)), (1, .int p0)] := hl
  obtain ⟨f0, fq, f16, hfq⟩ := id hC.1
  refine lv_iload_n hx hb dX5_rowOrNull_0 rfl (lv_at hl 1 rfl) ?_
  refine lv_i2l hx hb dX5_rowOrNull_1 rfl ?_
  refine lv_lconst (v := lN 0) hx hb dX5_rowOrNull_2 (by decide) ?_
  refine lv_ldc2 hx hb C0.2.2.2.1 kl143 dX5_rowOrNull_3 ?_
  refine rc_Si (rest := []) C0 FX hH (k_X5_within_rng l X ad hi _ p0 0 7 (by omega) (by omega)) (va_cwS 3 C0.2.2.2.2 gX5_rowOrNull_X5_within rfl rfl rfl (by decide +kernel) ⟨Nat.le_of_ble_eq_true rfl, Nat.le_of_ble_eq_true rfl⟩) rfl rfl hl.1 (Nat.le_of_ble_eq_true rfl) dX5_rowOrNull_6 ⟨Nat.le_of_ble_eq_true rfl, Nat.le_of_ble_eq_true rfl⟩ (fun r6 g6c H locs h6 hH => ?_)
  obtain ⟨e6, rfl⟩ := h6
  rw [e6] at hH
  refine rb_eq hx hb 21 dX5_rowOrNull_9 (by decide) (fun c9 => ?_) (fun c9 => ?_)
  · refine lv_null hx hb dX5_rowOrNull_21 ?_
    refine RET _ (none) _ _ _ _ dX5_rowOrNull_22 ?_ hH
    refine ⟨rfl, ?_⟩
    rw [if_neg c9]
  · obtain ⟨rv, rfl, rv1, rv2, rv3⟩ := rng_nI c9
    refine lv_aload_n hx hb dX5_rowOrNull_12 rfl (lv_at hl 0 rfl) ?_
    refine rp_get C0 FX hH 0 (by decide) (ci := 5) (k := 1) f0 rfl kiX5 (by decide) kf18 rfl dX5_rowOrNull_13 ?_
    refine lv_iload_n hx hb dX5_rowOrNull_16 rfl (lv_at hl 1 rfl) ?_
    refine rp_aald C0 FX hH 16 2 (by decide) f16 rfl rv (ad (17 + 2 * rv)) (by omega) (by decide) (hfq _ (by omega)) dX5_rowOrNull_17 ?_
    refine lv_goto (tgt := 22) hx hb dX5_rowOrNull_18 (by decide) ?_
    refine RET _ (some (ad (17 + 2 * rv))) _ _ _ _ dX5_rowOrNull_22 ?_ hH
    refine ⟨rfl, ?_⟩
    rw [if_pos ((rng_iff (by omega)).mpr (by omega)), tN_nI (by omega)]
set_option maxHeartbeats 4000000 in
set_option maxRecDepth 100000 in
theorem k_X5_cell (l : Launch) (X : Cx) (ad : Nat → Nat) (hi : inj 48 ad) (g : PF) (C : ClS) (hC : rCls X ad C g) (p0 p1 : Int32) : Ki l yX5_cell wsX5_cell zr4 X 48 ad g [.ref (ad 0), .int p0, .int p1] (fun r g' => r = (rowOp (sp_cell p1) p0 C).1 ∧ rCls X ad (rowOp (sp_cell p1) p0 C).2 g' ∧ frC g g') := by
  refine Ki.of (cc := cX5_cell) (maxL := 4) hi (by decide) rfl (Nat.le_of_ble_eq_true rfl) ?_
  intro p e s m below meth c Q E RET ls hl
  obtain ⟨C0, FX, hH⟩ := E
  have hx := C0.1
  have hb := C0.2.1
  have hl : lv_has ls 4 [(0, .ref (ad 0)), (1, .int p0), (2, .int p1)] := hl
  obtain ⟨f0, fq, f16, hfq⟩ := id hC.1
  refine lv_aload_n hx hb dX5_cell_0 rfl (lv_at hl 0 rfl) ?_
  refine lv_iload_n hx hb dX5_cell_1 rfl (lv_at hl 1 rfl) ?_
  refine rc_Vq (rest := []) C0 FX hH 0 (by decide) f0 rfl (k_X5_rowOrNull l X ad hi _ C hC p0) (cwV 1 C0.2.2.2.2 gX5_cell_X5_rowOrNull rfl rfl rfl (by decide +kernel) ⟨Nat.le_of_ble_eq_true rfl, Nat.le_of_ble_eq_true rfl⟩) rfl rfl hl.1 (Nat.le_of_ble_eq_true rfl) dX5_cell_2 ⟨Nat.le_of_ble_eq_true rfl, Nat.le_of_ble_eq_true rfl⟩ (fun r2 g2c H locs h2 hH => ?_)
  obtain ⟨e2, rfl⟩ := h2
  rw [e2] at hH
  by_cases cr2 : rng p0 0 7
  · rw [if_pos cr2]
    obtain ⟨rv, rfl, rv1, rv2, rv3⟩ := rng_nI cr2
    rw [tN_nI (by omega)]
    have hl : lv_has ls 4 [(0, .ref (ad 0)), (1, .int (nI rv)), (2, .int p1)] := hl
    show W _ _ _ _ _ _ _ _ _ _ _ _ _ _ _ (F0 m 5 ls (Value.ref (ad (17 + 2 * rv)) :: []))
    refine lv_astore_n (lv' := [(3, .ref (ad (17 + 2 * rv))), (0, .ref (ad 0)), (1, .int (nI rv)), (2, .int p1)]) hx hb dX5_cell_5 rfl hl (by decide) rfl (fun ls hl => ?_)
    refine lv_aload_n hx hb dX5_cell_6 rfl (lv_at hl 0 rfl) ?_
    refine lv_ifnonnull (tgt := 15) hx hb dX5_cell_7 (by decide) ?_
    refine lv_aload_n hx hb dX5_cell_15 rfl (lv_at hl 0 rfl) ?_
    refine lv_iload_n hx hb dX5_cell_16 rfl (lv_at hl 3 rfl) ?_
    obtain ⟨x17, yrw17, -⟩ := id (hC.2.2.1 rv (by omega))
    refine rc_Vi (rest := []) C0 FX hH (17 + 2 * rv) (by omega) yrw17 rfl (k_X3_addCell l X ad hi _ (17 + 2 * rv) (by omega) (C.2.1 rv) (C.2.2.1 rv) (hC.2.2.1 rv (by omega)) p1) (cwV 1 C0.2.2.2.2 gX5_cell_X3_addCell rfl rfl rfl (by decide +kernel) ⟨Nat.le_of_ble_eq_true rfl, Nat.le_of_ble_eq_true rfl⟩) rfl rfl hl.1 (Nat.le_of_ble_eq_true rfl) dX5_cell_17 ⟨Nat.le_of_ble_eq_true rfl, Nat.le_of_ble_eq_true rfl⟩ (fun r17 g17c H locs h17 hH => ?_)
    refine RET _ _ _ _ _ _ dX5_cell_20 rfl ?_ hH
    exact cs_row (f := (sp_cell p1)) hC rv2 h17
  · rw [if_neg cr2]
    show W _ _ _ _ _ _ _ _ _ _ _ _ _ _ _ (F0 m 5 ls (Value.null :: []))
    refine lv_astore_nN (lv' := [(3, .null), (0, .ref (ad 0)), (1, .int p0), (2, .int p1)]) hx hb dX5_cell_5 rfl hl (by decide) rfl (fun ls hl => ?_)
    refine lv_aload_nN hx hb dX5_cell_6 rfl (lv_at hl 0 rfl) ?_
    refine lv_ifnonnullN hx hb dX5_cell_7 ?_
    refine lv_bipush (v := (-2)) hx hb dX5_cell_10 (by decide) ?_
    refine lv_goto (tgt := 20) hx hb dX5_cell_12 (by decide) ?_
    refine RET _ _ _ _ _ _ dX5_cell_20 rfl ?_ hH
    exact cs_bad hC (by assumption)
set_option maxHeartbeats 4000000 in
set_option maxRecDepth 100000 in
theorem k_X5_draw (l : Launch) (X : Cx) (ad : Nat → Nat) (hi : inj 48 ad) (g : PF) (C : ClS) (hC : rCls X ad C g) (p0 p1 p2 p3 p4 : Int32) : Ki l yX5_draw wsX5_draw zr4 X 48 ad g [.ref (ad 0), .int p0, .int p1, .int p2, .int p3, .int p4] (fun r g' => r = (rowOp (sp_draw p1 p2 p3 p4) p0 C).1 ∧ rCls X ad (rowOp (sp_draw p1 p2 p3 p4) p0 C).2 g' ∧ frC g g') := by
  refine Ki.of (cc := cX5_draw) (maxL := 7) hi (by decide) rfl (Nat.le_of_ble_eq_true rfl) ?_
  intro p e s m below meth c Q E RET ls hl
  obtain ⟨C0, FX, hH⟩ := E
  have hx := C0.1
  have hb := C0.2.1
  have hl : lv_has ls 7 [(0, .ref (ad 0)), (1, .int p0), (2, .int p1), (3, .int p2), (4, .int p3), (5, .int p4)] := hl
  obtain ⟨f0, fq, f16, hfq⟩ := id hC.1
  refine lv_aload_n hx hb dX5_draw_0 rfl (lv_at hl 0 rfl) ?_
  refine lv_iload_n hx hb dX5_draw_1 rfl (lv_at hl 1 rfl) ?_
  refine rc_Vq (rest := []) C0 FX hH 0 (by decide) f0 rfl (k_X5_rowOrNull l X ad hi _ C hC p0) (cwV 1 C0.2.2.2.2 gX5_draw_X5_rowOrNull rfl rfl rfl (by decide +kernel) ⟨Nat.le_of_ble_eq_true rfl, Nat.le_of_ble_eq_true rfl⟩) rfl rfl hl.1 (Nat.le_of_ble_eq_true rfl) dX5_draw_2 ⟨Nat.le_of_ble_eq_true rfl, Nat.le_of_ble_eq_true rfl⟩ (fun r2 g2c H locs h2 hH => ?_)
  obtain ⟨e2, rfl⟩ := h2
  rw [e2] at hH
  by_cases cr2 : rng p0 0 7
  · rw [if_pos cr2]
    obtain ⟨rv, rfl, rv1, rv2, rv3⟩ := rng_nI cr2
    rw [tN_nI (by omega)]
    have hl : lv_has ls 7 [(0, .ref (ad 0)), (1, .int (nI rv)), (2, .int p1), (3, .int p2), (4, .int p3), (5, .int p4)] := hl
    show W _ _ _ _ _ _ _ _ _ _ _ _ _ _ _ (F0 m 5 ls (Value.ref (ad (17 + 2 * rv)) :: []))
    refine lv_astore (lv' := [(6, .ref (ad (17 + 2 * rv))), (0, .ref (ad 0)), (1, .int (nI rv)), (2, .int p1), (3, .int p2), (4, .int p3), (5, .int p4)]) hx hb dX5_draw_5 hl (by decide) rfl (fun ls hl => ?_)
    refine lv_aload hx hb dX5_draw_7 (lv_at hl 0 rfl) ?_
    refine lv_ifnonnull (tgt := 17) hx hb dX5_draw_9 (by decide) ?_
    refine lv_aload hx hb dX5_draw_17 (lv_at hl 0 rfl) ?_
    refine lv_iload_n hx hb dX5_draw_19 rfl (lv_at hl 3 rfl) ?_
    refine lv_iload_n hx hb dX5_draw_20 rfl (lv_at hl 4 rfl) ?_
    refine lv_iload hx hb dX5_draw_21 (lv_at hl 5 rfl) ?_
    refine lv_iload hx hb dX5_draw_23 (lv_at hl 6 rfl) ?_
    obtain ⟨x25, yrw25, -⟩ := id (hC.2.2.1 rv (by omega))
    refine rc_Vi (rest := []) C0 FX hH (17 + 2 * rv) (by omega) yrw25 rfl (k_X3_addDrawn l X ad hi _ (17 + 2 * rv) (by omega) (C.2.1 rv) (C.2.2.1 rv) (hC.2.2.1 rv (by omega)) p1 p2 p3 p4) (cwV 4 C0.2.2.2.2 gX5_draw_X3_addDrawn rfl rfl rfl (by decide +kernel) ⟨Nat.le_of_ble_eq_true rfl, Nat.le_of_ble_eq_true rfl⟩) rfl rfl hl.1 (Nat.le_of_ble_eq_true rfl) dX5_draw_25 ⟨Nat.le_of_ble_eq_true rfl, Nat.le_of_ble_eq_true rfl⟩ (fun r25 g25c H locs h25 hH => ?_)
    refine RET _ _ _ _ _ _ dX5_draw_28 rfl ?_ hH
    exact cs_row (f := (sp_draw p1 p2 p3 p4)) hC rv2 h25
  · rw [if_neg cr2]
    show W _ _ _ _ _ _ _ _ _ _ _ _ _ _ _ (F0 m 5 ls (Value.null :: []))
    refine lv_astoreN (lv' := [(6, .null), (0, .ref (ad 0)), (1, .int p0), (2, .int p1), (3, .int p2), (4, .int p3), (5, .int p4)]) hx hb dX5_draw_5 hl (by decide) rfl (fun ls hl => ?_)
    refine lv_aloadN hx hb dX5_draw_7 (lv_at hl 0 rfl) ?_
    refine lv_ifnonnullN hx hb dX5_draw_9 ?_
    refine lv_bipush (v := (-2)) hx hb dX5_draw_12 (by decide) ?_
    refine lv_goto (tgt := 28) hx hb dX5_draw_14 (by decide) ?_
    refine RET _ _ _ _ _ _ dX5_draw_28 rfl ?_ hH
    exact cs_bad hC (by assumption)
set_option maxHeartbeats 4000000 in
set_option maxRecDepth 100000 in
theorem k_X5_empty (l : Launch) (X : Cx) (ad : Nat → Nat) (hi : inj 48 ad) (g : PF) (C : ClS) (hC : rCls X ad C g) (p0 : Int32) : Ki l yX5_empty wsX5_empty zr4 X 48 ad g [.ref (ad 0), .int p0] (fun r g' => r = (rowOp (sp_empty) p0 C).1 ∧ rCls X ad (rowOp (sp_empty) p0 C).2 g' ∧ frC g g') := by
  refine Ki.of (cc := cX5_empty) (maxL := 3) hi (by decide) rfl (Nat.le_of_ble_eq_true rfl) ?_
  intro p e s m below meth c Q E RET ls hl
  obtain ⟨C0, FX, hH⟩ := E
  have hx := C0.1
  have hb := C0.2.1
  have hl : lv_has ls 3 [(0, .ref (ad 0)), (1, .int p0)] := hl
  obtain ⟨f0, fq, f16, hfq⟩ := id hC.1
  refine lv_aload_n hx hb dX5_empty_0 rfl (lv_at hl 0 rfl) ?_
  refine lv_iload_n hx hb dX5_empty_1 rfl (lv_at hl 1 rfl) ?_
  refine rc_Vq (rest := []) C0 FX hH 0 (by decide) f0 rfl (k_X5_rowOrNull l X ad hi _ C hC p0) (cwV 1 C0.2.2.2.2 gX5_empty_X5_rowOrNull rfl rfl rfl (by decide +kernel) ⟨Nat.le_of_ble_eq_true rfl, Nat.le_of_ble_eq_true rfl⟩) rfl rfl hl.1 (Nat.le_of_ble_eq_true rfl) dX5_empty_2 ⟨Nat.le_of_ble_eq_true rfl, Nat.le_of_ble_eq_true rfl⟩ (fun r2 g2c H locs h2 hH => ?_)
  obtain ⟨e2, rfl⟩ := h2
  rw [e2] at hH
  by_cases cr2 : rng p0 0 7
  · rw [if_pos cr2]
    obtain ⟨rv, rfl, rv1, rv2, rv3⟩ := rng_nI cr2
    rw [tN_nI (by omega)]
    have hl : lv_has ls 3 [(0, .ref (ad 0)), (1, .int (nI rv))] := hl
    show W _ _ _ _ _ _ _ _ _ _ _ _ _ _ _ (F0 m 5 ls (Value.ref (ad (17 + 2 * rv)) :: []))
    refine lv_astore_n (lv' := [(2, .ref (ad (17 + 2 * rv))), (0, .ref (ad 0)), (1, .int (nI rv))]) hx hb dX5_empty_5 rfl hl (by decide) rfl (fun ls hl => ?_)
    refine lv_aload_n hx hb dX5_empty_6 rfl (lv_at hl 0 rfl) ?_
    refine lv_ifnonnull (tgt := 15) hx hb dX5_empty_7 (by decide) ?_
    refine lv_aload_n hx hb dX5_empty_15 rfl (lv_at hl 0 rfl) ?_
    obtain ⟨x16, yrw16, -⟩ := id (hC.2.2.1 rv (by omega))
    refine rc_Vi (rest := []) C0 FX hH (17 + 2 * rv) (by omega) yrw16 rfl (k_X3_removeAll l X ad hi _ (17 + 2 * rv) (by omega) (C.2.1 rv) (C.2.2.1 rv) (hC.2.2.1 rv (by omega)) ) (cwV 0 C0.2.2.2.2 gX5_empty_X3_removeAll rfl rfl rfl (by decide +kernel) ⟨Nat.le_of_ble_eq_true rfl, Nat.le_of_ble_eq_true rfl⟩) rfl rfl hl.1 (Nat.le_of_ble_eq_true rfl) dX5_empty_16 ⟨Nat.le_of_ble_eq_true rfl, Nat.le_of_ble_eq_true rfl⟩ (fun r16 g16c H locs h16 hH => ?_)
    refine RET _ _ _ _ _ _ dX5_empty_19 rfl ?_ hH
    exact cs_row (f := (sp_empty)) hC rv2 h16
  · rw [if_neg cr2]
    show W _ _ _ _ _ _ _ _ _ _ _ _ _ _ _ (F0 m 5 ls (Value.null :: []))
    refine lv_astore_nN (lv' := [(2, .null), (0, .ref (ad 0)), (1, .int p0)]) hx hb dX5_empty_5 rfl hl (by decide) rfl (fun ls hl => ?_)
    refine lv_aload_nN hx hb dX5_empty_6 rfl (lv_at hl 0 rfl) ?_
    refine lv_ifnonnullN hx hb dX5_empty_7 ?_
    refine lv_bipush (v := (-2)) hx hb dX5_empty_10 (by decide) ?_
    refine lv_goto (tgt := 19) hx hb dX5_empty_12 (by decide) ?_
    refine RET _ _ _ _ _ _ dX5_empty_19 rfl ?_ hH
    exact cs_bad hC (by assumption)
set_option maxHeartbeats 4000000 in
set_option maxRecDepth 100000 in
theorem k_X5_stretch (l : Launch) (X : Cx) (ad : Nat → Nat) (hi : inj 48 ad) (g : PF) (C : ClS) (hC : rCls X ad C g) (p0 p1 : Int32) : Ki l yX5_stretch wsX5_stretch zr4 X 48 ad g [.ref (ad 0), .int p0, .int p1] (fun r g' => r = (rowOp (sp_stretch p1) p0 C).1 ∧ rCls X ad (rowOp (sp_stretch p1) p0 C).2 g' ∧ frC g g') := by
  refine Ki.of (cc := cX5_stretch) (maxL := 4) hi (by decide) rfl (Nat.le_of_ble_eq_true rfl) ?_
  intro p e s m below meth c Q E RET ls hl
  obtain ⟨C0, FX, hH⟩ := E
  have hx := C0.1
  have hb := C0.2.1
  have hl : lv_has ls 4 [(0, .ref (ad 0)), (1, .int p0), (2, .int p1)] := hl
  obtain ⟨f0, fq, f16, hfq⟩ := id hC.1
  refine lv_aload_n hx hb dX5_stretch_0 rfl (lv_at hl 0 rfl) ?_
  refine lv_iload_n hx hb dX5_stretch_1 rfl (lv_at hl 1 rfl) ?_
  refine rc_Vq (rest := []) C0 FX hH 0 (by decide) f0 rfl (k_X5_rowOrNull l X ad hi _ C hC p0) (cwV 1 C0.2.2.2.2 gX5_stretch_X5_rowOrNull rfl rfl rfl (by decide +kernel) ⟨Nat.le_of_ble_eq_true rfl, Nat.le_of_ble_eq_true rfl⟩) rfl rfl hl.1 (Nat.le_of_ble_eq_true rfl) dX5_stretch_2 ⟨Nat.le_of_ble_eq_true rfl, Nat.le_of_ble_eq_true rfl⟩ (fun r2 g2c H locs h2 hH => ?_)
  obtain ⟨e2, rfl⟩ := h2
  rw [e2] at hH
  by_cases cr2 : rng p0 0 7
  · rw [if_pos cr2]
    obtain ⟨rv, rfl, rv1, rv2, rv3⟩ := rng_nI cr2
    rw [tN_nI (by omega)]
    have hl : lv_has ls 4 [(0, .ref (ad 0)), (1, .int (nI rv)), (2, .int p1)] := hl
    show W _ _ _ _ _ _ _ _ _ _ _ _ _ _ _ (F0 m 5 ls (Value.ref (ad (17 + 2 * rv)) :: []))
    refine lv_astore_n (lv' := [(3, .ref (ad (17 + 2 * rv))), (0, .ref (ad 0)), (1, .int (nI rv)), (2, .int p1)]) hx hb dX5_stretch_5 rfl hl (by decide) rfl (fun ls hl => ?_)
    refine lv_aload_n hx hb dX5_stretch_6 rfl (lv_at hl 0 rfl) ?_
    refine lv_ifnonnull (tgt := 15) hx hb dX5_stretch_7 (by decide) ?_
    refine lv_aload_n hx hb dX5_stretch_15 rfl (lv_at hl 0 rfl) ?_
    refine lv_iload_n hx hb dX5_stretch_16 rfl (lv_at hl 3 rfl) ?_
    obtain ⟨x17, yrw17, -⟩ := id (hC.2.2.1 rv (by omega))
    refine rc_Vi (rest := []) C0 FX hH (17 + 2 * rv) (by omega) yrw17 rfl (k_X3_stretchBy l X ad hi _ (17 + 2 * rv) (by omega) (C.2.1 rv) (C.2.2.1 rv) (hC.2.2.1 rv (by omega)) p1) (cwV 1 C0.2.2.2.2 gX5_stretch_X3_stretchBy rfl rfl rfl (by decide +kernel) ⟨Nat.le_of_ble_eq_true rfl, Nat.le_of_ble_eq_true rfl⟩) rfl rfl hl.1 (Nat.le_of_ble_eq_true rfl) dX5_stretch_17 ⟨Nat.le_of_ble_eq_true rfl, Nat.le_of_ble_eq_true rfl⟩ (fun r17 g17c H locs h17 hH => ?_)
    refine RET _ _ _ _ _ _ dX5_stretch_20 rfl ?_ hH
    exact cs_row (f := (sp_stretch p1)) hC rv2 h17
  · rw [if_neg cr2]
    show W _ _ _ _ _ _ _ _ _ _ _ _ _ _ _ (F0 m 5 ls (Value.null :: []))
    refine lv_astore_nN (lv' := [(3, .null), (0, .ref (ad 0)), (1, .int p0), (2, .int p1)]) hx hb dX5_stretch_5 rfl hl (by decide) rfl (fun ls hl => ?_)
    refine lv_aload_nN hx hb dX5_stretch_6 rfl (lv_at hl 0 rfl) ?_
    refine lv_ifnonnullN hx hb dX5_stretch_7 ?_
    refine lv_bipush (v := (-2)) hx hb dX5_stretch_10 (by decide) ?_
    refine lv_goto (tgt := 20) hx hb dX5_stretch_12 (by decide) ?_
    refine RET _ _ _ _ _ _ dX5_stretch_20 rfl ?_ hH
    exact cs_bad hC (by assumption)
set_option maxHeartbeats 4000000 in
set_option maxRecDepth 100000 in
theorem k_X5_gather (l : Launch) (X : Cx) (ad : Nat → Nat) (hi : inj 48 ad) (g : PF) (C : ClS) (hC : rCls X ad C g) (p0 p1 : Int32) : Ki l yX5_gather wsX5_gather zr4 X 48 ad g [.ref (ad 0), .int p0, .int p1] (fun r g' => r = (rowOp (sp_gather p1) p0 C).1 ∧ rCls X ad (rowOp (sp_gather p1) p0 C).2 g' ∧ frC g g') := by
  refine Ki.of (cc := cX5_gather) (maxL := 4) hi (by decide) rfl (Nat.le_of_ble_eq_true rfl) ?_
  intro p e s m below meth c Q E RET ls hl
  obtain ⟨C0, FX, hH⟩ := E
  have hx := C0.1
  have hb := C0.2.1
  have hl : lv_has ls 4 [(0, .ref (ad 0)), (1, .int p0), (2, .int p1)] := hl
  obtain ⟨f0, fq, f16, hfq⟩ := id hC.1
  refine lv_aload_n hx hb dX5_gather_0 rfl (lv_at hl 0 rfl) ?_
  refine lv_iload_n hx hb dX5_gather_1 rfl (lv_at hl 1 rfl) ?_
  refine rc_Vq (rest := []) C0 FX hH 0 (by decide) f0 rfl (k_X5_rowOrNull l X ad hi _ C hC p0) (cwV 1 C0.2.2.2.2 gX5_gather_X5_rowOrNull rfl rfl rfl (by decide +kernel) ⟨Nat.le_of_ble_eq_true rfl, Nat.le_of_ble_eq_true rfl⟩) rfl rfl hl.1 (Nat.le_of_ble_eq_true rfl) dX5_gather_2 ⟨Nat.le_of_ble_eq_true rfl, Nat.le_of_ble_eq_true rfl⟩ (fun r2 g2c H locs h2 hH => ?_)
  obtain ⟨e2, rfl⟩ := h2
  rw [e2] at hH
  by_cases cr2 : rng p0 0 7
  · rw [if_pos cr2]
    obtain ⟨rv, rfl, rv1, rv2, rv3⟩ := rng_nI cr2
    rw [tN_nI (by omega)]
    have hl : lv_has ls 4 [(0, .ref (ad 0)), (1, .int (nI rv)), (2, .int p1)] := hl
    show W _ _ _ _ _ _ _ _ _ _ _ _ _ _ _ (F0 m 5 ls (Value.ref (ad (17 + 2 * rv)) :: []))
    refine lv_astore_n (lv' := [(3, .ref (ad (17 + 2 * rv))), (0, .ref (ad 0)), (1, .int (nI rv)), (2, .int p1)]) hx hb dX5_gather_5 rfl hl (by decide) rfl (fun ls hl => ?_)
    refine lv_aload_n hx hb dX5_gather_6 rfl (lv_at hl 0 rfl) ?_
    refine lv_ifnonnull (tgt := 15) hx hb dX5_gather_7 (by decide) ?_
    refine lv_aload_n hx hb dX5_gather_15 rfl (lv_at hl 0 rfl) ?_
    refine lv_iload_n hx hb dX5_gather_16 rfl (lv_at hl 3 rfl) ?_
    obtain ⟨x17, yrw17, -⟩ := id (hC.2.2.1 rv (by omega))
    refine rc_Vi (rest := []) C0 FX hH (17 + 2 * rv) (by omega) yrw17 rfl (k_X3_gatherBy l X ad hi _ (17 + 2 * rv) (by omega) (C.2.1 rv) (C.2.2.1 rv) (hC.2.2.1 rv (by omega)) p1) (cwV 1 C0.2.2.2.2 gX5_gather_X3_gatherBy rfl rfl rfl (by decide +kernel) ⟨Nat.le_of_ble_eq_true rfl, Nat.le_of_ble_eq_true rfl⟩) rfl rfl hl.1 (Nat.le_of_ble_eq_true rfl) dX5_gather_17 ⟨Nat.le_of_ble_eq_true rfl, Nat.le_of_ble_eq_true rfl⟩ (fun r17 g17c H locs h17 hH => ?_)
    refine RET _ _ _ _ _ _ dX5_gather_20 rfl ?_ hH
    exact cs_row (f := (sp_gather p1)) hC rv2 h17
  · rw [if_neg cr2]
    show W _ _ _ _ _ _ _ _ _ _ _ _ _ _ _ (F0 m 5 ls (Value.null :: []))
    refine lv_astore_nN (lv' := [(3, .null), (0, .ref (ad 0)), (1, .int p0), (2, .int p1)]) hx hb dX5_gather_5 rfl hl (by decide) rfl (fun ls hl => ?_)
    refine lv_aload_nN hx hb dX5_gather_6 rfl (lv_at hl 0 rfl) ?_
    refine lv_ifnonnullN hx hb dX5_gather_7 ?_
    refine lv_bipush (v := (-2)) hx hb dX5_gather_10 (by decide) ?_
    refine lv_goto (tgt := 20) hx hb dX5_gather_12 (by decide) ?_
    refine RET _ _ _ _ _ _ dX5_gather_20 rfl ?_ hH
    exact cs_bad hC (by assumption)
set_option maxHeartbeats 4000000 in
set_option maxRecDepth 100000 in
theorem k_X5_fault (l : Launch) (X : Cx) (ad : Nat → Nat) (hi : inj 48 ad) (g : PF) (C : ClS) (hC : rCls X ad C g) (p0 p1 p2 : Int32) : Ki l yX5_fault wsX5_fault zr4 X 48 ad g [.ref (ad 0), .int p0, .int p1, .int p2] (fun r g' => r = (rowOp (sp_fault p1 p2) p0 C).1 ∧ rCls X ad (rowOp (sp_fault p1 p2) p0 C).2 g' ∧ frC g g') := by
  refine Ki.of (cc := cX5_fault) (maxL := 5) hi (by decide) rfl (Nat.le_of_ble_eq_true rfl) ?_
  intro p e s m below meth c Q E RET ls hl
  obtain ⟨C0, FX, hH⟩ := E
  have hx := C0.1
  have hb := C0.2.1
  have hl : lv_has ls 5 [(0, .ref (ad 0)), (1, .int p0), (2, .int p1), (3, .int p2)] := hl
  obtain ⟨f0, fq, f16, hfq⟩ := id hC.1
  refine lv_aload_n hx hb dX5_fault_0 rfl (lv_at hl 0 rfl) ?_
  refine lv_iload_n hx hb dX5_fault_1 rfl (lv_at hl 1 rfl) ?_
  refine rc_Vq (rest := []) C0 FX hH 0 (by decide) f0 rfl (k_X5_rowOrNull l X ad hi _ C hC p0) (cwV 1 C0.2.2.2.2 gX5_fault_X5_rowOrNull rfl rfl rfl (by decide +kernel) ⟨Nat.le_of_ble_eq_true rfl, Nat.le_of_ble_eq_true rfl⟩) rfl rfl hl.1 (Nat.le_of_ble_eq_true rfl) dX5_fault_2 ⟨Nat.le_of_ble_eq_true rfl, Nat.le_of_ble_eq_true rfl⟩ (fun r2 g2c H locs h2 hH => ?_)
  obtain ⟨e2, rfl⟩ := h2
  rw [e2] at hH
  by_cases cr2 : rng p0 0 7
  · rw [if_pos cr2]
    obtain ⟨rv, rfl, rv1, rv2, rv3⟩ := rng_nI cr2
    rw [tN_nI (by omega)]
    have hl : lv_has ls 5 [(0, .ref (ad 0)), (1, .int (nI rv)), (2, .int p1), (3, .int p2)] := hl
    show W _ _ _ _ _ _ _ _ _ _ _ _ _ _ _ (F0 m 5 ls (Value.ref (ad (17 + 2 * rv)) :: []))
    refine lv_astore (lv' := [(4, .ref (ad (17 + 2 * rv))), (0, .ref (ad 0)), (1, .int (nI rv)), (2, .int p1), (3, .int p2)]) hx hb dX5_fault_5 hl (by decide) rfl (fun ls hl => ?_)
    refine lv_aload hx hb dX5_fault_7 (lv_at hl 0 rfl) ?_
    refine lv_ifnonnull (tgt := 17) hx hb dX5_fault_9 (by decide) ?_
    refine lv_aload hx hb dX5_fault_17 (lv_at hl 0 rfl) ?_
    refine lv_iload_n hx hb dX5_fault_19 rfl (lv_at hl 3 rfl) ?_
    refine lv_iload_n hx hb dX5_fault_20 rfl (lv_at hl 4 rfl) ?_
    obtain ⟨x21, yrw21, -⟩ := id (hC.2.2.1 rv (by omega))
    refine rc_Vi (rest := []) C0 FX hH (17 + 2 * rv) (by omega) yrw21 rfl (k_X3_faultBy l X ad hi _ (17 + 2 * rv) (by omega) (C.2.1 rv) (C.2.2.1 rv) (hC.2.2.1 rv (by omega)) p1 p2) (cwV 2 C0.2.2.2.2 gX5_fault_X3_faultBy rfl rfl rfl (by decide +kernel) ⟨Nat.le_of_ble_eq_true rfl, Nat.le_of_ble_eq_true rfl⟩) rfl rfl hl.1 (Nat.le_of_ble_eq_true rfl) dX5_fault_21 ⟨Nat.le_of_ble_eq_true rfl, Nat.le_of_ble_eq_true rfl⟩ (fun r21 g21c H locs h21 hH => ?_)
    refine RET _ _ _ _ _ _ dX5_fault_24 rfl ?_ hH
    exact cs_row (f := (sp_fault p1 p2)) hC rv2 h21
  · rw [if_neg cr2]
    show W _ _ _ _ _ _ _ _ _ _ _ _ _ _ _ (F0 m 5 ls (Value.null :: []))
    refine lv_astoreN (lv' := [(4, .null), (0, .ref (ad 0)), (1, .int p0), (2, .int p1), (3, .int p2)]) hx hb dX5_fault_5 hl (by decide) rfl (fun ls hl => ?_)
    refine lv_aloadN hx hb dX5_fault_7 (lv_at hl 0 rfl) ?_
    refine lv_ifnonnullN hx hb dX5_fault_9 ?_
    refine lv_bipush (v := (-2)) hx hb dX5_fault_12 (by decide) ?_
    refine lv_goto (tgt := 24) hx hb dX5_fault_14 (by decide) ?_
    refine RET _ _ _ _ _ _ dX5_fault_24 rfl ?_ hH
    exact cs_bad hC (by assumption)
set_option maxHeartbeats 4000000 in
set_option maxRecDepth 100000 in
theorem k_X5_cleared (l : Launch) (X : Cx) (ad : Nat → Nat) (hi : inj 48 ad) (g : PF) (C : ClS) (hC : rCls X ad C g) (p0 p1 p2 p3 : Int32) : Ki l yX5_cleared wsX5_cleared zr4 X 48 ad g [.ref (ad 0), .int p0, .int p1, .int p2, .int p3] (fun r g' => r = (rowOp (sp_cleared p1 p2 p3) p0 C).1 ∧ rCls X ad (rowOp (sp_cleared p1 p2 p3) p0 C).2 g' ∧ frC g g') := by
  refine Ki.of (cc := cX5_cleared) (maxL := 6) hi (by decide) rfl (Nat.le_of_ble_eq_true rfl) ?_
  intro p e s m below meth c Q E RET ls hl
  obtain ⟨C0, FX, hH⟩ := E
  have hx := C0.1
  have hb := C0.2.1
  have hl : lv_has ls 6 [(0, .ref (ad 0)), (1, .int p0), (2, .int p1), (3, .int p2), (4, .int p3)] := hl
  obtain ⟨f0, fq, f16, hfq⟩ := id hC.1
  refine lv_aload_n hx hb dX5_cleared_0 rfl (lv_at hl 0 rfl) ?_
  refine lv_iload_n hx hb dX5_cleared_1 rfl (lv_at hl 1 rfl) ?_
  refine rc_Vq (rest := []) C0 FX hH 0 (by decide) f0 rfl (k_X5_rowOrNull l X ad hi _ C hC p0) (cwV 1 C0.2.2.2.2 gX5_cleared_X5_rowOrNull rfl rfl rfl (by decide +kernel) ⟨Nat.le_of_ble_eq_true rfl, Nat.le_of_ble_eq_true rfl⟩) rfl rfl hl.1 (Nat.le_of_ble_eq_true rfl) dX5_cleared_2 ⟨Nat.le_of_ble_eq_true rfl, Nat.le_of_ble_eq_true rfl⟩ (fun r2 g2c H locs h2 hH => ?_)
  obtain ⟨e2, rfl⟩ := h2
  rw [e2] at hH
  by_cases cr2 : rng p0 0 7
  · rw [if_pos cr2]
    obtain ⟨rv, rfl, rv1, rv2, rv3⟩ := rng_nI cr2
    rw [tN_nI (by omega)]
    have hl : lv_has ls 6 [(0, .ref (ad 0)), (1, .int (nI rv)), (2, .int p1), (3, .int p2), (4, .int p3)] := hl
    show W _ _ _ _ _ _ _ _ _ _ _ _ _ _ _ (F0 m 5 ls (Value.ref (ad (17 + 2 * rv)) :: []))
    refine lv_astore (lv' := [(5, .ref (ad (17 + 2 * rv))), (0, .ref (ad 0)), (1, .int (nI rv)), (2, .int p1), (3, .int p2), (4, .int p3)]) hx hb dX5_cleared_5 hl (by decide) rfl (fun ls hl => ?_)
    refine lv_aload hx hb dX5_cleared_7 (lv_at hl 0 rfl) ?_
    refine lv_ifnonnull (tgt := 17) hx hb dX5_cleared_9 (by decide) ?_
    refine lv_aload hx hb dX5_cleared_17 (lv_at hl 0 rfl) ?_
    refine lv_iload_n hx hb dX5_cleared_19 rfl (lv_at hl 3 rfl) ?_
    refine lv_iload_n hx hb dX5_cleared_20 rfl (lv_at hl 4 rfl) ?_
    refine lv_iload hx hb dX5_cleared_21 (lv_at hl 5 rfl) ?_
    obtain ⟨x23, yrw23, -⟩ := id (hC.2.2.1 rv (by omega))
    refine rc_Vi (rest := []) C0 FX hH (17 + 2 * rv) (by omega) yrw23 rfl (k_X3_removePlaces l X ad hi _ (17 + 2 * rv) (by omega) (C.2.1 rv) (C.2.2.1 rv) (hC.2.2.1 rv (by omega)) p1 p2 p3) (cwV 3 C0.2.2.2.2 gX5_cleared_X3_removePlaces rfl rfl rfl (by decide +kernel) ⟨Nat.le_of_ble_eq_true rfl, Nat.le_of_ble_eq_true rfl⟩) rfl rfl hl.1 (Nat.le_of_ble_eq_true rfl) dX5_cleared_23 ⟨Nat.le_of_ble_eq_true rfl, Nat.le_of_ble_eq_true rfl⟩ (fun r23 g23c H locs h23 hH => ?_)
    refine RET _ _ _ _ _ _ dX5_cleared_26 rfl ?_ hH
    exact cs_row (f := (sp_cleared p1 p2 p3)) hC rv2 h23
  · rw [if_neg cr2]
    show W _ _ _ _ _ _ _ _ _ _ _ _ _ _ _ (F0 m 5 ls (Value.null :: []))
    refine lv_astoreN (lv' := [(5, .null), (0, .ref (ad 0)), (1, .int p0), (2, .int p1), (3, .int p2), (4, .int p3)]) hx hb dX5_cleared_5 hl (by decide) rfl (fun ls hl => ?_)
    refine lv_aloadN hx hb dX5_cleared_7 (lv_at hl 0 rfl) ?_
    refine lv_ifnonnullN hx hb dX5_cleared_9 ?_
    refine lv_bipush (v := (-2)) hx hb dX5_cleared_12 (by decide) ?_
    refine lv_goto (tgt := 26) hx hb dX5_cleared_14 (by decide) ?_
    refine RET _ _ _ _ _ _ dX5_cleared_26 rfl ?_ hH
    exact cs_bad hC (by assumption)
set_option maxHeartbeats 4000000 in
set_option maxRecDepth 100000 in
theorem k_X5_at (l : Launch) (X : Cx) (ad : Nat → Nat) (hi : inj 48 ad) (g : PF) (C : ClS) (hC : rCls X ad C g) (p0 p1 : Int32) : Ki l yX5_at wsX5_at zr4 X 48 ad g [.ref (ad 0), .int p0, .int p1] (fun r g' => g' = g ∧ r = rowRd (sp_at p1) (-2) p0 C) := by
  refine Ki.of (cc := cX5_at) (maxL := 4) hi (by decide) rfl (Nat.le_of_ble_eq_true rfl) ?_
  intro p e s m below meth c Q E RET ls hl
  obtain ⟨C0, FX, hH⟩ := E
  have hx := C0.1
  have hb := C0.2.1
  have hl : lv_has ls 4 [(0, .ref (ad 0)), (1, .int p0), (2, .int p1)] := hl
  obtain ⟨f0, fq, f16, hfq⟩ := id hC.1
  refine lv_aload_n hx hb dX5_at_0 rfl (lv_at hl 0 rfl) ?_
  refine lv_iload_n hx hb dX5_at_1 rfl (lv_at hl 1 rfl) ?_
  refine rc_Vq (rest := []) C0 FX hH 0 (by decide) f0 rfl (k_X5_rowOrNull l X ad hi _ C hC p0) (cwV 1 C0.2.2.2.2 gX5_at_X5_rowOrNull rfl rfl rfl (by decide +kernel) ⟨Nat.le_of_ble_eq_true rfl, Nat.le_of_ble_eq_true rfl⟩) rfl rfl hl.1 (Nat.le_of_ble_eq_true rfl) dX5_at_2 ⟨Nat.le_of_ble_eq_true rfl, Nat.le_of_ble_eq_true rfl⟩ (fun r2 g2c H locs h2 hH => ?_)
  obtain ⟨e2, rfl⟩ := h2
  rw [e2] at hH
  by_cases cr2 : rng p0 0 7
  · rw [if_pos cr2]
    obtain ⟨rv, rfl, rv1, rv2, rv3⟩ := rng_nI cr2
    rw [tN_nI (by omega)]
    have hl : lv_has ls 4 [(0, .ref (ad 0)), (1, .int (nI rv)), (2, .int p1)] := hl
    show W _ _ _ _ _ _ _ _ _ _ _ _ _ _ _ (F0 m 5 ls (Value.ref (ad (17 + 2 * rv)) :: []))
    refine lv_astore_n (lv' := [(3, .ref (ad (17 + 2 * rv))), (0, .ref (ad 0)), (1, .int (nI rv)), (2, .int p1)]) hx hb dX5_at_5 rfl hl (by decide) rfl (fun ls hl => ?_)
    refine lv_aload_n hx hb dX5_at_6 rfl (lv_at hl 0 rfl) ?_
    refine lv_ifnonnull (tgt := 15) hx hb dX5_at_7 (by decide) ?_
    refine lv_aload_n hx hb dX5_at_15 rfl (lv_at hl 0 rfl) ?_
    refine lv_iload_n hx hb dX5_at_16 rfl (lv_at hl 3 rfl) ?_
    obtain ⟨x17, yrw17, -⟩ := id (hC.2.2.1 rv (by omega))
    refine rc_Vi (rest := []) C0 FX hH (17 + 2 * rv) (by omega) yrw17 rfl (k_X3_massAt l X ad hi _ (17 + 2 * rv) (by omega) (C.2.1 rv) (C.2.2.1 rv) (hC.2.2.1 rv (by omega)) p1) (cwV 1 C0.2.2.2.2 gX5_at_X3_massAt rfl rfl rfl (by decide +kernel) ⟨Nat.le_of_ble_eq_true rfl, Nat.le_of_ble_eq_true rfl⟩) rfl rfl hl.1 (Nat.le_of_ble_eq_true rfl) dX5_at_17 ⟨Nat.le_of_ble_eq_true rfl, Nat.le_of_ble_eq_true rfl⟩ (fun r17 g17c H locs h17 hH => ?_)
    obtain ⟨e17, rfl⟩ := h17
    rw [e17] at hH
    refine RET _ _ _ _ _ _ dX5_at_20 rfl ?_ hH
    exact ⟨rfl, (rd_row rv2).symm⟩
  · rw [if_neg cr2]
    show W _ _ _ _ _ _ _ _ _ _ _ _ _ _ _ (F0 m 5 ls (Value.null :: []))
    refine lv_astore_nN (lv' := [(3, .null), (0, .ref (ad 0)), (1, .int p0), (2, .int p1)]) hx hb dX5_at_5 rfl hl (by decide) rfl (fun ls hl => ?_)
    refine lv_aload_nN hx hb dX5_at_6 rfl (lv_at hl 0 rfl) ?_
    refine lv_ifnonnullN hx hb dX5_at_7 ?_
    refine lv_bipush (v := (-2)) hx hb dX5_at_10 (by decide) ?_
    refine lv_goto (tgt := 20) hx hb dX5_at_12 (by decide) ?_
    refine RET _ _ _ _ _ _ dX5_at_20 rfl ?_ hH
    exact ⟨rfl, (rd_bad (by assumption)).symm⟩
set_option maxHeartbeats 4000000 in
set_option maxRecDepth 100000 in
theorem k_X5_about (l : Launch) (X : Cx) (ad : Nat → Nat) (hi : inj 48 ad) (g : PF) (C : ClS) (hC : rCls X ad C g) (p0 p1 : Int32) : Kl l yX5_about wsX5_about zr4 X 48 ad g [.ref (ad 0), .int p0, .int p1] (fun r g' => g' = g ∧ r = rowRd (sp_about p1) (-1) p0 C) := by
  refine Kl.of (cc := cX5_about) (maxL := 4) hi (by decide) rfl (Nat.le_of_ble_eq_true rfl) ?_
  intro p e s m below meth c Q E RET ls hl
  obtain ⟨C0, FX, hH⟩ := E
  have hx := C0.1
  have hb := C0.2.1
  have kl85 := C0.2.2.2.2 (.constantLong RX5 85 (-1)) (by decide +kernel)
  have hl : lv_has ls 4 [(0, .ref (ad 0)), (1, .int p0), (2, .int p1)] := hl
  obtain ⟨f0, fq, f16, hfq⟩ := id hC.1
  refine lv_aload_n hx hb dX5_about_0 rfl (lv_at hl 0 rfl) ?_
  refine lv_iload_n hx hb dX5_about_1 rfl (lv_at hl 1 rfl) ?_
  refine rc_Vq (rest := []) C0 FX hH 0 (by decide) f0 rfl (k_X5_rowOrNull l X ad hi _ C hC p0) (cwV 1 C0.2.2.2.2 gX5_about_X5_rowOrNull rfl rfl rfl (by decide +kernel) ⟨Nat.le_of_ble_eq_true rfl, Nat.le_of_ble_eq_true rfl⟩) rfl rfl hl.1 (Nat.le_of_ble_eq_true rfl) dX5_about_2 ⟨Nat.le_of_ble_eq_true rfl, Nat.le_of_ble_eq_true rfl⟩ (fun r2 g2c H locs h2 hH => ?_)
  obtain ⟨e2, rfl⟩ := h2
  rw [e2] at hH
  by_cases cr2 : rng p0 0 7
  · rw [if_pos cr2]
    obtain ⟨rv, rfl, rv1, rv2, rv3⟩ := rng_nI cr2
    rw [tN_nI (by omega)]
    have hl : lv_has ls 4 [(0, .ref (ad 0)), (1, .int (nI rv)), (2, .int p1)] := hl
    show W _ _ _ _ _ _ _ _ _ _ _ _ _ _ _ (F0 m 5 ls (Value.ref (ad (17 + 2 * rv)) :: []))
    refine lv_astore_n (lv' := [(3, .ref (ad (17 + 2 * rv))), (0, .ref (ad 0)), (1, .int (nI rv)), (2, .int p1)]) hx hb dX5_about_5 rfl hl (by decide) rfl (fun ls hl => ?_)
    refine lv_aload_n hx hb dX5_about_6 rfl (lv_at hl 0 rfl) ?_
    refine lv_ifnonnull (tgt := 16) hx hb dX5_about_7 (by decide) ?_
    refine lv_aload_n hx hb dX5_about_16 rfl (lv_at hl 0 rfl) ?_
    refine lv_iload_n hx hb dX5_about_17 rfl (lv_at hl 3 rfl) ?_
    obtain ⟨x18, yrw18, -⟩ := id (hC.2.2.1 rv (by omega))
    refine rc_Vl (rest := []) C0 FX hH (17 + 2 * rv) (by omega) yrw18 rfl (k_X3_measure l X ad hi _ (17 + 2 * rv) (by omega) (C.2.1 rv) (C.2.2.1 rv) (hC.2.2.1 rv (by omega)) p1) (cwV 1 C0.2.2.2.2 gX5_about_X3_measure rfl rfl rfl (by decide +kernel) ⟨Nat.le_of_ble_eq_true rfl, Nat.le_of_ble_eq_true rfl⟩) rfl rfl hl.1 (Nat.le_of_ble_eq_true rfl) dX5_about_18 ⟨Nat.le_of_ble_eq_true rfl, Nat.le_of_ble_eq_true rfl⟩ (fun r18 g18c H locs h18 hH => ?_)
    obtain ⟨e18, rfl⟩ := h18
    rw [e18] at hH
    refine RET _ _ _ _ _ _ dX5_about_21 ?_ hH
    exact ⟨rfl, (rd_row rv2).symm⟩
  · rw [if_neg cr2]
    show W _ _ _ _ _ _ _ _ _ _ _ _ _ _ _ (F0 m 5 ls (Value.null :: []))
    refine lv_astore_nN (lv' := [(3, .null), (0, .ref (ad 0)), (1, .int p0), (2, .int p1)]) hx hb dX5_about_5 rfl hl (by decide) rfl (fun ls hl => ?_)
    refine lv_aload_nN hx hb dX5_about_6 rfl (lv_at hl 0 rfl) ?_
    refine lv_ifnonnullN hx hb dX5_about_7 ?_
    refine lv_ldc2 hx hb C0.2.2.2.1 kl85 dX5_about_10 ?_
    refine lv_goto (tgt := 21) hx hb dX5_about_13 (by decide) ?_
    refine RET _ _ _ _ _ _ dX5_about_21 ?_ hH
    exact ⟨rfl, (rd_bad (by assumption)).symm⟩
set_option maxHeartbeats 4000000 in
set_option maxRecDepth 100000 in
theorem k_X5_wave (l : Launch) (X : Cx) (ad : Nat → Nat) (hi : inj 48 ad) (g : PF) (C : ClS) (hC : rCls X ad C g) (p0 p1 : Int32) : Kl l yX5_wave wsX5_wave zr4 X 48 ad g [.ref (ad 0), .int p0, .int p1] (fun r g' => g' = g ∧ r = rowRd (sp_wave p1) (-1) p0 C) := by
  refine Kl.of (cc := cX5_wave) (maxL := 4) hi (by decide) rfl (Nat.le_of_ble_eq_true rfl) ?_
  intro p e s m below meth c Q E RET ls hl
  obtain ⟨C0, FX, hH⟩ := E
  have hx := C0.1
  have hb := C0.2.1
  have kl85 := C0.2.2.2.2 (.constantLong RX5 85 (-1)) (by decide +kernel)
  have hl : lv_has ls 4 [(0, .ref (ad 0)), (1, .int p0), (2, .int p1)] := hl
  obtain ⟨f0, fq, f16, hfq⟩ := id hC.1
  refine lv_aload_n hx hb dX5_wave_0 rfl (lv_at hl 0 rfl) ?_
  refine lv_iload_n hx hb dX5_wave_1 rfl (lv_at hl 1 rfl) ?_
  refine rc_Vq (rest := []) C0 FX hH 0 (by decide) f0 rfl (k_X5_rowOrNull l X ad hi _ C hC p0) (cwV 1 C0.2.2.2.2 gX5_wave_X5_rowOrNull rfl rfl rfl (by decide +kernel) ⟨Nat.le_of_ble_eq_true rfl, Nat.le_of_ble_eq_true rfl⟩) rfl rfl hl.1 (Nat.le_of_ble_eq_true rfl) dX5_wave_2 ⟨Nat.le_of_ble_eq_true rfl, Nat.le_of_ble_eq_true rfl⟩ (fun r2 g2c H locs h2 hH => ?_)
  obtain ⟨e2, rfl⟩ := h2
  rw [e2] at hH
  by_cases cr2 : rng p0 0 7
  · rw [if_pos cr2]
    obtain ⟨rv, rfl, rv1, rv2, rv3⟩ := rng_nI cr2
    rw [tN_nI (by omega)]
    have hl : lv_has ls 4 [(0, .ref (ad 0)), (1, .int (nI rv)), (2, .int p1)] := hl
    show W _ _ _ _ _ _ _ _ _ _ _ _ _ _ _ (F0 m 5 ls (Value.ref (ad (17 + 2 * rv)) :: []))
    refine lv_astore_n (lv' := [(3, .ref (ad (17 + 2 * rv))), (0, .ref (ad 0)), (1, .int (nI rv)), (2, .int p1)]) hx hb dX5_wave_5 rfl hl (by decide) rfl (fun ls hl => ?_)
    refine lv_aload_n hx hb dX5_wave_6 rfl (lv_at hl 0 rfl) ?_
    refine lv_ifnonnull (tgt := 16) hx hb dX5_wave_7 (by decide) ?_
    refine lv_aload_n hx hb dX5_wave_16 rfl (lv_at hl 0 rfl) ?_
    refine lv_iload_n hx hb dX5_wave_17 rfl (lv_at hl 3 rfl) ?_
    obtain ⟨x18, yrw18, -⟩ := id (hC.2.2.1 rv (by omega))
    refine rc_Vl (rest := []) C0 FX hH (17 + 2 * rv) (by omega) yrw18 rfl (k_X3_waveAt l X ad hi _ (17 + 2 * rv) (by omega) (C.2.1 rv) (C.2.2.1 rv) (hC.2.2.1 rv (by omega)) p1) (cwV 1 C0.2.2.2.2 gX5_wave_X3_waveAt rfl rfl rfl (by decide +kernel) ⟨Nat.le_of_ble_eq_true rfl, Nat.le_of_ble_eq_true rfl⟩) rfl rfl hl.1 (Nat.le_of_ble_eq_true rfl) dX5_wave_18 ⟨Nat.le_of_ble_eq_true rfl, Nat.le_of_ble_eq_true rfl⟩ (fun r18 g18c H locs h18 hH => ?_)
    obtain ⟨e18, rfl⟩ := h18
    rw [e18] at hH
    refine RET _ _ _ _ _ _ dX5_wave_21 ?_ hH
    exact ⟨rfl, (rd_row rv2).symm⟩
  · rw [if_neg cr2]
    show W _ _ _ _ _ _ _ _ _ _ _ _ _ _ _ (F0 m 5 ls (Value.null :: []))
    refine lv_astore_nN (lv' := [(3, .null), (0, .ref (ad 0)), (1, .int p0), (2, .int p1)]) hx hb dX5_wave_5 rfl hl (by decide) rfl (fun ls hl => ?_)
    refine lv_aload_nN hx hb dX5_wave_6 rfl (lv_at hl 0 rfl) ?_
    refine lv_ifnonnullN hx hb dX5_wave_7 ?_
    refine lv_ldc2 hx hb C0.2.2.2.1 kl85 dX5_wave_10 ?_
    refine lv_goto (tgt := 21) hx hb dX5_wave_13 (by decide) ?_
    refine RET _ _ _ _ _ _ dX5_wave_21 ?_ hH
    exact ⟨rfl, (rd_bad (by assumption)).symm⟩
set_option maxHeartbeats 4000000 in
set_option maxRecDepth 100000 in
theorem k_X5_greatest (l : Launch) (X : Cx) (ad : Nat → Nat) (hi : inj 48 ad) (g : PF) (C : ClS) (hC : rCls X ad C g) (p0 p1 : Int32) : Ki l yX5_greatest wsX5_greatest zr4 X 48 ad g [.ref (ad 0), .int p0, .int p1] (fun r g' => g' = g ∧ r = rowRd (sp_greatest p1) (-2) p0 C) := by
  refine Ki.of (cc := cX5_greatest) (maxL := 4) hi (by decide) rfl (Nat.le_of_ble_eq_true rfl) ?_
  intro p e s m below meth c Q E RET ls hl
  obtain ⟨C0, FX, hH⟩ := E
  have hx := C0.1
  have hb := C0.2.1
  have hl : lv_has ls 4 [(0, .ref (ad 0)), (1, .int p0), (2, .int p1)] := hl
  obtain ⟨f0, fq, f16, hfq⟩ := id hC.1
  refine lv_aload_n hx hb dX5_greatest_0 rfl (lv_at hl 0 rfl) ?_
  refine lv_iload_n hx hb dX5_greatest_1 rfl (lv_at hl 1 rfl) ?_
  refine rc_Vq (rest := []) C0 FX hH 0 (by decide) f0 rfl (k_X5_rowOrNull l X ad hi _ C hC p0) (cwV 1 C0.2.2.2.2 gX5_greatest_X5_rowOrNull rfl rfl rfl (by decide +kernel) ⟨Nat.le_of_ble_eq_true rfl, Nat.le_of_ble_eq_true rfl⟩) rfl rfl hl.1 (Nat.le_of_ble_eq_true rfl) dX5_greatest_2 ⟨Nat.le_of_ble_eq_true rfl, Nat.le_of_ble_eq_true rfl⟩ (fun r2 g2c H locs h2 hH => ?_)
  obtain ⟨e2, rfl⟩ := h2
  rw [e2] at hH
  by_cases cr2 : rng p0 0 7
  · rw [if_pos cr2]
    obtain ⟨rv, rfl, rv1, rv2, rv3⟩ := rng_nI cr2
    rw [tN_nI (by omega)]
    have hl : lv_has ls 4 [(0, .ref (ad 0)), (1, .int (nI rv)), (2, .int p1)] := hl
    show W _ _ _ _ _ _ _ _ _ _ _ _ _ _ _ (F0 m 5 ls (Value.ref (ad (17 + 2 * rv)) :: []))
    refine lv_astore_n (lv' := [(3, .ref (ad (17 + 2 * rv))), (0, .ref (ad 0)), (1, .int (nI rv)), (2, .int p1)]) hx hb dX5_greatest_5 rfl hl (by decide) rfl (fun ls hl => ?_)
    refine lv_aload_n hx hb dX5_greatest_6 rfl (lv_at hl 0 rfl) ?_
    refine lv_ifnonnull (tgt := 15) hx hb dX5_greatest_7 (by decide) ?_
    refine lv_aload_n hx hb dX5_greatest_15 rfl (lv_at hl 0 rfl) ?_
    refine lv_iload_n hx hb dX5_greatest_16 rfl (lv_at hl 3 rfl) ?_
    obtain ⟨x17, yrw17, -⟩ := id (hC.2.2.1 rv (by omega))
    refine rc_Vi (rest := []) C0 FX hH (17 + 2 * rv) (by omega) yrw17 rfl (k_X3_greatestUpTo l X ad hi _ (17 + 2 * rv) (by omega) (C.2.1 rv) (C.2.2.1 rv) (hC.2.2.1 rv (by omega)) p1) (cwV 1 C0.2.2.2.2 gX5_greatest_X3_greatestUpTo rfl rfl rfl (by decide +kernel) ⟨Nat.le_of_ble_eq_true rfl, Nat.le_of_ble_eq_true rfl⟩) rfl rfl hl.1 (Nat.le_of_ble_eq_true rfl) dX5_greatest_17 ⟨Nat.le_of_ble_eq_true rfl, Nat.le_of_ble_eq_true rfl⟩ (fun r17 g17c H locs h17 hH => ?_)
    obtain ⟨e17, rfl⟩ := h17
    rw [e17] at hH
    refine RET _ _ _ _ _ _ dX5_greatest_20 rfl ?_ hH
    exact ⟨rfl, (rd_row rv2).symm⟩
  · rw [if_neg cr2]
    show W _ _ _ _ _ _ _ _ _ _ _ _ _ _ _ (F0 m 5 ls (Value.null :: []))
    refine lv_astore_nN (lv' := [(3, .null), (0, .ref (ad 0)), (1, .int p0), (2, .int p1)]) hx hb dX5_greatest_5 rfl hl (by decide) rfl (fun ls hl => ?_)
    refine lv_aload_nN hx hb dX5_greatest_6 rfl (lv_at hl 0 rfl) ?_
    refine lv_ifnonnullN hx hb dX5_greatest_7 ?_
    refine lv_bipush (v := (-2)) hx hb dX5_greatest_10 (by decide) ?_
    refine lv_goto (tgt := 20) hx hb dX5_greatest_12 (by decide) ?_
    refine RET _ _ _ _ _ _ dX5_greatest_20 rfl ?_ hH
    exact ⟨rfl, (rd_bad (by assumption)).symm⟩
set_option maxHeartbeats 4000000 in
set_option maxRecDepth 100000 in
theorem k_X5_places (l : Launch) (X : Cx) (ad : Nat → Nat) (hi : inj 48 ad) (g : PF) (C : ClS) (hC : rCls X ad C g) (p0 p1 p2 p3 p4 : Int32) : Ki l yX5_places wsX5_places zr4 X 48 ad g [.ref (ad 0), .int p0, .int p1, .int p2, .int p3, .int p4] (fun r g' => g' = g ∧ r = rowRd (sp_places p1 p2 p3 p4) (-2) p0 C) := by
  refine Ki.of (cc := cX5_places) (maxL := 7) hi (by decide) rfl (Nat.le_of_ble_eq_true rfl) ?_
  intro p e s m below meth c Q E RET ls hl
  obtain ⟨C0, FX, hH⟩ := E
  have hx := C0.1
  have hb := C0.2.1
  have hl : lv_has ls 7 [(0, .ref (ad 0)), (1, .int p0), (2, .int p1), (3, .int p2), (4, .int p3), (5, .int p4)] := hl
  obtain ⟨f0, fq, f16, hfq⟩ := id hC.1
  refine lv_aload_n hx hb dX5_places_0 rfl (lv_at hl 0 rfl) ?_
  refine lv_iload_n hx hb dX5_places_1 rfl (lv_at hl 1 rfl) ?_
  refine rc_Vq (rest := []) C0 FX hH 0 (by decide) f0 rfl (k_X5_rowOrNull l X ad hi _ C hC p0) (cwV 1 C0.2.2.2.2 gX5_places_X5_rowOrNull rfl rfl rfl (by decide +kernel) ⟨Nat.le_of_ble_eq_true rfl, Nat.le_of_ble_eq_true rfl⟩) rfl rfl hl.1 (Nat.le_of_ble_eq_true rfl) dX5_places_2 ⟨Nat.le_of_ble_eq_true rfl, Nat.le_of_ble_eq_true rfl⟩ (fun r2 g2c H locs h2 hH => ?_)
  obtain ⟨e2, rfl⟩ := h2
  rw [e2] at hH
  by_cases cr2 : rng p0 0 7
  · rw [if_pos cr2]
    obtain ⟨rv, rfl, rv1, rv2, rv3⟩ := rng_nI cr2
    rw [tN_nI (by omega)]
    have hl : lv_has ls 7 [(0, .ref (ad 0)), (1, .int (nI rv)), (2, .int p1), (3, .int p2), (4, .int p3), (5, .int p4)] := hl
    show W _ _ _ _ _ _ _ _ _ _ _ _ _ _ _ (F0 m 5 ls (Value.ref (ad (17 + 2 * rv)) :: []))
    refine lv_astore (lv' := [(6, .ref (ad (17 + 2 * rv))), (0, .ref (ad 0)), (1, .int (nI rv)), (2, .int p1), (3, .int p2), (4, .int p3), (5, .int p4)]) hx hb dX5_places_5 hl (by decide) rfl (fun ls hl => ?_)
    refine lv_aload hx hb dX5_places_7 (lv_at hl 0 rfl) ?_
    refine lv_ifnonnull (tgt := 17) hx hb dX5_places_9 (by decide) ?_
    refine lv_aload hx hb dX5_places_17 (lv_at hl 0 rfl) ?_
    refine lv_iload_n hx hb dX5_places_19 rfl (lv_at hl 3 rfl) ?_
    refine lv_iload_n hx hb dX5_places_20 rfl (lv_at hl 4 rfl) ?_
    refine lv_iload hx hb dX5_places_21 (lv_at hl 5 rfl) ?_
    refine lv_iload hx hb dX5_places_23 (lv_at hl 6 rfl) ?_
    obtain ⟨x25, yrw25, -⟩ := id (hC.2.2.1 rv (by omega))
    refine rc_Vi (rest := []) C0 FX hH (17 + 2 * rv) (by omega) yrw25 rfl (k_X3_countPlaces l X ad hi _ (17 + 2 * rv) (by omega) (C.2.1 rv) (C.2.2.1 rv) (hC.2.2.1 rv (by omega)) p1 p2 p3 p4) (cwV 4 C0.2.2.2.2 gX5_places_X3_countPlaces rfl rfl rfl (by decide +kernel) ⟨Nat.le_of_ble_eq_true rfl, Nat.le_of_ble_eq_true rfl⟩) rfl rfl hl.1 (Nat.le_of_ble_eq_true rfl) dX5_places_25 ⟨Nat.le_of_ble_eq_true rfl, Nat.le_of_ble_eq_true rfl⟩ (fun r25 g25c H locs h25 hH => ?_)
    obtain ⟨e25, rfl⟩ := h25
    rw [e25] at hH
    refine RET _ _ _ _ _ _ dX5_places_28 rfl ?_ hH
    exact ⟨rfl, (rd_row rv2).symm⟩
  · rw [if_neg cr2]
    show W _ _ _ _ _ _ _ _ _ _ _ _ _ _ _ (F0 m 5 ls (Value.null :: []))
    refine lv_astoreN (lv' := [(6, .null), (0, .ref (ad 0)), (1, .int p0), (2, .int p1), (3, .int p2), (4, .int p3), (5, .int p4)]) hx hb dX5_places_5 hl (by decide) rfl (fun ls hl => ?_)
    refine lv_aloadN hx hb dX5_places_7 (lv_at hl 0 rfl) ?_
    refine lv_ifnonnullN hx hb dX5_places_9 ?_
    refine lv_bipush (v := (-2)) hx hb dX5_places_12 (by decide) ?_
    refine lv_goto (tgt := 28) hx hb dX5_places_14 (by decide) ?_
    refine RET _ _ _ _ _ _ dX5_places_28 rfl ?_ hH
    exact ⟨rfl, (rd_bad (by assumption)).symm⟩
set_option maxHeartbeats 4000000 in
set_option maxRecDepth 100000 in
theorem k_X5_join (l : Launch) (X : Cx) (ad : Nat → Nat) (hi : inj 48 ad) (g : PF) (C : ClS) (hC : rCls X ad C g) (p0 p1 : Int32) : Ki l yX5_join wsX5_join zr4 X 48 ad g [.ref (ad 0), .int p0, .int p1] (fun r g' => r = (cs_join p0 p1 C).1 ∧ rCls X ad (cs_join p0 p1 C).2 g' ∧ frC g g') := by
  refine Ki.of (cc := cX5_join) (maxL := 5) hi (by decide) rfl (Nat.le_of_ble_eq_true rfl) ?_
  intro p e s m below meth c Q E RET ls hl
  obtain ⟨C0, FX, hH⟩ := E
  have hx := C0.1
  have hb := C0.2.1
  have hl : lv_has ls 5 [(0, .ref (ad 0)), (1, .int p0), (2, .int p1)] := hl
  obtain ⟨f0, fq, f16, hfq⟩ := id hC.1
  refine lv_aload_n hx hb dX5_join_0 rfl (lv_at hl 0 rfl) ?_
  refine lv_iload_n hx hb dX5_join_1 rfl (lv_at hl 1 rfl) ?_
  refine rc_Vq (rest := []) C0 FX hH 0 (by decide) f0 rfl (k_X5_rowOrNull l X ad hi _ C hC p0) (cwV 1 C0.2.2.2.2 gX5_join_X5_rowOrNull rfl rfl rfl (by decide +kernel) ⟨Nat.le_of_ble_eq_true rfl, Nat.le_of_ble_eq_true rfl⟩) rfl rfl hl.1 (Nat.le_of_ble_eq_true rfl) dX5_join_2 ⟨Nat.le_of_ble_eq_true rfl, Nat.le_of_ble_eq_true rfl⟩ (fun r2 g2c H locs h2 hH => ?_)
  obtain ⟨e2, rfl⟩ := h2
  rw [e2] at hH
  by_cases cr2 : rng p0 0 7
  · rw [if_pos cr2]
    obtain ⟨rv, rfl, rv1, rv2, rv3⟩ := rng_nI cr2
    rw [tN_nI (by omega)]
    have hl : lv_has ls 5 [(0, .ref (ad 0)), (1, .int (nI rv)), (2, .int p1)] := hl
    show W _ _ _ _ _ _ _ _ _ _ _ _ _ _ _ (F0 m 5 ls (Value.ref (ad (17 + 2 * rv)) :: []))
    refine lv_astore_n (lv' := [(3, .ref (ad (17 + 2 * rv))), (0, .ref (ad 0)), (1, .int (nI rv)), (2, .int p1)]) hx hb dX5_join_5 rfl hl (by decide) rfl (fun ls hl => ?_)
    refine lv_aload_n hx hb dX5_join_6 rfl (lv_at hl 1 rfl) ?_
    refine lv_iload_n hx hb dX5_join_7 rfl (lv_at hl 3 rfl) ?_
    refine rc_Vq (rest := []) C0 FX hH 0 (by decide) f0 rfl (k_X5_rowOrNull l X ad hi _ C hC p1) (cwV 1 C0.2.2.2.2 gX5_join_X5_rowOrNull rfl rfl rfl (by decide +kernel) ⟨Nat.le_of_ble_eq_true rfl, Nat.le_of_ble_eq_true rfl⟩) rfl rfl hl.1 (Nat.le_of_ble_eq_true rfl) dX5_join_8 ⟨Nat.le_of_ble_eq_true rfl, Nat.le_of_ble_eq_true rfl⟩ (fun r8 g8c H locs h8 hH => ?_)
    obtain ⟨e8, rfl⟩ := h8
    rw [e8] at hH
    by_cases cr8 : rng p1 0 7
    · rw [if_pos cr8]
      obtain ⟨ov, rfl, ov1, ov2, ov3⟩ := rng_nI cr8
      rw [tN_nI (by omega)]
      have hl : lv_has ls 5 [(3, .ref (ad (17 + 2 * rv))), (0, .ref (ad 0)), (1, .int (nI rv)), (2, .int (nI ov))] := hl
      show W _ _ _ _ _ _ _ _ _ _ _ _ _ _ _ (F0 m 11 ls (Value.ref (ad (17 + 2 * ov)) :: []))
      refine lv_astore (lv' := [(4, .ref (ad (17 + 2 * ov))), (3, .ref (ad (17 + 2 * rv))), (0, .ref (ad 0)), (1, .int (nI rv)), (2, .int (nI ov))]) hx hb dX5_join_11 hl (by decide) rfl (fun ls hl => ?_)
      refine lv_aload_n hx hb dX5_join_13 rfl (lv_at hl 1 rfl) ?_
      refine lv_ifnull hx hb dX5_join_14 ?_
      refine lv_aload hx hb dX5_join_17 (lv_at hl 0 rfl) ?_
      refine lv_ifnonnull (tgt := 25) hx hb dX5_join_19 (by decide) ?_
      refine lv_iload_n hx hb dX5_join_25 rfl (lv_at hl 3 rfl) ?_
      refine lv_iload_n hx hb dX5_join_26 rfl (lv_at hl 4 rfl) ?_
      refine ni_cne hx hb 35 dX5_join_27 (by decide) (by omega) (by omega) (fun c27 => ?_) (fun c27 => ?_)
      · refine lv_aload_n hx hb dX5_join_35 rfl (lv_at hl 1 rfl) ?_
        refine lv_aload hx hb dX5_join_36 (lv_at hl 0 rfl) ?_
        obtain ⟨x38, yrw38, -⟩ := id (hC.2.2.1 rv (by omega))
        refine rc_Vi (rest := []) C0 FX hH (17 + 2 * rv) (by omega) yrw38 rfl (k_X3_addRow l X ad hi _ (17 + 2 * rv) (by omega) (C.2.1 rv) (C.2.2.1 rv) (hC.2.2.1 rv (by omega)) (17 + 2 * ov) (by omega) (C.2.1 ov) (C.2.2.1 ov) (hC.2.2.1 ov (by omega)) (by omega) (by omega) (by omega)) (cwV 1 C0.2.2.2.2 gX5_join_X3_addRow rfl rfl rfl (by decide +kernel) ⟨Nat.le_of_ble_eq_true rfl, Nat.le_of_ble_eq_true rfl⟩) rfl rfl hl.1 (Nat.le_of_ble_eq_true rfl) dX5_join_38 ⟨Nat.le_of_ble_eq_true rfl, Nat.le_of_ble_eq_true rfl⟩ (fun r38 g38c H locs h38 hH => ?_)
        refine RET _ _ _ _ _ _ dX5_join_41 rfl ?_ hH
        unfold cs_join
        rw [if_pos ⟨(rng_iff (by omega)).mpr (by omega), (rng_iff (by omega)).mpr (by omega)⟩, tN_nI (by omega), tN_nI (by omega), if_neg c27]
        exact cs_row (f := sp_join (C.2.1 ov) (C.2.2.1 ov)) hC rv2 h38
      · refine lv_bipush (v := (-3)) hx hb dX5_join_30 (by decide) ?_
        refine lv_goto (tgt := 41) hx hb dX5_join_32 (by decide) ?_
        refine RET _ _ _ _ _ _ dX5_join_41 rfl ?_ hH
        unfold cs_join
        rw [if_pos ⟨(rng_iff (by omega)).mpr (by omega), (rng_iff (by omega)).mpr (by omega)⟩, tN_nI (by omega), tN_nI (by omega), if_pos c27]
        exact ⟨rfl, hC, fun _ _ => rfl⟩
    · rw [if_neg cr8]
      show W _ _ _ _ _ _ _ _ _ _ _ _ _ _ _ (F0 m 11 ls (Value.null :: []))
      refine lv_astoreN (lv' := [(4, .null), (3, .ref (ad (17 + 2 * rv))), (0, .ref (ad 0)), (1, .int (nI rv)), (2, .int p1)]) hx hb dX5_join_11 hl (by decide) rfl (fun ls hl => ?_)
      refine lv_aload_n hx hb dX5_join_13 rfl (lv_at hl 1 rfl) ?_
      refine lv_ifnull hx hb dX5_join_14 ?_
      refine lv_aloadN hx hb dX5_join_17 (lv_at hl 0 rfl) ?_
      refine lv_ifnonnullN hx hb dX5_join_19 ?_
      refine lv_bipush (v := (-2)) hx hb dX5_join_22 (by decide) ?_
      refine RET _ _ _ _ _ _ dX5_join_24 rfl ?_ hH
      unfold cs_join
      rw [if_neg (fun z => by first | exact absurd z.1 (by assumption) | exact absurd z.2 (by assumption))]
      exact ⟨rfl, hC, fun _ _ => rfl⟩
  · rw [if_neg cr2]
    show W _ _ _ _ _ _ _ _ _ _ _ _ _ _ _ (F0 m 5 ls (Value.null :: []))
    refine lv_astore_nN (lv' := [(3, .null), (0, .ref (ad 0)), (1, .int p0), (2, .int p1)]) hx hb dX5_join_5 rfl hl (by decide) rfl (fun ls hl => ?_)
    refine lv_aload_n hx hb dX5_join_6 rfl (lv_at hl 1 rfl) ?_
    refine lv_iload_n hx hb dX5_join_7 rfl (lv_at hl 3 rfl) ?_
    refine rc_Vq (rest := []) C0 FX hH 0 (by decide) f0 rfl (k_X5_rowOrNull l X ad hi _ C hC p1) (cwV 1 C0.2.2.2.2 gX5_join_X5_rowOrNull rfl rfl rfl (by decide +kernel) ⟨Nat.le_of_ble_eq_true rfl, Nat.le_of_ble_eq_true rfl⟩) rfl rfl hl.1 (Nat.le_of_ble_eq_true rfl) dX5_join_8 ⟨Nat.le_of_ble_eq_true rfl, Nat.le_of_ble_eq_true rfl⟩ (fun r8 g8c H locs h8 hH => ?_)
    obtain ⟨e8, rfl⟩ := h8
    rw [e8] at hH
    by_cases cr8 : rng p1 0 7
    · rw [if_pos cr8]
      obtain ⟨ov, rfl, ov1, ov2, ov3⟩ := rng_nI cr8
      rw [tN_nI (by omega)]
      have hl : lv_has ls 5 [(3, .null), (0, .ref (ad 0)), (1, .int p0), (2, .int (nI ov))] := hl
      show W _ _ _ _ _ _ _ _ _ _ _ _ _ _ _ (F0 m 11 ls (Value.ref (ad (17 + 2 * ov)) :: []))
      refine lv_astore (lv' := [(4, .ref (ad (17 + 2 * ov))), (3, .null), (0, .ref (ad 0)), (1, .int p0), (2, .int (nI ov))]) hx hb dX5_join_11 hl (by decide) rfl (fun ls hl => ?_)
      refine lv_aload_nN hx hb dX5_join_13 rfl (lv_at hl 1 rfl) ?_
      refine lv_ifnullN (tgt := 22) hx hb dX5_join_14 (by decide) ?_
      refine lv_bipush (v := (-2)) hx hb dX5_join_22 (by decide) ?_
      refine RET _ _ _ _ _ _ dX5_join_24 rfl ?_ hH
      unfold cs_join
      rw [if_neg (fun z => by first | exact absurd z.1 (by assumption) | exact absurd z.2 (by assumption))]
      exact ⟨rfl, hC, fun _ _ => rfl⟩
    · rw [if_neg cr8]
      show W _ _ _ _ _ _ _ _ _ _ _ _ _ _ _ (F0 m 11 ls (Value.null :: []))
      refine lv_astoreN (lv' := [(4, .null), (3, .null), (0, .ref (ad 0)), (1, .int p0), (2, .int p1)]) hx hb dX5_join_11 hl (by decide) rfl (fun ls hl => ?_)
      refine lv_aload_nN hx hb dX5_join_13 rfl (lv_at hl 1 rfl) ?_
      refine lv_ifnullN (tgt := 22) hx hb dX5_join_14 (by decide) ?_
      refine lv_bipush (v := (-2)) hx hb dX5_join_22 (by decide) ?_
      refine RET _ _ _ _ _ _ dX5_join_24 rfl ?_ hH
      unfold cs_join
      rw [if_neg (fun z => by first | exact absurd z.1 (by assumption) | exact absurd z.2 (by assumption))]
      exact ⟨rfl, hC, fun _ _ => rfl⟩
