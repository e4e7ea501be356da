set_option maxHeartbeats 4000000 in
set_option maxRecDepth 100000 in
theorem k_X5_count (l : Launch) (X : Cx) (ad : Nat → Nat) (hi : inj 48 ad) (g : PF) (C : ClS) (hC : rCls X ad C g) (p0 p1 : Int32) : Ki l yX5_count wsX5_count zr7 X 48 ad g [.ref (ad 0), .int p0, .int p1] (fun r g' => r = (lineOp (sp_count p0 p1) C).1 ∧ rCls X ad (lineOp (sp_count p0 p1) C).2 g' ∧ frC g g') := by
  refine Ki.of (cc := cX5_count) (maxL := 3) hi (by decide) rfl (Nat.le_of_ble_eq_true rfl) ?_
  intro p e s m below meth c Q E RET ls hl
  obtain ⟨C0, FX, hH⟩ := E
  have hx := C0.1
  have hb := C0.2.1
  have kiX5 : ∀ w ∈ u_ws RX5 TX5 3, w ∈ wsX5_count := (by decide +kernel)
  have kf10 : Cond.fieldLink RX5 10 "YarnMill" "line" "LYarnMill$Line;" ∈ wsX5_count := (by decide +kernel)
  have hl : lv_has ls 3 [(0, .ref (ad 0)), (1, .int p0), (2, .int p1)] := hl
  obtain ⟨f0, fq, f16, hfq⟩ := id hC.1
  refine lv_aload_n hx hb dX5_count_0 rfl (lv_at hl 0 rfl) ?_
  refine rp_get C0 FX hH 0 (by decide) (ci := 5) (k := 0) f0 rfl kiX5 (by decide) kf10 rfl dX5_count_1 ?_
  refine lv_iload_n hx hb dX5_count_4 rfl (lv_at hl 1 rfl) ?_
  refine lv_iload_n hx hb dX5_count_5 rfl (lv_at hl 2 rfl) ?_
  obtain ⟨hm0, hr0, A0, B0, fm0, f1, -⟩ := id hC.2.1
  refine rc_Vi (rest := []) C0 FX hH 1 (by decide) f1 rfl (k_X1_setFirst l X ad hi _ C.1.1 C.1.2.1 C.1.2.2.1 C.1.2.2.2.1 C.1.2.2.2.2 hC.2.1 p0 p1) (cwV 2 C0.2.2.2.2 gX5_count_X1_setFirst rfl rfl rfl (by decide +kernel) ⟨Nat.le_of_ble_eq_true rfl, Nat.le_of_ble_eq_true rfl⟩) rfl rfl hl.1 (Nat.le_of_ble_eq_true rfl) dX5_count_6 ⟨Nat.le_of_ble_eq_true rfl, Nat.le_of_ble_eq_true rfl⟩ (fun r6 g6c H locs h6 hH => ?_)
  refine RET _ _ _ _ _ _ dX5_count_9 rfl ?_ hH
  exact ⟨h6.1, cls_line hC h6.2.1 h6.2.2⟩
set_option maxHeartbeats 4000000 in
set_option maxRecDepth 100000 in
theorem k_X5_machine (l : Launch) (X : Cx) (ad : Nat → Nat) (hi : inj 48 ad) (g : PF) (C : ClS) (hC : rCls X ad C g) (p0 p1 p2 p3 : Int32) : Ki l yX5_machine wsX5_machine zr7 X 48 ad g [.ref (ad 0), .int p0, .int p1, .int p2, .int p3] (fun r g' => r = (lineOp (sp_machine p0 p1 p2 p3) C).1 ∧ rCls X ad (lineOp (sp_machine p0 p1 p2 p3) C).2 g' ∧ frC g g') := by
  refine Ki.of (cc := cX5_machine) (maxL := 5) hi (by decide) rfl (Nat.le_of_ble_eq_true rfl) ?_
  intro p e s m below meth c Q E RET ls hl
  obtain ⟨C0, FX, hH⟩ := E
  have hx := C0.1
  have hb := C0.2.1
  have kiX5 : ∀ w ∈ u_ws RX5 TX5 3, w ∈ wsX5_machine := (by decide +kernel)
  have kf10 : Cond.fieldLink RX5 10 "YarnMill" "line" "LYarnMill$Line;" ∈ wsX5_machine := (by decide +kernel)
  have hl : lv_has ls 5 [(0, .ref (ad 0)), (1, .int p0), (2, .int p1), (3, .int p2), (4, .int p3)] := hl
  obtain ⟨f0, fq, f16, hfq⟩ := id hC.1
  refine lv_aload_n hx hb dX5_machine_0 rfl (lv_at hl 0 rfl) ?_
  refine rp_get C0 FX hH 0 (by decide) (ci := 5) (k := 0) f0 rfl kiX5 (by decide) kf10 rfl dX5_machine_1 ?_
  refine lv_iload_n hx hb dX5_machine_4 rfl (lv_at hl 1 rfl) ?_
  refine lv_iload_n hx hb dX5_machine_5 rfl (lv_at hl 2 rfl) ?_
  refine lv_iload_n hx hb dX5_machine_6 rfl (lv_at hl 3 rfl) ?_
  refine lv_iload hx hb dX5_machine_7 (lv_at hl 4 rfl) ?_
  obtain ⟨hm0, hr0, A0, B0, fm0, f1, -⟩ := id hC.2.1
  refine rc_Vi (rest := []) C0 FX hH 1 (by decide) f1 rfl (k_X1_addMachine l X ad hi _ C.1.1 C.1.2.1 C.1.2.2.1 C.1.2.2.2.1 C.1.2.2.2.2 hC.2.1 p0 p1 p2 p3) (cwV 4 C0.2.2.2.2 gX5_machine_X1_addMachine rfl rfl rfl (by decide +kernel) ⟨Nat.le_of_ble_eq_true rfl, Nat.le_of_ble_eq_true rfl⟩) rfl rfl hl.1 (Nat.le_of_ble_eq_true rfl) dX5_machine_9 ⟨Nat.le_of_ble_eq_true rfl, Nat.le_of_ble_eq_true rfl⟩ (fun r9 g9c H locs h9 hH => ?_)
  refine RET _ _ _ _ _ _ dX5_machine_12 rfl ?_ hH
  exact ⟨h9.1, cls_line hC h9.2.1 h9.2.2⟩
set_option maxHeartbeats 4000000 in
set_option maxRecDepth 100000 in
theorem k_X5_roller (l : Launch) (X : Cx) (ad : Nat → Nat) (hi : inj 48 ad) (g : PF) (C : ClS) (hC : rCls X ad C g) (p0 p1 : Int32) : Ki l yX5_roller wsX5_roller zr7 X 48 ad g [.ref (ad 0), .int p0, .int p1] (fun r g' => r = (lineOp (sp_roller p0 p1) C).1 ∧ rCls X ad (lineOp (sp_roller p0 p1) C).2 g' ∧ frC g g') := by
  refine Ki.of (cc := cX5_roller) (maxL := 3) hi (by decide) rfl (Nat.le_of_ble_eq_true rfl) ?_
  intro p e s m below meth c Q E RET ls hl
  obtain ⟨C0, FX, hH⟩ := E
  have hx := C0.1
  have hb := C0.2.1
  have kiX5 : ∀ w ∈ u_ws RX5 TX5 3, w ∈ wsX5_roller := (by decide +kernel)
  have kf10 : Cond.fieldLink RX5 10 "YarnMill" "line" "LYarnMill$Line;" ∈ wsX5_roller := (by decide +kernel)
  have hl : lv_has ls 3 [(0, .ref (ad 0)), (1, .int p0), (2, .int p1)] := hl
  obtain ⟨f0, fq, f16, hfq⟩ := id hC.1
  refine lv_aload_n hx hb dX5_roller_0 rfl (lv_at hl 0 rfl) ?_
  refine rp_get C0 FX hH 0 (by decide) (ci := 5) (k := 0) f0 rfl kiX5 (by decide) kf10 rfl dX5_roller_1 ?_
  refine lv_iload_n hx hb dX5_roller_4 rfl (lv_at hl 1 rfl) ?_
  refine lv_iload_n hx hb dX5_roller_5 rfl (lv_at hl 2 rfl) ?_
  obtain ⟨hm0, hr0, A0, B0, fm0, f1, -⟩ := id hC.2.1
  refine rc_Vi (rest := []) C0 FX hH 1 (by decide) f1 rfl (k_X1_addRoller l X ad hi _ C.1.1 C.1.2.1 C.1.2.2.1 C.1.2.2.2.1 C.1.2.2.2.2 hC.2.1 p0 p1) (cwV 2 C0.2.2.2.2 gX5_roller_X1_addRoller rfl rfl rfl (by decide +kernel) ⟨Nat.le_of_ble_eq_true rfl, Nat.le_of_ble_eq_true rfl⟩) rfl rfl hl.1 (Nat.le_of_ble_eq_true rfl) dX5_roller_6 ⟨Nat.le_of_ble_eq_true rfl, Nat.le_of_ble_eq_true rfl⟩ (fun r6 g6c H locs h6 hH => ?_)
  refine RET _ _ _ _ _ _ dX5_roller_9 rfl ?_ hH
  exact ⟨h6.1, cls_line hC h6.2.1 h6.2.2⟩
set_option maxHeartbeats 4000000 in
set_option maxRecDepth 100000 in
theorem k_X5_clear (l : Launch) (X : Cx) (ad : Nat → Nat) (hi : inj 48 ad) (g : PF) (C : ClS) (hC : rCls X ad C g)  : Ki l yX5_clear wsX5_clear zr7 X 48 ad g [.ref (ad 0)] (fun r g' => r = (lineOp (sp_clear) C).1 ∧ rCls X ad (lineOp (sp_clear) C).2 g' ∧ frC g g') := by
  refine Ki.of (cc := cX5_clear) (maxL := 1) hi (by decide) rfl (Nat.le_of_ble_eq_true rfl) ?_
  intro p e s m below meth c Q E RET ls hl
  obtain ⟨C0, FX, hH⟩ := E
  have hx := C0.1
  have hb := C0.2.1
  have kiX5 : ∀ w ∈ u_ws RX5 TX5 3, w ∈ wsX5_clear := (by decide +kernel)
  have kf10 : Cond.fieldLink RX5 10 "YarnMill" "line" "LYarnMill$Line;" ∈ wsX5_clear := (by decide +kernel)
  have hl : lv_has ls 1 [(0, .ref (ad 0))] := hl
  obtain ⟨f0, fq, f16, hfq⟩ := id hC.1
  refine lv_aload_n hx hb dX5_clear_0 rfl (lv_at hl 0 rfl) ?_
  refine rp_get C0 FX hH 0 (by decide) (ci := 5) (k := 0) f0 rfl kiX5 (by decide) kf10 rfl dX5_clear_1 ?_
  obtain ⟨hm0, hr0, A0, B0, fm0, f1, -⟩ := id hC.2.1
  refine rc_Vi (rest := []) C0 FX hH 1 (by decide) f1 rfl (k_X1_removeAll l X ad hi _ C.1.1 C.1.2.1 C.1.2.2.1 C.1.2.2.2.1 C.1.2.2.2.2 hC.2.1 ) (cwV 0 C0.2.2.2.2 gX5_clear_X1_removeAll rfl rfl rfl (by decide +kernel) ⟨Nat.le_of_ble_eq_true rfl, Nat.le_of_ble_eq_true rfl⟩) rfl rfl hl.1 (Nat.le_of_ble_eq_true rfl) dX5_clear_4 ⟨Nat.le_of_ble_eq_true rfl, Nat.le_of_ble_eq_true rfl⟩ (fun r4 g4c H locs h4 hH => ?_)
  refine RET _ _ _ _ _ _ dX5_clear_7 rfl ?_ hH
  exact ⟨h4.1, cls_line hC h4.2.1 h4.2.2⟩
set_option maxHeartbeats 4000000 in
set_option maxRecDepth 100000 in
theorem k_X5_countAt (l : Launch) (X : Cx) (ad : Nat → Nat) (hi : inj 48 ad) (g : PF) (C : ClS) (hC : rCls X ad C g) (p0 p1 : Int32) : Kl l yX5_countAt wsX5_countAt zr7 X 48 ad g [.ref (ad 0), .int p0, .int p1] (fun r g' => r = sp_countAt p0 p1 C.1 ∧ rCls X ad C g' ∧ frC g g') := by
  refine Kl.of (cc := cX5_countAt) (maxL := 3) hi (by decide) rfl (Nat.le_of_ble_eq_true rfl) ?_
  intro p e s m below meth c Q E RET ls hl
  obtain ⟨C0, FX, hH⟩ := E
  have hx := C0.1
  have hb := C0.2.1
  have kiX5 : ∀ w ∈ u_ws RX5 TX5 3, w ∈ wsX5_countAt := (by decide +kernel)
  have kf10 : Cond.fieldLink RX5 10 "YarnMill" "line" "LYarnMill$Line;" ∈ wsX5_countAt := (by decide +kernel)
  have hl : lv_has ls 3 [(0, .ref (ad 0)), (1, .int p0), (2, .int p1)] := hl
  obtain ⟨f0, fq, f16, hfq⟩ := id hC.1
  refine lv_aload_n hx hb dX5_countAt_0 rfl (lv_at hl 0 rfl) ?_
  refine rp_get C0 FX hH 0 (by decide) (ci := 5) (k := 0) f0 rfl kiX5 (by decide) kf10 rfl dX5_countAt_1 ?_
  refine lv_iload_n hx hb dX5_countAt_4 rfl (lv_at hl 1 rfl) ?_
  refine lv_iload_n hx hb dX5_countAt_5 rfl (lv_at hl 2 rfl) ?_
  obtain ⟨hm0, hr0, A0, B0, fm0, f1, -⟩ := id hC.2.1
  refine rc_Vl (rest := []) C0 FX hH 1 (by decide) f1 rfl (k_X1_tellCount l X ad hi _ C.1.1 C.1.2.1 C.1.2.2.1 C.1.2.2.2.1 C.1.2.2.2.2 hC.2.1 p0 p1) (cwV 2 C0.2.2.2.2 gX5_countAt_X1_tellCount rfl rfl rfl (by decide +kernel) ⟨Nat.le_of_ble_eq_true rfl, Nat.le_of_ble_eq_true rfl⟩) rfl rfl hl.1 (Nat.le_of_ble_eq_true rfl) dX5_countAt_6 ⟨Nat.le_of_ble_eq_true rfl, Nat.le_of_ble_eq_true rfl⟩ (fun r6 g6c H locs h6 hH => ?_)
  refine RET _ _ _ _ _ _ dX5_countAt_9 ?_ hH
  exact ⟨h6.1, cls_line hC h6.2.1 h6.2.2⟩
set_option maxHeartbeats 4000000 in
set_option maxRecDepth 100000 in
theorem k_X5_period (l : Launch) (X : Cx) (ad : Nat → Nat) (hi : inj 48 ad) (g : PF) (C : ClS) (hC : rCls X ad C g) (p0 p1 p2 : Int32) : Kl l yX5_period wsX5_period zr7 X 48 ad g [.ref (ad 0), .int p0, .int p1, .int p2] (fun r g' => r = sp_period p0 p1 p2 C.1 ∧ rCls X ad C g' ∧ frC g g') := by
  refine Kl.of (cc := cX5_period) (maxL := 4) hi (by decide) rfl (Nat.le_of_ble_eq_true rfl) ?_
  intro p e s m below meth c Q E RET ls hl
  obtain ⟨C0, FX, hH⟩ := E
  have hx := C0.1
  have hb := C0.2.1
  have kiX5 : ∀ w ∈ u_ws RX5 TX5 3, w ∈ wsX5_period := (by decide +kernel)
  have kf10 : Cond.fieldLink RX5 10 "YarnMill" "line" "LYarnMill$Line;" ∈ wsX5_period := (by decide +kernel)
  have hl : lv_has ls 4 [(0, .ref (ad 0)), (1, .int p0), (2, .int p1), (3, .int p2)] := hl
  obtain ⟨f0, fq, f16, hfq⟩ := id hC.1
  refine lv_aload_n hx hb dX5_period_0 rfl (lv_at hl 0 rfl) ?_
  refine rp_get C0 FX hH 0 (by decide) (ci := 5) (k := 0) f0 rfl kiX5 (by decide) kf10 rfl dX5_period_1 ?_
  refine lv_iload_n hx hb dX5_period_4 rfl (lv_at hl 1 rfl) ?_
  refine lv_iload_n hx hb dX5_period_5 rfl (lv_at hl 2 rfl) ?_
  refine lv_iload_n hx hb dX5_period_6 rfl (lv_at hl 3 rfl) ?_
  obtain ⟨hm0, hr0, A0, B0, fm0, f1, -⟩ := id hC.2.1
  refine rc_Vl (rest := []) C0 FX hH 1 (by decide) f1 rfl (k_X1_tellPeriod l X ad hi _ C.1.1 C.1.2.1 C.1.2.2.1 C.1.2.2.2.1 C.1.2.2.2.2 hC.2.1 p0 p1 p2) (cwV 3 C0.2.2.2.2 gX5_period_X1_tellPeriod rfl rfl rfl (by decide +kernel) ⟨Nat.le_of_ble_eq_true rfl, Nat.le_of_ble_eq_true rfl⟩) rfl rfl hl.1 (Nat.le_of_ble_eq_true rfl) dX5_period_7 ⟨Nat.le_of_ble_eq_true rfl, Nat.le_of_ble_eq_true rfl⟩ (fun r7 g7c H locs h7 hH => ?_)
  refine RET _ _ _ _ _ _ dX5_period_10 ?_ hH
  exact ⟨h7.1, cls_line hC h7.2.1 h7.2.2⟩
set_option maxHeartbeats 4000000 in
set_option maxRecDepth 100000 in
theorem k_X5_names (l : Launch) (X : Cx) (ad : Nat → Nat) (hi : inj 48 ad) (g : PF) (C : ClS) (hC : rCls X ad C g) (p0 p1 p2 : Int32) : Ki l yX5_names wsX5_names zr7 X 48 ad g [.ref (ad 0), .int p0, .int p1, .int p2] (fun r g' => r = sp_names p0 p1 p2 C.1 ∧ rCls X ad C g' ∧ frC g g') := by
  refine Ki.of (cc := cX5_names) (maxL := 4) hi (by decide) rfl (Nat.le_of_ble_eq_true rfl) ?_
  intro p e s m below meth c Q E RET ls hl
  obtain ⟨C0, FX, hH⟩ := E
  have hx := C0.1
  have hb := C0.2.1
  have kiX5 : ∀ w ∈ u_ws RX5 TX5 3, w ∈ wsX5_names := (by decide +kernel)
  have kf10 : Cond.fieldLink RX5 10 "YarnMill" "line" "LYarnMill$Line;" ∈ wsX5_names := (by decide +kernel)
  have hl : lv_has ls 4 [(0, .ref (ad 0)), (1, .int p0), (2, .int p1), (3, .int p2)] := hl
  obtain ⟨f0, fq, f16, hfq⟩ := id hC.1
  refine lv_aload_n hx hb dX5_names_0 rfl (lv_at hl 0 rfl) ?_
  refine rp_get C0 FX hH 0 (by decide) (ci := 5) (k := 0) f0 rfl kiX5 (by decide) kf10 rfl dX5_names_1 ?_
  refine lv_iload_n hx hb dX5_names_4 rfl (lv_at hl 1 rfl) ?_
  refine lv_iload_n hx hb dX5_names_5 rfl (lv_at hl 2 rfl) ?_
  refine lv_iload_n hx hb dX5_names_6 rfl (lv_at hl 3 rfl) ?_
  obtain ⟨hm0, hr0, A0, B0, fm0, f1, -⟩ := id hC.2.1
  refine rc_Vi (rest := []) C0 FX hH 1 (by decide) f1 rfl (k_X1_findNear l X ad hi _ C.1.1 C.1.2.1 C.1.2.2.1 C.1.2.2.2.1 C.1.2.2.2.2 hC.2.1 p0 p1 p2) (cwV 3 C0.2.2.2.2 gX5_names_X1_findNear rfl rfl rfl (by decide +kernel) ⟨Nat.le_of_ble_eq_true rfl, Nat.le_of_ble_eq_true rfl⟩) rfl rfl hl.1 (Nat.le_of_ble_eq_true rfl) dX5_names_7 ⟨Nat.le_of_ble_eq_true rfl, Nat.le_of_ble_eq_true rfl⟩ (fun r7 g7c H locs h7 hH => ?_)
  refine RET _ _ _ _ _ _ dX5_names_10 rfl ?_ hH
  exact ⟨h7.1, cls_line hC h7.2.1 h7.2.2⟩
set_option maxHeartbeats 4000000 in
set_option maxRecDepth 100000 in
theorem k_X5_bale (l : Launch) (X : Cx) (ad : Nat → Nat) (hi : inj 48 ad) (g : PF) (C : ClS) (hC : rCls X ad C g) (p0 : Int32) : Ki l yX5_bale wsX5_bale zr9 X 48 ad g [.ref (ad 0), .int p0] (fun r g' => r = (storeOp (sp_bale p0) C).1 ∧ rCls X ad (storeOp (sp_bale p0) C).2 g' ∧ frC g g') := by
  refine Ki.of (cc := cX5_bale) (maxL := 2) hi (by decide) rfl (Nat.le_of_ble_eq_true rfl) ?_
  intro p e s m below meth c Q E RET ls hl
  obtain ⟨C0, FX, hH⟩ := E
  have hx := C0.1
  have hb := C0.2.1
  have kiX5 : ∀ w ∈ u_ws RX5 TX5 3, w ∈ wsX5_bale := (by decide +kernel)
  have kf26 : Cond.fieldLink RX5 26 "YarnMill" "store" "LYarnMill$Store;" ∈ wsX5_bale := (by decide +kernel)
  have hl : lv_has ls 2 [(0, .ref (ad 0)), (1, .int p0)] := hl
  obtain ⟨f0, fq, f16, hfq⟩ := id hC.1
  refine lv_aload_n hx hb dX5_bale_0 rfl (lv_at hl 0 rfl) ?_
  refine rp_get C0 FX hH 0 (by decide) (ci := 5) (k := 2) f0 rfl kiX5 (by decide) kf26 rfl dX5_bale_1 ?_
  refine lv_iload_n hx hb dX5_bale_4 rfl (lv_at hl 1 rfl) ?_
  obtain ⟨ec0, lsu0, msu0, spn0, hn0, ho0, f33, -⟩ := id hC.2.2.2
  refine rc_Vi (rest := []) C0 FX hH 33 (by decide) f33 rfl (k_X4_addBale l X ad hi _ C.2.2.2.1 C.2.2.2.2.1 C.2.2.2.2.2.1 C.2.2.2.2.2.2.1 C.2.2.2.2.2.2.2.1 C.2.2.2.2.2.2.2.2 hC.2.2.2 p0) (cwV 1 C0.2.2.2.2 gX5_bale_X4_addBale rfl rfl rfl (by decide +kernel) ⟨Nat.le_of_ble_eq_true rfl, Nat.le_of_ble_eq_true rfl⟩) rfl rfl hl.1 (Nat.le_of_ble_eq_true rfl) dX5_bale_5 ⟨Nat.le_of_ble_eq_true rfl, Nat.le_of_ble_eq_true rfl⟩ (fun r5 g5c H locs h5 hH => ?_)
  refine RET _ _ _ _ _ _ dX5_bale_8 rfl ?_ hH
  exact ⟨h5.1, cls_store hC h5.2.1 h5.2.2⟩
set_option maxHeartbeats 4000000 in
set_option maxRecDepth 100000 in
theorem k_X5_clearBales (l : Launch) (X : Cx) (ad : Nat → Nat) (hi : inj 48 ad) (g : PF) (C : ClS) (hC : rCls X ad C g)  : Ki l yX5_clearBales wsX5_clearBales zr9 X 48 ad g [.ref (ad 0)] (fun r g' => r = (storeOp (sp_clearBales) C).1 ∧ rCls X ad (storeOp (sp_clearBales) C).2 g' ∧ frC g g') := by
  refine Ki.of (cc := cX5_clearBales) (maxL := 1) hi (by decide) rfl (Nat.le_of_ble_eq_true rfl) ?_
  intro p e s m below meth c Q E RET ls hl
  obtain ⟨C0, FX, hH⟩ := E
  have hx := C0.1
  have hb := C0.2.1
  have kiX5 : ∀ w ∈ u_ws RX5 TX5 3, w ∈ wsX5_clearBales := (by decide +kernel)
  have kf26 : Cond.fieldLink RX5 26 "YarnMill" "store" "LYarnMill$Store;" ∈ wsX5_clearBales := (by decide +kernel)
  have hl : lv_has ls 1 [(0, .ref (ad 0))] := hl
  obtain ⟨f0, fq, f16, hfq⟩ := id hC.1
  refine lv_aload_n hx hb dX5_clearBales_0 rfl (lv_at hl 0 rfl) ?_
  refine rp_get C0 FX hH 0 (by decide) (ci := 5) (k := 2) f0 rfl kiX5 (by decide) kf26 rfl dX5_clearBales_1 ?_
  obtain ⟨ec0, lsu0, msu0, spn0, hn0, ho0, f33, -⟩ := id hC.2.2.2
  refine rc_Vi (rest := []) C0 FX hH 33 (by decide) f33 rfl (k_X4_removeAll l X ad hi _ C.2.2.2.1 C.2.2.2.2.1 C.2.2.2.2.2.1 C.2.2.2.2.2.2.1 C.2.2.2.2.2.2.2.1 C.2.2.2.2.2.2.2.2 hC.2.2.2 ) (cwV 0 C0.2.2.2.2 gX5_clearBales_X4_removeAll rfl rfl rfl (by decide +kernel) ⟨Nat.le_of_ble_eq_true rfl, Nat.le_of_ble_eq_true rfl⟩) rfl rfl hl.1 (Nat.le_of_ble_eq_true rfl) dX5_clearBales_4 ⟨Nat.le_of_ble_eq_true rfl, Nat.le_of_ble_eq_true rfl⟩ (fun r4 g4c H locs h4 hH => ?_)
  refine RET _ _ _ _ _ _ dX5_clearBales_7 rfl ?_ hH
  exact ⟨h4.1, cls_store hC h4.2.1 h4.2.2⟩
set_option maxHeartbeats 4000000 in
set_option maxRecDepth 100000 in
theorem k_X5_plan (l : Launch) (X : Cx) (ad : Nat → Nat) (hi : inj 48 ad) (g : PF) (C : ClS) (hC : rCls X ad C g) (p0 p1 p2 : Int32) : Ki l yX5_plan wsX5_plan zr9 X 48 ad g [.ref (ad 0), .int p0, .int p1, .int p2] (fun r g' => r = (storeOp (sp_plan p0 p1 p2) C).1 ∧ rCls X ad (storeOp (sp_plan p0 p1 p2) C).2 g' ∧ frC g g') := by
  refine Ki.of (cc := cX5_plan) (maxL := 4) hi (by decide) rfl (Nat.le_of_ble_eq_true rfl) ?_
  intro p e s m below meth c Q E RET ls hl
  obtain ⟨C0, FX, hH⟩ := E
  have hx := C0.1
  have hb := C0.2.1
  have kiX5 : ∀ w ∈ u_ws RX5 TX5 3, w ∈ wsX5_plan := (by decide +kernel)
  have kf26 : Cond.fieldLink RX5 26 "YarnMill" "store" "LYarnMill$Store;" ∈ wsX5_plan := (by decide +kernel)
  have hl : lv_has ls 4 [(0, .ref (ad 0)), (1, .int p0), (2, .int p1), (3, .int p2)] := hl
  obtain ⟨f0, fq, f16, hfq⟩ := id hC.1
  refine lv_aload_n hx hb dX5_plan_0 rfl (lv_at hl 0 rfl) ?_
  refine rp_get C0 FX hH 0 (by decide) (ci := 5) (k := 2) f0 rfl kiX5 (by decide) kf26 rfl dX5_plan_1 ?_
  refine lv_iload_n hx hb dX5_plan_4 rfl (lv_at hl 1 rfl) ?_
  refine lv_iload_n hx hb dX5_plan_5 rfl (lv_at hl 2 rfl) ?_
  refine lv_iload_n hx hb dX5_plan_6 rfl (lv_at hl 3 rfl) ?_
  obtain ⟨ec0, lsu0, msu0, spn0, hn0, ho0, f33, -⟩ := id hC.2.2.2
  refine rc_Vi (rest := []) C0 FX hH 33 (by decide) f33 rfl (k_X4_makePlan l X ad hi _ C.2.2.2.1 C.2.2.2.2.1 C.2.2.2.2.2.1 C.2.2.2.2.2.2.1 C.2.2.2.2.2.2.2.1 C.2.2.2.2.2.2.2.2 hC.2.2.2 p0 p1 p2) (cwV 3 C0.2.2.2.2 gX5_plan_X4_makePlan rfl rfl rfl (by decide +kernel) ⟨Nat.le_of_ble_eq_true rfl, Nat.le_of_ble_eq_true rfl⟩) rfl rfl hl.1 (Nat.le_of_ble_eq_true rfl) dX5_plan_7 ⟨Nat.le_of_ble_eq_true rfl, Nat.le_of_ble_eq_true rfl⟩ (fun r7 g7c H locs h7 hH => ?_)
  refine RET _ _ _ _ _ _ dX5_plan_10 rfl ?_ hH
  exact ⟨h7.1, cls_store hC h7.2.1 h7.2.2⟩
set_option maxHeartbeats 4000000 in
set_option maxRecDepth 100000 in
theorem k_X5_planAt (l : Launch) (X : Cx) (ad : Nat → Nat) (hi : inj 48 ad) (g : PF) (C : ClS) (hC : rCls X ad C g) (p0 p1 : Int32) : Ki l yX5_planAt wsX5_planAt zr7 X 48 ad g [.ref (ad 0), .int p0, .int p1] (fun r g' => g' = g ∧ r = sp_planAt p0 p1 C.2.2.2) := by
  refine Ki.of (cc := cX5_planAt) (maxL := 3) hi (by decide) rfl (Nat.le_of_ble_eq_true rfl) ?_
  intro p e s m below meth c Q E RET ls hl
  obtain ⟨C0, FX, hH⟩ := E
  have hx := C0.1
  have hb := C0.2.1
  have kiX5 : ∀ w ∈ u_ws RX5 TX5 3, w ∈ wsX5_planAt := (by decide +kernel)
  have kf26 : Cond.fieldLink RX5 26 "YarnMill" "store" "LYarnMill$Store;" ∈ wsX5_planAt := (by decide +kernel)
  have hl : lv_has ls 3 [(0, .ref (ad 0)), (1, .int p0), (2, .int p1)] := hl
  obtain ⟨f0, fq, f16, hfq⟩ := id hC.1
  refine lv_aload_n hx hb dX5_planAt_0 rfl (lv_at hl 0 rfl) ?_
  refine rp_get C0 FX hH 0 (by decide) (ci := 5) (k := 2) f0 rfl kiX5 (by decide) kf26 rfl dX5_planAt_1 ?_
  refine lv_iload_n hx hb dX5_planAt_4 rfl (lv_at hl 1 rfl) ?_
  refine lv_iload_n hx hb dX5_planAt_5 rfl (lv_at hl 2 rfl) ?_
  obtain ⟨ec0, lsu0, msu0, spn0, hn0, ho0, f33, -⟩ := id hC.2.2.2
  refine rc_Vi (rest := []) C0 FX hH 33 (by decide) f33 rfl (k_X4_planned l X ad hi _ C.2.2.2.1 C.2.2.2.2.1 C.2.2.2.2.2.1 C.2.2.2.2.2.2.1 C.2.2.2.2.2.2.2.1 C.2.2.2.2.2.2.2.2 hC.2.2.2 p0 p1) (cwV 2 C0.2.2.2.2 gX5_planAt_X4_planned rfl rfl rfl (by decide +kernel) ⟨Nat.le_of_ble_eq_true rfl, Nat.le_of_ble_eq_true rfl⟩) rfl rfl hl.1 (Nat.le_of_ble_eq_true rfl) dX5_planAt_6 ⟨Nat.le_of_ble_eq_true rfl, Nat.le_of_ble_eq_true rfl⟩ (fun r6 g6c H locs h6 hH => ?_)
  obtain ⟨e6, rfl⟩ := h6
  rw [e6] at hH
  refine RET _ _ _ _ _ _ dX5_planAt_9 rfl ?_ hH
  exact ⟨rfl, rfl⟩
set_option maxHeartbeats 4000000 in
set_option maxRecDepth 100000 in
theorem k_X5_tries (l : Launch) (X : Cx) (ad : Nat → Nat) (hi : inj 48 ad) (g : PF) (C : ClS) (hC : rCls X ad C g)  : Ki l yX5_tries wsX5_tries zr1 X 48 ad g [.ref (ad 0)] (fun r g' => g' = g ∧ r = nI C.2.2.2.2.2.2.2.2) := by
  refine Ki.of (cc := cX5_tries) (maxL := 1) hi (by decide) rfl (Nat.le_of_ble_eq_true rfl) ?_
  intro p e s m below meth c Q E RET ls hl
  obtain ⟨C0, FX, hH⟩ := E
  have hx := C0.1
  have hb := C0.2.1
  have kiX4 : ∀ w ∈ u_ws RX4 TX4 9, w ∈ wsX5_tries := (by decide +kernel)
  have kiX5 : ∀ w ∈ u_ws RX5 TX5 3, w ∈ wsX5_tries := (by decide +kernel)
  have kf113 : Cond.fieldLink RX5 113 "YarnMill$Store" "tried" "I" ∈ wsX5_tries := (by decide +kernel)
  have kf26 : Cond.fieldLink RX5 26 "YarnMill" "store" "LYarnMill$Store;" ∈ wsX5_tries := (by decide +kernel)
  have hl : lv_has ls 1 [(0, .ref (ad 0))] := hl
  obtain ⟨f0, fq, f16, hfq⟩ := id hC.1
  refine lv_aload_n hx hb dX5_tries_0 rfl (lv_at hl 0 rfl) ?_
  refine rp_get C0 FX hH 0 (by decide) (ci := 5) (k := 2) f0 rfl kiX5 (by decide) kf26 rfl dX5_tries_1 ?_
  obtain ⟨ec0, lsu0, msu0, spn0, hn0, ho0, f33, -⟩ := id hC.2.2.2
  refine rp_get C0 FX hH 33 (by decide) (ci := 4) (k := 2) f33 rfl kiX4 (by decide) kf113 rfl dX5_tries_4 ?_
  refine RET _ _ _ _ _ _ dX5_tries_7 rfl ?_ hH
  exact ⟨rfl, rfl⟩
set_option maxHeartbeats 4000000 in
set_option maxRecDepth 100000 in
theorem k_X5_countCells (l : Launch) (X : Cx) (ad : Nat → Nat) (hi : inj 48 ad) (g : PF) (C : ClS) (hC : rCls X ad C g)  : Ki l yX5_countCells wsX5_countCells zr1 X 48 ad g [.ref (ad 0)] (fun r g' => g' = g ∧ r = nI (sm C.2.1 8)) := by
  refine Ki.of (cc := cX5_countCells) (maxL := 3) hi (by decide) rfl (Nat.le_of_ble_eq_true rfl) ?_
  intro p e s m below meth c Q E RET ls hl
  obtain ⟨C0, FX, hH⟩ := E
  have hx := C0.1
  have hb := C0.2.1
  have kiX3 : ∀ w ∈ u_ws RX3 TX3 2, w ∈ wsX5_countCells := (by decide +kernel)
  have kiX5 : ∀ w ∈ u_ws RX5 TX5 3, w ∈ wsX5_countCells := (by decide +kernel)
  have kf142 : Cond.fieldLink RX5 142 "YarnMill$Row" "size" "I" ∈ wsX5_countCells := (by decide +kernel)
  have kf18 : Cond.fieldLink RX5 18 "YarnMill" "rows" "[LYarnMill$Row;" ∈ wsX5_countCells := (by decide +kernel)
  have hl : lv_has ls 3 [(0, .ref (ad 0))] := hl
  obtain ⟨f0, fq, f16, hfq⟩ := id hC.1
  refine lv_iconst (v := nI 0) hx hb dX5_countCells_0 (by decide) ?_
  refine lv_istore_n (lv' := [(1, .int (nI 0)), (0, .ref (ad 0))]) hx hb dX5_countCells_1 rfl hl (by decide) rfl (fun ls hl => ?_)
  refine lv_iconst (v := nI 0) hx hb dX5_countCells_2 (by decide) ?_
  refine lv_istore_n (lv' := [(2, .int (nI 0)), (1, .int (nI 0)), (0, .ref (ad 0))]) hx hb dX5_countCells_3 rfl hl (by decide) rfl (fun ls hl => ?_)
  have L4 : ∀ (fu : Nat) (S : Nat) (i : Nat) (ls : Array Slot), (i ≤ 8) → (S = sm C.2.1 i) → 8 - i < fu → lv_has ls 3 [(2, .int (nI i)), (1, .int (nI S)), (0, .ref (ad 0))] → W p l e zr1 s m ([.ref (ad 0)] : List Value).toArray below meth c s.heap [] 0 0 Q (F0 m 4 ls []) := by
    intro fu
    induction fu with
    | zero =>
      intro S i  ls i1 i2 hm
      exact absurd hm (Nat.not_lt_zero _)
    | succ fu ih =>
      have ih4 := ih; clear ih
      intro S i  ls i1 i2 hm4  hl
      refine lv_iload_n hx hb dX5_countCells_4 rfl (lv_at hl 0 rfl) ?_
      refine lv_bipush (v := nI 8) hx hb dX5_countCells_5 (by decide) ?_
      refine ni_cge hx hb 28 dX5_countCells_7 (by decide) (by omega) (by omega) (fun c7 => ?_) (fun c7 => ?_)
      · refine lv_iload_n hx hb dX5_countCells_28 rfl (lv_at hl 1 rfl) ?_
        refine RET _ _ _ _ _ _ dX5_countCells_29 rfl ?_ hH
        exact ⟨rfl, by rw [i2, show i = 8 by omega]⟩
      · refine lv_iload_n hx hb dX5_countCells_10 rfl (lv_at hl 1 rfl) ?_
        refine lv_aload_n hx hb dX5_countCells_11 rfl (lv_at hl 2 rfl) ?_
        refine rp_get C0 FX hH 0 (by decide) (ci := 5) (k := 1) f0 rfl kiX5 (by decide) kf18 rfl dX5_countCells_12 ?_
        refine lv_iload_n hx hb dX5_countCells_15 rfl (lv_at hl 0 rfl) ?_
        refine rp_aald C0 FX hH 16 2 (by decide) f16 rfl i (ad (17 + 2 * i)) (by omega) (by decide) (hfq _ (by omega)) dX5_countCells_16 ?_
        obtain ⟨x17, yrw17, -⟩ := id (hC.2.2.1 i (by omega))
        refine rp_get C0 FX hH (17 + 2 * i) (by omega) (ci := 3) (k := 0) yrw17 rfl kiX3 (by decide) kf142 rfl dX5_countCells_17 ?_
        refine ni_iadd hx hb dX5_countCells_20 ?_
        refine lv_istore_n (lv' := [(1, .int (nI (S + (C.2.1 i)))), (2, .int (nI i)), (0, .ref (ad 0))]) hx hb dX5_countCells_21 rfl hl (by decide) rfl (fun ls hl => ?_)
        refine lv_iinc (v := nI (i + 1)) (lv' := [(2, .int (nI (i + 1))), (1, .int (nI (S + (C.2.1 i)))), (0, .ref (ad 0))]) hx hb dX5_countCells_22 hl (k := 1) rfl (ni_inc1 _) (by decide) rfl (fun ls hl => ?_)
        refine lv_goto (tgt := 4) hx hb dX5_countCells_25 (by decide) ?_
        exact ih4 (S + (C.2.1 i)) (i + 1) ls (by omega) (by rw [i2]; rfl) (by omega) (lv_sub hl [0, 1, 2] rfl)
  exact L4 ((8 - 0) + 1) 0 0 ls (by omega) (by rfl) (Nat.lt_succ_self _) (lv_sub hl [0, 1, 2] rfl)
theorem tb_out4 {x : Int32} (h0 : ¬ x = nI 0) (h1 : ¬ x = nI 1) (h2 : ¬ x = nI 2) (h3 : ¬ x = nI 3) (h4 : ¬ x = nI 4) : x.toInt < 0 ∨ 4 < x.toInt := by
  rcases Int.lt_or_le x.toInt 0 with q | q
  · exact Or.inl q
  · obtain ⟨n, e, hn⟩ := nI_ofI q
    refine Or.inr ?_
    have a0 : n ≠ 0 := fun z => h0 (by rw [e, z])
    have a1 : n ≠ 1 := fun z => h1 (by rw [e, z])
    have a2 : n ≠ 2 := fun z => h2 (by rw [e, z])
    have a3 : n ≠ 3 := fun z => h3 (by rw [e, z])
    have a4 : n ≠ 4 := fun z => h4 (by rw [e, z])
    omega
set_option maxHeartbeats 4000000 in
set_option maxRecDepth 100000 in
theorem k_X5_many (l : Launch) (X : Cx) (ad : Nat → Nat) (hi : inj 48 ad) (g : PF) (C : ClS) (hC : rCls X ad C g) (p0 : Int32) : Ki l yX5_many wsX5_many zr7 X 48 ad g [.ref (ad 0), .int p0] (fun r g' => g' = g ∧ r = sp_many p0 C) := by
  refine Ki.of (cc := cX5_many) (maxL := 2) hi (by decide) rfl (Nat.le_of_ble_eq_true rfl) ?_
  intro p e s m below meth c Q E RET ls hl
  obtain ⟨C0, FX, hH⟩ := E
  have hx := C0.1
  have hb := C0.2.1
  have kiX1 : ∀ w ∈ u_ws RX1 TX1 5, w ∈ wsX5_many := (by decide +kernel)
  have kiX4 : ∀ w ∈ u_ws RX4 TX4 9, w ∈ wsX5_many := (by decide +kernel)
  have kiX5 : ∀ w ∈ u_ws RX5 TX5 3, w ∈ wsX5_many := (by decide +kernel)
  have kf10 : Cond.fieldLink RX5 10 "YarnMill" "line" "LYarnMill$Line;" ∈ wsX5_many := (by decide +kernel)
  have kf117 : Cond.fieldLink RX5 117 "YarnMill$Line" "size" "I" ∈ wsX5_many := (by decide +kernel)
  have kf123 : Cond.fieldLink RX5 123 "YarnMill$Store" "size" "I" ∈ wsX5_many := (by decide +kernel)
  have kf124 : Cond.fieldLink RX5 124 "YarnMill$Store" "laydowns" "I" ∈ wsX5_many := (by decide +kernel)
  have kf26 : Cond.fieldLink RX5 26 "YarnMill" "store" "LYarnMill$Store;" ∈ wsX5_many := (by decide +kernel)
  have hl : lv_has ls 2 [(0, .ref (ad 0)), (1, .int p0)] := hl
  obtain ⟨f0, fq, f16, hfq⟩ := id hC.1
  refine lv_iload_n hx hb dX5_many_0 rfl (lv_at hl 1 rfl) ?_
  by_cases t1_0 : p0 = nI 0
  · subst t1_0
    have hl : lv_has ls 2 [(0, .ref (ad 0)), (1, .int (nI 0))] := hl
    refine lv_tableIn (x := nI 0) (tgt := 36) hx hb dX5_many_1 (by decide) (by decide) rfl (by decide) ?_
    refine lv_aload_n hx hb dX5_many_36 rfl (lv_at hl 0 rfl) ?_
    refine rp_get C0 FX hH 0 (by decide) (ci := 5) (k := 0) f0 rfl kiX5 (by decide) kf10 rfl dX5_many_37 ?_
    obtain ⟨hm0, hr0, A0, B0, fm0, f1, -⟩ := id hC.2.1
    refine rp_get C0 FX hH 1 (by decide) (ci := 1) (k := 0) f1 rfl kiX1 (by decide) kf117 rfl dX5_many_40 ?_
    refine RET _ _ _ _ _ _ dX5_many_43 rfl ?_ hH
    refine ⟨rfl, ?_⟩
    unfold sp_many
    rw [if_pos (by decide)]
    rfl
  by_cases t1_1 : p0 = nI 1
  · subst t1_1
    have hl : lv_has ls 2 [(0, .ref (ad 0)), (1, .int (nI 1))] := hl
    refine lv_tableIn (x := nI 1) (tgt := 44) hx hb dX5_many_1 (by decide) (by decide) rfl (by decide) ?_
    refine lv_aload_n hx hb dX5_many_44 rfl (lv_at hl 0 rfl) ?_
    refine rp_get C0 FX hH 0 (by decide) (ci := 5) (k := 0) f0 rfl kiX5 (by decide) kf10 rfl dX5_many_45 ?_
    obtain ⟨hm0, hr0, A0, B0, fm0, f1, -⟩ := id hC.2.1
    refine rc_Vi (rest := []) C0 FX hH 1 (by decide) f1 rfl (k_X1_countRollers l X ad hi _ C.1.1 C.1.2.1 C.1.2.2.1 C.1.2.2.2.1 C.1.2.2.2.2 hC.2.1) (cwV 0 C0.2.2.2.2 gX5_many_X1_countRollers rfl rfl rfl (by decide +kernel) ⟨Nat.le_of_ble_eq_true rfl, Nat.le_of_ble_eq_true rfl⟩) rfl rfl hl.1 (Nat.le_of_ble_eq_true rfl) dX5_many_48 ⟨Nat.le_of_ble_eq_true rfl, Nat.le_of_ble_eq_true rfl⟩ (fun r48 g48c H locs h48 hH => ?_)
    obtain ⟨e48, rfl⟩ := h48
    rw [e48] at hH
    refine RET _ _ _ _ _ _ dX5_many_51 rfl ?_ hH
    refine ⟨rfl, ?_⟩
    unfold sp_many
    rw [if_pos (by decide)]
    rfl
  by_cases t1_2 : p0 = nI 2
  · subst t1_2
    have hl : lv_has ls 2 [(0, .ref (ad 0)), (1, .int (nI 2))] := hl
    refine lv_tableIn (x := nI 2) (tgt := 52) hx hb dX5_many_1 (by decide) (by decide) rfl (by decide) ?_
    refine lv_aload_n hx hb dX5_many_52 rfl (lv_at hl 0 rfl) ?_
    refine rp_get C0 FX hH 0 (by decide) (ci := 5) (k := 2) f0 rfl kiX5 (by decide) kf26 rfl dX5_many_53 ?_
    obtain ⟨ec0, lsu0, msu0, spn0, hn0, ho0, f33, -⟩ := id hC.2.2.2
    refine rp_get C0 FX hH 33 (by decide) (ci := 4) (k := 0) f33 rfl kiX4 (by decide) kf123 rfl dX5_many_56 ?_
    refine RET _ _ _ _ _ _ dX5_many_59 rfl ?_ hH
    refine ⟨rfl, ?_⟩
    unfold sp_many
    rw [if_pos (by decide)]
    rfl
  by_cases t1_3 : p0 = nI 3
  · subst t1_3
    have hl : lv_has ls 2 [(0, .ref (ad 0)), (1, .int (nI 3))] := hl
    refine lv_tableIn (x := nI 3) (tgt := 60) hx hb dX5_many_1 (by decide) (by decide) rfl (by decide) ?_
    refine lv_aload_n hx hb dX5_many_60 rfl (lv_at hl 0 rfl) ?_
    refine rp_get C0 FX hH 0 (by decide) (ci := 5) (k := 2) f0 rfl kiX5 (by decide) kf26 rfl dX5_many_61 ?_
    obtain ⟨ec0, lsu0, msu0, spn0, hn0, ho0, f33, -⟩ := id hC.2.2.2
    refine rp_get C0 FX hH 33 (by decide) (ci := 4) (k := 1) f33 rfl kiX4 (by decide) kf124 rfl dX5_many_64 ?_
    refine RET _ _ _ _ _ _ dX5_many_67 rfl ?_ hH
    refine ⟨rfl, ?_⟩
    unfold sp_many
    rw [if_pos (by decide)]
    rfl
  by_cases t1_4 : p0 = nI 4
  · subst t1_4
    have hl : lv_has ls 2 [(0, .ref (ad 0)), (1, .int (nI 4))] := hl
    refine lv_tableIn (x := nI 4) (tgt := 68) hx hb dX5_many_1 (by decide) (by decide) rfl (by decide) ?_
    refine lv_aload_n hx hb dX5_many_68 rfl (lv_at hl 0 rfl) ?_
    refine rc_Vi (rest := []) C0 FX hH 0 (by decide) f0 rfl (k_X5_countCells l X ad hi _ C hC) (cwV 0 C0.2.2.2.2 gX5_many_X5_countCells rfl rfl rfl (by decide +kernel) ⟨Nat.le_of_ble_eq_true rfl, Nat.le_of_ble_eq_true rfl⟩) rfl rfl hl.1 (Nat.le_of_ble_eq_true rfl) dX5_many_69 ⟨Nat.le_of_ble_eq_true rfl, Nat.le_of_ble_eq_true rfl⟩ (fun r69 g69c H locs h69 hH => ?_)
    obtain ⟨e69, rfl⟩ := h69
    rw [e69] at hH
    refine RET _ _ _ _ _ _ dX5_many_72 rfl ?_ hH
    refine ⟨rfl, ?_⟩
    unfold sp_many
    rw [if_pos (by decide)]
    rfl
  refine lv_tableOut (tgt := 73) hx hb dX5_many_1 (tb_out4 t1_0 t1_1 t1_2 t1_3 t1_4) (by decide) ?_
  refine lv_bipush (v := (-2)) hx hb dX5_many_73 (by decide) ?_
  refine RET _ _ _ _ _ _ dX5_many_75 rfl ?_ hH
  refine ⟨rfl, ?_⟩
  unfold sp_many
  rw [if_neg (fun z => by rcases tb_out4 t1_0 t1_1 t1_2 t1_3 t1_4 with q | q <;> omega)]
theorem k_X5_many_nat (l : Launch) (X : Cx) (ad : Nat → Nat) (hi : inj 48 ad) (g : PF) (C : ClS) (hC : rCls X ad C g) (k : Nat) (hk : k ≤ 4) : Ki l yX5_many wsX5_many zr7 X 48 ad g [.ref (ad 0), .int (nI k)] (fun r g' => g' = g ∧ r = nI (mny C k)) := by
  have h := k_X5_many l X ad hi g C hC (nI k)
  rw [show sp_many (nI k) C = nI (mny C k) from by unfold sp_many; rw [if_pos ((rng_iff (by omega)).mpr (by omega)), tN_nI (by omega)]] at h
  exact h
theorem rollers_le {L : LnS} (h : lineOk L) : rollers L ≤ 18 := by
  have h1 : rollers L ≤ L.1 * 3 := sm_le (fun j hj => (h.2.2.2 j hj).1.2.2.2.2)
  have := h.1
  omega
theorem cells_le {X : Cx} {ad : Nat → Nat} {n : Nat → Nat} {a : Nat → Nat → Nat} {g : PF} (h : rRows X ad n a g) : sm n 8 ≤ 3200 := by
  have h1 : sm n 8 ≤ 8 * 400 := sm_le (fun j hj => by obtain ⟨x, -, -, -, q, -⟩ := h j hj; exact q)
  omega
theorem mny_le {X : Cx} {ad : Nat → Nat} {C : ClS} {g : PF} (h : rCls X ad C g) : ∀ k, mny C k ≤ 3200
  | 0 => by obtain ⟨_, _, _, _, _, _, _, _, _, _, _, _, q⟩ := h.2.1; have := q.1; show C.1.1 ≤ 3200; omega
  | 1 => by obtain ⟨_, _, _, _, _, _, _, _, _, _, _, _, q⟩ := h.2.1; have := rollers_le q; show rollers C.1 ≤ 3200; omega
  | 2 => by obtain ⟨_, _, _, _, _, _, _, _, _, _, _, _, _, q⟩ := h.2.2.2; have := q.1; show C.2.2.2.1 ≤ 3200; omega
  | 3 => by obtain ⟨_, _, _, _, _, _, _, _, _, _, _, _, _, q⟩ := h.2.2.2; have := q.2.2.2.2.2.2; show C.2.2.2.2.2.1 ≤ 3200; omega
  | _ + 4 => cells_le h.2.2.1
set_option maxHeartbeats 4000000 in
set_option maxRecDepth 100000 in
theorem k_X5_digest (l : Launch) (X : Cx) (ad : Nat → Nat) (hi : inj 48 ad) (g : PF) (C : ClS) (hC : rCls X ad C g)  : Kl l yX5_digest wsX5_digest zr9 X 48 ad g [.ref (ad 0)] (fun r g' => r = sp_digest C ∧ rCls X ad C g' ∧ frC g g') := by
  refine Kl.of (cc := cX5_digest) (maxL := 4) hi (by decide) rfl (Nat.le_of_ble_eq_true rfl) ?_
  intro p e s m below meth c Q E RET ls hl
  obtain ⟨C0, FX, hH⟩ := E
  have hx := C0.1
  have hb := C0.2.1
  have kl130 := C0.2.2.2.2 (.constantLong RX5 130 (lN 149)) (by decide +kernel)
  have kl132 := C0.2.2.2.2 (.constantLong RX5 132 (lN 31)) (by decide +kernel)
  have kiX1 : ∀ w ∈ u_ws RX1 TX1 5, w ∈ wsX5_digest := (by decide +kernel)
  have kiX5 : ∀ w ∈ u_ws RX5 TX5 3, w ∈ wsX5_digest := (by decide +kernel)
  have kf10 : Cond.fieldLink RX5 10 "YarnMill" "line" "LYarnMill$Line;" ∈ wsX5_digest := (by decide +kernel)
  have kf117 : Cond.fieldLink RX5 117 "YarnMill$Line" "size" "I" ∈ wsX5_digest := (by decide +kernel)
  have kf18 : Cond.fieldLink RX5 18 "YarnMill" "rows" "[LYarnMill$Row;" ∈ wsX5_digest := (by decide +kernel)
  have kf26 : Cond.fieldLink RX5 26 "YarnMill" "store" "LYarnMill$Store;" ∈ wsX5_digest := (by decide +kernel)
  have hl : lv_has ls 4 [(0, .ref (ad 0))] := hl
  obtain ⟨f0, fq, f16, hfq⟩ := id hC.1
  have frd : frC g g := fun _ _ => rfl
  have hny := mny_le hC
  have hnm : C.1.1 ≤ 6 := by obtain ⟨_, _, _, _, _, _, _, _, _, _, _, _, q⟩ := hC.2.1; exact q.1
  refine lv_ldc2 hx hb C0.2.2.2.1 kl130 dX5_digest_0 ?_
  refine lv_lstore_n (lv' := [(1, .long (lN 149)), (0, .ref (ad 0))]) hx hb dX5_digest_3 rfl hl (by decide) rfl (fun ls hl => ?_)
  refine lv_iconst (v := nI 0) hx hb dX5_digest_4 (by decide) ?_
  refine lv_istore_n (lv' := [(3, .int (nI 0)), (1, .long (lN 149)), (0, .ref (ad 0))]) hx hb dX5_digest_5 rfl hl (by decide) rfl (fun ls hl => ?_)
  have L6 : ∀ (fu : Nat) (hh : Int64) (i : Nat) (H : Heap) (locs : List Loc) (ls : Array Slot), (i ≤ 5) → (hh = dg0 C i) → 5 - i < fu → WH X 48 ad (pA 48 ad s.heap.size) s g H locs → lv_has ls 4 [(3, .int (nI i)), (1, .long hh), (0, .ref (ad 0))] → W p l e zr9 s m ([.ref (ad 0)] : List Value).toArray below meth c H locs 0 0 Q (F0 m 6 ls []) := by
    intro fu
    induction fu with
    | zero =>
      intro hh i H locs ls i1 i2 hm
      exact absurd hm (Nat.not_lt_zero _)
    | succ fu ih =>
      have ih6 := ih; clear ih
      intro hh i H locs ls i1 i2 hm6 hH hl
      have hq := hny i
      refine lv_iload_n hx hb dX5_digest_6 rfl (lv_at hl 0 rfl) ?_
      refine lv_iconst (v := nI 4) hx hb dX5_digest_7 (by decide) ?_
      refine ni_cgt hx hb 30 dX5_digest_8 (by decide) (by omega) (by omega) (fun c8 => ?_) (fun c8 => ?_)
      · refine lv_ldc2 hx hb C0.2.2.2.1 kl132 dX5_digest_30 ?_
        refine lv_lload_n hx hb dX5_digest_33 rfl (lv_at hl 1 rfl) ?_
        refine lv_lmul hx hb dX5_digest_34 ?_
        refine lv_aload_n hx hb dX5_digest_35 rfl (lv_at hl 2 rfl) ?_
        refine rp_get C0 FX hH 0 (by decide) (ci := 5) (k := 0) f0 rfl kiX5 (by decide) kf10 rfl dX5_digest_36 ?_
        refine lv_aload_n hx hb dX5_digest_39 rfl (lv_at hl 2 rfl) ?_
        refine rp_get C0 FX hH 0 (by decide) (ci := 5) (k := 0) f0 rfl kiX5 (by decide) kf10 rfl dX5_digest_40 ?_
        obtain ⟨hm0, hr0, A0, B0, fm0, f1, -⟩ := id hC.2.1
        refine rp_get C0 FX hH 1 (by decide) (ci := 1) (k := 0) f1 rfl kiX1 (by decide) kf117 rfl dX5_digest_43 ?_
        refine lv_iconst (v := nI 0) hx hb dX5_digest_46 (by decide) ?_
        refine rc_Vl (rest := [.long ((lN 31) * hh)]) C0 FX hH 1 (by decide) f1 rfl (k_X1_tellCount l X ad hi _ C.1.1 C.1.2.1 C.1.2.2.1 C.1.2.2.2.1 C.1.2.2.2.2 hC.2.1 (nI (C.1.1)) (nI 0)) (cwV 2 C0.2.2.2.2 gX5_digest_X1_tellCount rfl rfl rfl (by decide +kernel) ⟨Nat.le_of_ble_eq_true rfl, Nat.le_of_ble_eq_true rfl⟩) rfl rfl hl.1 (Nat.le_of_ble_eq_true rfl) dX5_digest_47 ⟨Nat.le_of_ble_eq_true rfl, Nat.le_of_ble_eq_true rfl⟩ (fun r47 g47c H locs h47 hH => ?_)
        obtain ⟨e47, hL47, hf47⟩ := h47
        obtain ⟨hC, hq47⟩ := cls_line hC hL47 hf47
        have hC : rCls X ad C g47c := hC
        have frd : frC g g47c := fun j hj => (hq47 j hj).trans (frd j hj)
        rw [e47, show sp_countAt (nI C.1.1) (nI 0) C.1 = sp_countOf C.1.1 (nI 0) C.1 from by unfold sp_countAt; rw [if_pos ⟨(rng_iff (by omega)).mpr (by omega), by decide⟩, tN_nI (by omega)]]
        obtain ⟨f0, fq, f16, hfq⟩ := id hC.1
        refine lv_ladd hx hb dX5_digest_50 ?_
        refine lv_lstore_n (lv' := [(1, .long (((lN 31) * hh) + (sp_countOf C.1.1 (nI 0) C.1))), (3, .int (nI i)), (0, .ref (ad 0))]) hx hb dX5_digest_51 rfl hl (by decide) rfl (fun ls hl => ?_)
        refine lv_ldc2 hx hb C0.2.2.2.1 kl132 dX5_digest_52 ?_
        refine lv_lload_n hx hb dX5_digest_55 rfl (lv_at hl 0 rfl) ?_
        refine lv_lmul hx hb dX5_digest_56 ?_
        refine lv_aload_n hx hb dX5_digest_57 rfl (lv_at hl 2 rfl) ?_
        refine rp_get C0 FX hH 0 (by decide) (ci := 5) (k := 0) f0 rfl kiX5 (by decide) kf10 rfl dX5_digest_58 ?_
        refine lv_aload_n hx hb dX5_digest_61 rfl (lv_at hl 2 rfl) ?_
        refine rp_get C0 FX hH 0 (by decide) (ci := 5) (k := 0) f0 rfl kiX5 (by decide) kf10 rfl dX5_digest_62 ?_
        obtain ⟨hm0, hr0, A0, B0, fm0, f1, -⟩ := id hC.2.1
        refine rp_get C0 FX hH 1 (by decide) (ci := 1) (k := 0) f1 rfl kiX1 (by decide) kf117 rfl dX5_digest_65 ?_
        refine lv_iconst (v := nI 1) hx hb dX5_digest_68 (by decide) ?_
        refine rc_Vl (rest := [.long ((lN 31) * (((lN 31) * hh) + (sp_countOf C.1.1 (nI 0) C.1)))]) C0 FX hH 1 (by decide) f1 rfl (k_X1_tellCount l X ad hi _ C.1.1 C.1.2.1 C.1.2.2.1 C.1.2.2.2.1 C.1.2.2.2.2 hC.2.1 (nI (C.1.1)) (nI 1)) (cwV 2 C0.2.2.2.2 gX5_digest_X1_tellCount rfl rfl rfl (by decide +kernel) ⟨Nat.le_of_ble_eq_true rfl, Nat.le_of_ble_eq_true rfl⟩) rfl rfl hl.1 (Nat.le_of_ble_eq_true rfl) dX5_digest_69 ⟨Nat.le_of_ble_eq_true rfl, Nat.le_of_ble_eq_true rfl⟩ (fun r69 g69c H locs h69 hH => ?_)
        obtain ⟨e69, hL69, hf69⟩ := h69
        obtain ⟨hC, hq69⟩ := cls_line hC hL69 hf69
        have hC : rCls X ad C g69c := hC
        have frd : frC g g69c := fun j hj => (hq69 j hj).trans (frd j hj)
        rw [e69, show sp_countAt (nI C.1.1) (nI 1) C.1 = sp_countOf C.1.1 (nI 1) C.1 from by unfold sp_countAt; rw [if_pos ⟨(rng_iff (by omega)).mpr (by omega), by decide⟩, tN_nI (by omega)]]
        obtain ⟨f0, fq, f16, hfq⟩ := id hC.1
        refine lv_ladd hx hb dX5_digest_72 ?_
        refine lv_lstore_n (lv' := [(1, .long (((lN 31) * (((lN 31) * hh) + (sp_countOf C.1.1 (nI 0) C.1))) + (sp_countOf C.1.1 (nI 1) C.1))), (3, .int (nI i)), (0, .ref (ad 0))]) hx hb dX5_digest_73 rfl hl (by decide) rfl (fun ls hl => ?_)
        refine lv_iconst (v := nI 0) hx hb dX5_digest_74 (by decide) ?_
        refine lv_istore_n (lv' := [(3, .int (nI 0)), (1, .long (((lN 31) * (((lN 31) * hh) + (sp_countOf C.1.1 (nI 0) C.1))) + (sp_countOf C.1.1 (nI 1) C.1))), (0, .ref (ad 0))]) hx hb dX5_digest_75 rfl hl (by decide) rfl (fun ls hl => ?_)
        have L76 : ∀ (fu : Nat) (hh : Int64) (i : Nat) (H : Heap) (locs : List Loc) (ls : Array Slot), (i ≤ 8) → (hh = dgr (lN 31 * (lN 31 * dg0 C 5 + sp_countOf C.1.1 (nI 0) C.1) + sp_countOf C.1.1 (nI 1) C.1) C.2.1 C.2.2.1 i) → 8 - i < fu → WH X 48 ad (pA 48 ad s.heap.size) s g69c H locs → lv_has ls 4 [(3, .int (nI i)), (1, .long hh), (0, .ref (ad 0))] → W p l e zr9 s m ([.ref (ad 0)] : List Value).toArray below meth c H locs 0 0 Q (F0 m 76 ls []) := by
          intro fu
          induction fu with
          | zero =>
            intro hh i H locs ls j1 j2 hm
            exact absurd hm (Nat.not_lt_zero _)
          | succ fu ih =>
            have ih76 := ih; clear ih
            intro hh i H locs ls j1 j2 hm76 hH hl
            refine lv_iload_n hx hb dX5_digest_76 rfl (lv_at hl 0 rfl) ?_
            refine lv_bipush (v := nI 8) hx hb dX5_digest_77 (by decide) ?_
            refine ni_cge hx hb 99 dX5_digest_79 (by decide) (by omega) (by omega) (fun c79 => ?_) (fun c79 => ?_)
            · refine lv_aload_n hx hb dX5_digest_99 rfl (lv_at hl 2 rfl) ?_
              refine rp_get C0 FX hH 0 (by decide) (ci := 5) (k := 2) f0 rfl kiX5 (by decide) kf26 rfl dX5_digest_100 ?_
              refine lv_lload_n hx hb dX5_digest_103 rfl (lv_at hl 1 rfl) ?_
              obtain ⟨ec0, lsu0, msu0, spn0, hn0, ho0, f33, -⟩ := id hC.2.2.2
              refine rc_Vl (rest := []) C0 FX hH 33 (by decide) f33 rfl (k_X4_mixInto l X ad hi _ C.2.2.2.1 C.2.2.2.2.1 C.2.2.2.2.2.1 C.2.2.2.2.2.2.1 C.2.2.2.2.2.2.2.1 C.2.2.2.2.2.2.2.2 hC.2.2.2 hh) (cwV 1 C0.2.2.2.2 gX5_digest_X4_mixInto rfl rfl rfl (by decide +kernel) ⟨Nat.le_of_ble_eq_true rfl, Nat.le_of_ble_eq_true rfl⟩) rfl rfl hl.1 (Nat.le_of_ble_eq_true rfl) dX5_digest_104 ⟨Nat.le_of_ble_eq_true rfl, Nat.le_of_ble_eq_true rfl⟩ (fun r104 g104c H locs h104 hH => ?_)
              obtain ⟨e104, rfl⟩ := h104
              rw [e104] at hH
              refine RET _ _ _ _ _ _ dX5_digest_107 ?_ hH
              refine ⟨?_, hC, frd⟩
              unfold sp_digest
              rw [j2, show i = 8 by omega]
            · refine lv_aload_n hx hb dX5_digest_82 rfl (lv_at hl 2 rfl) ?_
              refine rp_get C0 FX hH 0 (by decide) (ci := 5) (k := 1) f0 rfl kiX5 (by decide) kf18 rfl dX5_digest_83 ?_
              refine lv_iload_n hx hb dX5_digest_86 rfl (lv_at hl 0 rfl) ?_
              refine rp_aald C0 FX hH 16 2 (by decide) f16 rfl i (ad (17 + 2 * i)) (by omega) (by decide) (hfq _ (by omega)) dX5_digest_87 ?_
              refine lv_lload_n hx hb dX5_digest_88 rfl (lv_at hl 1 rfl) ?_
              obtain ⟨x89, yrw89, -⟩ := id (hC.2.2.1 i (by omega))
              refine rc_Vl (rest := []) C0 FX hH (17 + 2 * i) (by omega) yrw89 rfl (k_X3_mixInto l X ad hi _ (17 + 2 * i) (by omega) (C.2.1 i) (C.2.2.1 i) (hC.2.2.1 i (by omega)) hh) (cwV 1 C0.2.2.2.2 gX5_digest_X3_mixInto rfl rfl rfl (by decide +kernel) ⟨Nat.le_of_ble_eq_true rfl, Nat.le_of_ble_eq_true rfl⟩) rfl rfl hl.1 (Nat.le_of_ble_eq_true rfl) dX5_digest_89 ⟨Nat.le_of_ble_eq_true rfl, Nat.le_of_ble_eq_true rfl⟩ (fun r89 g89c H locs h89 hH => ?_)
              obtain ⟨e89, rfl⟩ := h89
              rw [e89] at hH
              refine lv_lstore_n (lv' := [(1, .long (mx hh (C.2.2.1 i) (C.2.1 i))), (3, .int (nI i)), (0, .ref (ad 0))]) hx hb dX5_digest_92 rfl hl (by decide) rfl (fun ls hl => ?_)
              refine lv_iinc (v := nI (i + 1)) (lv' := [(3, .int (nI (i + 1))), (1, .long (mx hh (C.2.2.1 i) (C.2.1 i))), (0, .ref (ad 0))]) hx hb dX5_digest_93 hl (k := 1) rfl (ni_inc1 _) (by decide) rfl (fun ls hl => ?_)
              refine lv_goto (tgt := 76) hx hb dX5_digest_96 (by decide) ?_
              exact ih76 (mx hh (C.2.2.1 i) (C.2.1 i)) (i + 1) _ _ ls (by omega) (by rw [j2]; rfl) (by omega) hH (lv_sub hl [0, 1, 2] rfl)
        exact L76 ((8 - 0) + 1) (((lN 31) * (((lN 31) * hh) + (sp_countOf C.1.1 (nI 0) C.1))) + (sp_countOf C.1.1 (nI 1) C.1)) 0 _ _ ls (by omega) (by rw [i2, show i = 5 by omega]; rfl) (Nat.lt_succ_self _) hH (lv_sub hl [0, 1, 2] rfl)
      · refine lv_ldc2 hx hb C0.2.2.2.1 kl132 dX5_digest_11 ?_
        refine lv_lload_n hx hb dX5_digest_14 rfl (lv_at hl 1 rfl) ?_
        refine lv_lmul hx hb dX5_digest_15 ?_
        refine lv_aload_n hx hb dX5_digest_16 rfl (lv_at hl 2 rfl) ?_
        refine lv_iload_n hx hb dX5_digest_17 rfl (lv_at hl 0 rfl) ?_
        refine rc_Vi (rest := [.long ((lN 31) * hh)]) C0 FX hH 0 (by decide) f0 rfl (k_X5_many_nat l X ad hi _ C hC i (by omega)) (cwV 1 C0.2.2.2.2 gX5_digest_X5_many rfl rfl rfl (by decide +kernel) ⟨Nat.le_of_ble_eq_true rfl, Nat.le_of_ble_eq_true rfl⟩) rfl rfl hl.1 (Nat.le_of_ble_eq_true rfl) dX5_digest_18 ⟨Nat.le_of_ble_eq_true rfl, Nat.le_of_ble_eq_true rfl⟩ (fun r18 g18c H locs h18 hH => ?_)
        obtain ⟨e18, rfl⟩ := h18
        rw [e18] at hH
        refine ni_i2l hx hb (by omega) dX5_digest_21 ?_
        refine lv_ladd hx hb dX5_digest_22 ?_
        refine lv_lstore_n (lv' := [(1, .long (((lN 31) * hh) + (lN (mny C i)))), (3, .int (nI i)), (0, .ref (ad 0))]) hx hb dX5_digest_23 rfl hl (by decide) rfl (fun ls hl => ?_)
        refine lv_iinc (v := nI (i + 1)) (lv' := [(3, .int (nI (i + 1))), (1, .long (((lN 31) * hh) + (lN (mny C i)))), (0, .ref (ad 0))]) hx hb dX5_digest_24 hl (k := 1) rfl (ni_inc1 _) (by decide) rfl (fun ls hl => ?_)
        refine lv_goto (tgt := 6) hx hb dX5_digest_27 (by decide) ?_
        exact ih6 (((lN 31) * hh) + (lN (mny C i))) (i + 1) _ _ ls (by omega) (by rw [i2]; rfl) (by omega) hH (lv_sub hl [0, 1, 2] rfl)
  exact L6 ((5 - 0) + 1) (lN 149) 0 _ _ ls (by omega) (by rfl) (Nat.lt_succ_self _) hH (lv_sub hl [0, 1, 2] rfl)
