set_option maxHeartbeats 4000000 in
set_option maxRecDepth 100000 in
theorem law_c9 {p : Program} {l : Launch} {e : Env} {s : State} {m : MethodId} {below : List Frame} {meth : Method} {c : Code} {Q : State → Prop} {b L k : Nat} {xs : Nat → Int32} {X : Cx} {ad : Nat → Nat} {ls : Array Slot} (F : LawFix p s m c b L xs X ad) (hk : k + 6 ≤ L) (hl : lv_has ls 4 [(0, .ref b), (1, .ref (ad 0)), (2, .ref (ad 36)), (3, .int (nI k))]) (KK : ∀ (C : ClS) (g : PF) (H : Heap) (locs : List Loc), LawInv X ad s C g H locs → W p l e room_1 s m #[Value.ref b] below meth c H locs 48 7025 Q (F0 m 1082 ls [])) : ∀ (C : ClS) (g : PF) (H : Heap) (locs : List Loc), LawInv X ad s C g H locs → W p l e room_1 s m #[Value.ref b] below meth c H locs 48 7025 Q (F0 m 505 ls []) := by
  obtain ⟨C0, FX, hX, hbl, hL⟩ := F
  obtain ⟨hx, hb, hml, hown, hts⟩ := id C0
  have hbA : ¬ (fun q : Nat => s.heap.size ≤ q) b := Nat.not_le.mpr hbl
  intro C g H locs hI
  obtain ⟨⟨nm, fa, fb, mc, rd⟩, nr, ar, nb, num, lay, pev, pln, tr⟩ := C
  obtain ⟨hC, hM, hH⟩ := hI
  refine lv_aload_n hx hb dL_law_505 rfl (lv_at hl 1 rfl) ?_
  refine law_arg 506 1 hx hb hX hbl hbA hH.2 hl (by omega) hL dL_law_506 dL_law_507 dL_law_508 (by decide) dL_law_509 dL_law_510 ?_
  refine rc_Vi (rest := []) C0 FX hH 0 (by decide) hC.1.1 rfl (k_X5_empty l X ad FX.2.1 _ _ hC (xs (k + 1))) (cwV 1 hts gL_law_X5_empty rfl rfl rfl (by decide +kernel) ⟨(Nat.le_of_ble_eq_true rfl), (Nat.le_of_ble_eq_true rfl)⟩) rfl rfl hl.1 (Nat.le_of_ble_eq_true rfl) dL_law_511 ⟨(Nat.le_of_ble_eq_true rfl), (Nat.le_of_ble_eq_true rfl)⟩ (fun r1 g1 H1 locs1 h1 hH1 => ?_)
  obtain ⟨e1, hC, f1⟩ := h1
  have hM := hM.same f1
  refine lv_aload_n hx hb dL_law_514 rfl (lv_at hl 2 rfl) ?_
  refine law_arg 515 1 hx hb hX hbl hbA hH1.2 hl (by omega) hL dL_law_515 dL_law_516 dL_law_517 (by decide) dL_law_518 dL_law_519 ?_
  obtain ⟨fs6, h36⟩ := mod_g36 hM
  refine rc_Vi (rest := [.int r1]) C0 FX hH1 36 (by decide) h36 rfl (k_X6_empty l X ad FX.2.1 _ _ _ _ _ _ _ _ _ _ _ _ _ _ hM (xs (k + 1))) (cwV 1 hts gL_law_X6_empty rfl rfl rfl (by decide +kernel) ⟨(Nat.le_of_ble_eq_true rfl), (Nat.le_of_ble_eq_true rfl)⟩) rfl rfl hl.1 (Nat.le_of_ble_eq_true rfl) dL_law_520 ⟨(Nat.le_of_ble_eq_true rfl), (Nat.le_of_ble_eq_true rfl)⟩ (fun r2 g2 H2 locs2 h2 hH2 => ?_)
  obtain ⟨e2, hM, f2⟩ := h2
  have hC := hC.same f2
  refine lv_icmp_eq (tgt := 1082) hx hb dL_law_523 (by decide) (fun _ => ?_) (fun cc => absurd (e1.trans e2.symm) cc)
  exact KK _ _ _ _ ⟨hC, hM, hH2⟩
set_option maxHeartbeats 4000000 in
set_option maxRecDepth 100000 in
theorem law_c10 {p : Program} {l : Launch} {e : Env} {s : State} {m : MethodId} {below : List Frame} {meth : Method} {c : Code} {Q : State → Prop} {b L k : Nat} {xs : Nat → Int32} {X : Cx} {ad : Nat → Nat} {ls : Array Slot} (F : LawFix p s m c b L xs X ad) (hk : k + 6 ≤ L) (hl : lv_has ls 4 [(0, .ref b), (1, .ref (ad 0)), (2, .ref (ad 36)), (3, .int (nI k))]) (KK : ∀ (C : ClS) (g : PF) (H : Heap) (locs : List Loc), LawInv X ad s C g H locs → W p l e room_1 s m #[Value.ref b] below meth c H locs 48 7025 Q (F0 m 1082 ls [])) : ∀ (C : ClS) (g : PF) (H : Heap) (locs : List Loc), LawInv X ad s C g H locs → W p l e room_1 s m #[Value.ref b] below meth c H locs 48 7025 Q (F0 m 528 ls []) := by
  obtain ⟨C0, FX, hX, hbl, hL⟩ := F
  obtain ⟨hx, hb, hml, hown, hts⟩ := id C0
  have hbA : ¬ (fun q : Nat => s.heap.size ≤ q) b := Nat.not_le.mpr hbl
  intro C g H locs hI
  obtain ⟨⟨nm, fa, fb, mc, rd⟩, nr, ar, nb, num, lay, pev, pln, tr⟩ := C
  obtain ⟨hC, hM, hH⟩ := hI
  refine lv_aload_n hx hb dL_law_528 rfl (lv_at hl 1 rfl) ?_
  refine law_arg 529 1 hx hb hX hbl hbA hH.2 hl (by omega) hL dL_law_529 dL_law_530 dL_law_531 (by decide) dL_law_532 dL_law_533 ?_
  refine law_arg 534 2 hx hb hX hbl hbA hH.2 hl (by omega) hL dL_law_534 dL_law_535 dL_law_536 (by decide) dL_law_537 dL_law_538 ?_
  refine rc_Vi (rest := []) C0 FX hH 0 (by decide) hC.1.1 rfl (k_X5_at l X ad FX.2.1 _ _ hC (xs (k + 1)) (xs (k + 2))) (cwV 2 hts gL_law_X5_at rfl rfl rfl (by decide +kernel) ⟨(Nat.le_of_ble_eq_true rfl), (Nat.le_of_ble_eq_true rfl)⟩) rfl rfl hl.1 (Nat.le_of_ble_eq_true rfl) dL_law_539 ⟨(Nat.le_of_ble_eq_true rfl), (Nat.le_of_ble_eq_true rfl)⟩ (fun r1 g1 H1 locs1 h1 hH1 => ?_)
  obtain ⟨rfl, e1⟩ := h1
  refine lv_aload_n hx hb dL_law_542 rfl (lv_at hl 2 rfl) ?_
  refine law_arg 543 1 hx hb hX hbl hbA hH1.2 hl (by omega) hL dL_law_543 dL_law_544 dL_law_545 (by decide) dL_law_546 dL_law_547 ?_
  refine law_arg 548 2 hx hb hX hbl hbA hH1.2 hl (by omega) hL dL_law_548 dL_law_549 dL_law_550 (by decide) dL_law_551 dL_law_552 ?_
  obtain ⟨fs6, h36⟩ := mod_g36 hM
  refine rc_Vi (rest := [.int r1]) C0 FX hH1 36 (by decide) h36 rfl (k_X6_at l X ad FX.2.1 _ _ _ _ _ _ _ _ _ _ _ _ _ _ hM (xs (k + 1)) (xs (k + 2))) (cwV 2 hts gL_law_X6_at rfl rfl rfl (by decide +kernel) ⟨(Nat.le_of_ble_eq_true rfl), (Nat.le_of_ble_eq_true rfl)⟩) rfl rfl hl.1 (Nat.le_of_ble_eq_true rfl) dL_law_553 ⟨(Nat.le_of_ble_eq_true rfl), (Nat.le_of_ble_eq_true rfl)⟩ (fun r2 g2 H2 locs2 h2 hH2 => ?_)
  obtain ⟨rfl, e2⟩ := h2
  refine lv_icmp_eq (tgt := 1082) hx hb dL_law_556 (by decide) (fun _ => ?_) (fun cc => absurd (e1.trans e2.symm) cc)
  exact KK _ _ _ _ ⟨hC, hM, hH2⟩
set_option maxHeartbeats 4000000 in
set_option maxRecDepth 100000 in
theorem law_c11 {p : Program} {l : Launch} {e : Env} {s : State} {m : MethodId} {below : List Frame} {meth : Method} {c : Code} {Q : State → Prop} {b L k : Nat} {xs : Nat → Int32} {X : Cx} {ad : Nat → Nat} {ls : Array Slot} (F : LawFix p s m c b L xs X ad) (hk : k + 6 ≤ L) (hl : lv_has ls 4 [(0, .ref b), (1, .ref (ad 0)), (2, .ref (ad 36)), (3, .int (nI k))]) (KK : ∀ (C : ClS) (g : PF) (H : Heap) (locs : List Loc), LawInv X ad s C g H locs → W p l e room_1 s m #[Value.ref b] below meth c H locs 48 7025 Q (F0 m 1082 ls [])) : ∀ (C : ClS) (g : PF) (H : Heap) (locs : List Loc), LawInv X ad s C g H locs → W p l e room_1 s m #[Value.ref b] below meth c H locs 48 7025 Q (F0 m 561 ls []) := by
  obtain ⟨C0, FX, hX, hbl, hL⟩ := F
  obtain ⟨hx, hb, hml, hown, hts⟩ := id C0
  have hbA : ¬ (fun q : Nat => s.heap.size ≤ q) b := Nat.not_le.mpr hbl
  intro C g H locs hI
  obtain ⟨⟨nm, fa, fb, mc, rd⟩, nr, ar, nb, num, lay, pev, pln, tr⟩ := C
  obtain ⟨hC, hM, hH⟩ := hI
  refine lv_aload_n hx hb dL_law_561 rfl (lv_at hl 1 rfl) ?_
  refine law_arg 562 1 hx hb hX hbl hbA hH.2 hl (by omega) hL dL_law_562 dL_law_563 dL_law_564 (by decide) dL_law_565 dL_law_566 ?_
  refine law_arg 567 2 hx hb hX hbl hbA hH.2 hl (by omega) hL dL_law_567 dL_law_568 dL_law_569 (by decide) dL_law_570 dL_law_571 ?_
  refine rc_Vi (rest := []) C0 FX hH 0 (by decide) hC.1.1 rfl (k_X5_join l X ad FX.2.1 _ _ hC (xs (k + 1)) (xs (k + 2))) (cwV 2 hts gL_law_X5_join rfl rfl rfl (by decide +kernel) ⟨(Nat.le_of_ble_eq_true rfl), (Nat.le_of_ble_eq_true rfl)⟩) rfl rfl hl.1 (Nat.le_of_ble_eq_true rfl) dL_law_572 ⟨(Nat.le_of_ble_eq_true rfl), (Nat.le_of_ble_eq_true rfl)⟩ (fun r1 g1 H1 locs1 h1 hH1 => ?_)
  obtain ⟨e1, hC, f1⟩ := h1
  have hM := hM.same f1
  refine lv_aload_n hx hb dL_law_575 rfl (lv_at hl 2 rfl) ?_
  refine law_arg 576 1 hx hb hX hbl hbA hH1.2 hl (by omega) hL dL_law_576 dL_law_577 dL_law_578 (by decide) dL_law_579 dL_law_580 ?_
  refine law_arg 581 2 hx hb hX hbl hbA hH1.2 hl (by omega) hL dL_law_581 dL_law_582 dL_law_583 (by decide) dL_law_584 dL_law_585 ?_
  obtain ⟨fs6, h36⟩ := mod_g36 hM
  refine rc_Vi (rest := [.int r1]) C0 FX hH1 36 (by decide) h36 rfl (k_X6_join l X ad FX.2.1 _ _ _ _ _ _ _ _ _ _ _ _ _ _ hM (xs (k + 1)) (xs (k + 2))) (cwV 2 hts gL_law_X6_join rfl rfl rfl (by decide +kernel) ⟨(Nat.le_of_ble_eq_true rfl), (Nat.le_of_ble_eq_true rfl)⟩) rfl rfl hl.1 (Nat.le_of_ble_eq_true rfl) dL_law_586 ⟨(Nat.le_of_ble_eq_true rfl), (Nat.le_of_ble_eq_true rfl)⟩ (fun r2 g2 H2 locs2 h2 hH2 => ?_)
  obtain ⟨e2, hM, f2⟩ := h2
  have hC := hC.same f2
  refine lv_icmp_eq (tgt := 1082) hx hb dL_law_589 (by decide) (fun _ => ?_) (fun cc => absurd (e1.trans e2.symm) cc)
  exact KK _ _ _ _ ⟨hC, hM, hH2⟩
set_option maxHeartbeats 4000000 in
set_option maxRecDepth 100000 in
theorem law_c12 {p : Program} {l : Launch} {e : Env} {s : State} {m : MethodId} {below : List Frame} {meth : Method} {c : Code} {Q : State → Prop} {b L k : Nat} {xs : Nat → Int32} {X : Cx} {ad : Nat → Nat} {ls : Array Slot} (F : LawFix p s m c b L xs X ad) (hk : k + 6 ≤ L) (hl : lv_has ls 4 [(0, .ref b), (1, .ref (ad 0)), (2, .ref (ad 36)), (3, .int (nI k))]) (KK : ∀ (C : ClS) (g : PF) (H : Heap) (locs : List Loc), LawInv X ad s C g H locs → W p l e room_1 s m #[Value.ref b] below meth c H locs 48 7025 Q (F0 m 1082 ls [])) : ∀ (C : ClS) (g : PF) (H : Heap) (locs : List Loc), LawInv X ad s C g H locs → W p l e room_1 s m #[Value.ref b] below meth c H locs 48 7025 Q (F0 m 594 ls []) := by
  obtain ⟨C0, FX, hX, hbl, hL⟩ := F
  obtain ⟨hx, hb, hml, hown, hts⟩ := id C0
  have hbA : ¬ (fun q : Nat => s.heap.size ≤ q) b := Nat.not_le.mpr hbl
  intro C g H locs hI
  obtain ⟨⟨nm, fa, fb, mc, rd⟩, nr, ar, nb, num, lay, pev, pln, tr⟩ := C
  obtain ⟨hC, hM, hH⟩ := hI
  refine lv_aload_n hx hb dL_law_594 rfl (lv_at hl 1 rfl) ?_
  refine law_arg 595 1 hx hb hX hbl hbA hH.2 hl (by omega) hL dL_law_595 dL_law_596 dL_law_597 (by decide) dL_law_598 dL_law_599 ?_
  refine law_arg 600 2 hx hb hX hbl hbA hH.2 hl (by omega) hL dL_law_600 dL_law_601 dL_law_602 (by decide) dL_law_603 dL_law_604 ?_
  refine rc_Vi (rest := []) C0 FX hH 0 (by decide) hC.1.1 rfl (k_X5_stretch l X ad FX.2.1 _ _ hC (xs (k + 1)) (xs (k + 2))) (cwV 2 hts gL_law_X5_stretch rfl rfl rfl (by decide +kernel) ⟨(Nat.le_of_ble_eq_true rfl), (Nat.le_of_ble_eq_true rfl)⟩) rfl rfl hl.1 (Nat.le_of_ble_eq_true rfl) dL_law_605 ⟨(Nat.le_of_ble_eq_true rfl), (Nat.le_of_ble_eq_true rfl)⟩ (fun r1 g1 H1 locs1 h1 hH1 => ?_)
  obtain ⟨e1, hC, f1⟩ := h1
  have hM := hM.same f1
  refine lv_aload_n hx hb dL_law_608 rfl (lv_at hl 2 rfl) ?_
  refine law_arg 609 1 hx hb hX hbl hbA hH1.2 hl (by omega) hL dL_law_609 dL_law_610 dL_law_611 (by decide) dL_law_612 dL_law_613 ?_
  refine law_arg 614 2 hx hb hX hbl hbA hH1.2 hl (by omega) hL dL_law_614 dL_law_615 dL_law_616 (by decide) dL_law_617 dL_law_618 ?_
  obtain ⟨fs6, h36⟩ := mod_g36 hM
  refine rc_Vi (rest := [.int r1]) C0 FX hH1 36 (by decide) h36 rfl (k_X6_stretch l X ad FX.2.1 _ _ _ _ _ _ _ _ _ _ _ _ _ _ hM (xs (k + 1)) (xs (k + 2))) (cwV 2 hts gL_law_X6_stretch rfl rfl rfl (by decide +kernel) ⟨(Nat.le_of_ble_eq_true rfl), (Nat.le_of_ble_eq_true rfl)⟩) rfl rfl hl.1 (Nat.le_of_ble_eq_true rfl) dL_law_619 ⟨(Nat.le_of_ble_eq_true rfl), (Nat.le_of_ble_eq_true rfl)⟩ (fun r2 g2 H2 locs2 h2 hH2 => ?_)
  obtain ⟨e2, hM, f2⟩ := h2
  have hC := hC.same f2
  refine lv_icmp_eq (tgt := 1082) hx hb dL_law_622 (by decide) (fun _ => ?_) (fun cc => absurd (e1.trans e2.symm) cc)
  exact KK _ _ _ _ ⟨hC, hM, hH2⟩
set_option maxHeartbeats 4000000 in
set_option maxRecDepth 100000 in
theorem law_c13 {p : Program} {l : Launch} {e : Env} {s : State} {m : MethodId} {below : List Frame} {meth : Method} {c : Code} {Q : State → Prop} {b L k : Nat} {xs : Nat → Int32} {X : Cx} {ad : Nat → Nat} {ls : Array Slot} (F : LawFix p s m c b L xs X ad) (hk : k + 6 ≤ L) (hl : lv_has ls 4 [(0, .ref b), (1, .ref (ad 0)), (2, .ref (ad 36)), (3, .int (nI k))]) (KK : ∀ (C : ClS) (g : PF) (H : Heap) (locs : List Loc), LawInv X ad s C g H locs → W p l e room_1 s m #[Value.ref b] below meth c H locs 48 7025 Q (F0 m 1082 ls [])) : ∀ (C : ClS) (g : PF) (H : Heap) (locs : List Loc), LawInv X ad s C g H locs → W p l e room_1 s m #[Value.ref b] below meth c H locs 48 7025 Q (F0 m 627 ls []) := by
  obtain ⟨C0, FX, hX, hbl, hL⟩ := F
  obtain ⟨hx, hb, hml, hown, hts⟩ := id C0
  have hbA : ¬ (fun q : Nat => s.heap.size ≤ q) b := Nat.not_le.mpr hbl
  intro C g H locs hI
  obtain ⟨⟨nm, fa, fb, mc, rd⟩, nr, ar, nb, num, lay, pev, pln, tr⟩ := C
  obtain ⟨hC, hM, hH⟩ := hI
  refine lv_aload_n hx hb dL_law_627 rfl (lv_at hl 1 rfl) ?_
  refine law_arg 628 1 hx hb hX hbl hbA hH.2 hl (by omega) hL dL_law_628 dL_law_629 dL_law_630 (by decide) dL_law_631 dL_law_632 ?_
  refine law_arg 633 2 hx hb hX hbl hbA hH.2 hl (by omega) hL dL_law_633 dL_law_634 dL_law_635 (by decide) dL_law_636 dL_law_637 ?_
  refine rc_Vi (rest := []) C0 FX hH 0 (by decide) hC.1.1 rfl (k_X5_gather l X ad FX.2.1 _ _ hC (xs (k + 1)) (xs (k + 2))) (cwV 2 hts gL_law_X5_gather rfl rfl rfl (by decide +kernel) ⟨(Nat.le_of_ble_eq_true rfl), (Nat.le_of_ble_eq_true rfl)⟩) rfl rfl hl.1 (Nat.le_of_ble_eq_true rfl) dL_law_638 ⟨(Nat.le_of_ble_eq_true rfl), (Nat.le_of_ble_eq_true rfl)⟩ (fun r1 g1 H1 locs1 h1 hH1 => ?_)
  obtain ⟨e1, hC, f1⟩ := h1
  have hM := hM.same f1
  refine lv_aload_n hx hb dL_law_641 rfl (lv_at hl 2 rfl) ?_
  refine law_arg 642 1 hx hb hX hbl hbA hH1.2 hl (by omega) hL dL_law_642 dL_law_643 dL_law_644 (by decide) dL_law_645 dL_law_646 ?_
  refine law_arg 647 2 hx hb hX hbl hbA hH1.2 hl (by omega) hL dL_law_647 dL_law_648 dL_law_649 (by decide) dL_law_650 dL_law_651 ?_
  obtain ⟨fs6, h36⟩ := mod_g36 hM
  refine rc_Vi (rest := [.int r1]) C0 FX hH1 36 (by decide) h36 rfl (k_X6_gather l X ad FX.2.1 _ _ _ _ _ _ _ _ _ _ _ _ _ _ hM (xs (k + 1)) (xs (k + 2))) (cwV 2 hts gL_law_X6_gather rfl rfl rfl (by decide +kernel) ⟨(Nat.le_of_ble_eq_true rfl), (Nat.le_of_ble_eq_true rfl)⟩) rfl rfl hl.1 (Nat.le_of_ble_eq_true rfl) dL_law_652 ⟨(Nat.le_of_ble_eq_true rfl), (Nat.le_of_ble_eq_true rfl)⟩ (fun r2 g2 H2 locs2 h2 hH2 => ?_)
  obtain ⟨e2, hM, f2⟩ := h2
  have hC := hC.same f2
  refine lv_icmp_eq (tgt := 1082) hx hb dL_law_655 (by decide) (fun _ => ?_) (fun cc => absurd (e1.trans e2.symm) cc)
  exact KK _ _ _ _ ⟨hC, hM, hH2⟩
set_option maxHeartbeats 4000000 in
set_option maxRecDepth 100000 in
theorem law_c14 {p : Program} {l : Launch} {e : Env} {s : State} {m : MethodId} {below : List Frame} {meth : Method} {c : Code} {Q : State → Prop} {b L k : Nat} {xs : Nat → Int32} {X : Cx} {ad : Nat → Nat} {ls : Array Slot} (F : LawFix p s m c b L xs X ad) (hk : k + 6 ≤ L) (hl : lv_has ls 4 [(0, .ref b), (1, .ref (ad 0)), (2, .ref (ad 36)), (3, .int (nI k))]) (KK : ∀ (C : ClS) (g : PF) (H : Heap) (locs : List Loc), LawInv X ad s C g H locs → W p l e room_1 s m #[Value.ref b] below meth c H locs 48 7025 Q (F0 m 1082 ls [])) : ∀ (C : ClS) (g : PF) (H : Heap) (locs : List Loc), LawInv X ad s C g H locs → W p l e room_1 s m #[Value.ref b] below meth c H locs 48 7025 Q (F0 m 660 ls []) := by
  obtain ⟨C0, FX, hX, hbl, hL⟩ := F
  obtain ⟨hx, hb, hml, hown, hts⟩ := id C0
  have hbA : ¬ (fun q : Nat => s.heap.size ≤ q) b := Nat.not_le.mpr hbl
  intro C g H locs hI
  obtain ⟨⟨nm, fa, fb, mc, rd⟩, nr, ar, nb, num, lay, pev, pln, tr⟩ := C
  obtain ⟨hC, hM, hH⟩ := hI
  refine lv_aload_n hx hb dL_law_660 rfl (lv_at hl 1 rfl) ?_
  refine law_arg 661 1 hx hb hX hbl hbA hH.2 hl (by omega) hL dL_law_661 dL_law_662 dL_law_663 (by decide) dL_law_664 dL_law_665 ?_
  refine law_arg 666 2 hx hb hX hbl hbA hH.2 hl (by omega) hL dL_law_666 dL_law_667 dL_law_668 (by decide) dL_law_669 dL_law_670 ?_
  refine law_arg 671 3 hx hb hX hbl hbA hH.2 hl (by omega) hL dL_law_671 dL_law_672 dL_law_673 (by decide) dL_law_674 dL_law_675 ?_
  refine rc_Vi (rest := []) C0 FX hH 0 (by decide) hC.1.1 rfl (k_X5_fault l X ad FX.2.1 _ _ hC (xs (k + 1)) (xs (k + 2)) (xs (k + 3))) (cwV 3 hts gL_law_X5_fault rfl rfl rfl (by decide +kernel) ⟨(Nat.le_of_ble_eq_true rfl), (Nat.le_of_ble_eq_true rfl)⟩) rfl rfl hl.1 (Nat.le_of_ble_eq_true rfl) dL_law_676 ⟨(Nat.le_of_ble_eq_true rfl), (Nat.le_of_ble_eq_true rfl)⟩ (fun r1 g1 H1 locs1 h1 hH1 => ?_)
  obtain ⟨e1, hC, f1⟩ := h1
  have hM := hM.same f1
  refine lv_aload_n hx hb dL_law_679 rfl (lv_at hl 2 rfl) ?_
  refine law_arg 680 1 hx hb hX hbl hbA hH1.2 hl (by omega) hL dL_law_680 dL_law_681 dL_law_682 (by decide) dL_law_683 dL_law_684 ?_
  refine law_arg 685 2 hx hb hX hbl hbA hH1.2 hl (by omega) hL dL_law_685 dL_law_686 dL_law_687 (by decide) dL_law_688 dL_law_689 ?_
  refine law_arg 690 3 hx hb hX hbl hbA hH1.2 hl (by omega) hL dL_law_690 dL_law_691 dL_law_692 (by decide) dL_law_693 dL_law_694 ?_
  obtain ⟨fs6, h36⟩ := mod_g36 hM
  refine rc_Vi (rest := [.int r1]) C0 FX hH1 36 (by decide) h36 rfl (k_X6_fault l X ad FX.2.1 _ _ _ _ _ _ _ _ _ _ _ _ _ _ hM (xs (k + 1)) (xs (k + 2)) (xs (k + 3))) (cwV 3 hts gL_law_X6_fault rfl rfl rfl (by decide +kernel) ⟨(Nat.le_of_ble_eq_true rfl), (Nat.le_of_ble_eq_true rfl)⟩) rfl rfl hl.1 (Nat.le_of_ble_eq_true rfl) dL_law_695 ⟨(Nat.le_of_ble_eq_true rfl), (Nat.le_of_ble_eq_true rfl)⟩ (fun r2 g2 H2 locs2 h2 hH2 => ?_)
  obtain ⟨e2, hM, f2⟩ := h2
  have hC := hC.same f2
  refine lv_icmp_eq (tgt := 1082) hx hb dL_law_698 (by decide) (fun _ => ?_) (fun cc => absurd (e1.trans e2.symm) cc)
  exact KK _ _ _ _ ⟨hC, hM, hH2⟩
set_option maxHeartbeats 4000000 in
set_option maxRecDepth 100000 in
theorem law_c15 {p : Program} {l : Launch} {e : Env} {s : State} {m : MethodId} {below : List Frame} {meth : Method} {c : Code} {Q : State → Prop} {b L k : Nat} {xs : Nat → Int32} {X : Cx} {ad : Nat → Nat} {ls : Array Slot} (F : LawFix p s m c b L xs X ad) (hk : k + 6 ≤ L) (hl : lv_has ls 4 [(0, .ref b), (1, .ref (ad 0)), (2, .ref (ad 36)), (3, .int (nI k))]) (KK : ∀ (C : ClS) (g : PF) (H : Heap) (locs : List Loc), LawInv X ad s C g H locs → W p l e room_1 s m #[Value.ref b] below meth c H locs 48 7025 Q (F0 m 1082 ls [])) : ∀ (C : ClS) (g : PF) (H : Heap) (locs : List Loc), LawInv X ad s C g H locs → W p l e room_1 s m #[Value.ref b] below meth c H locs 48 7025 Q (F0 m 703 ls []) := by
  obtain ⟨C0, FX, hX, hbl, hL⟩ := F
  obtain ⟨hx, hb, hml, hown, hts⟩ := id C0
  have hbA : ¬ (fun q : Nat => s.heap.size ≤ q) b := Nat.not_le.mpr hbl
  intro C g H locs hI
  obtain ⟨⟨nm, fa, fb, mc, rd⟩, nr, ar, nb, num, lay, pev, pln, tr⟩ := C
  obtain ⟨hC, hM, hH⟩ := hI
  refine lv_aload_n hx hb dL_law_703 rfl (lv_at hl 1 rfl) ?_
  refine law_arg 704 1 hx hb hX hbl hbA hH.2 hl (by omega) hL dL_law_704 dL_law_705 dL_law_706 (by decide) dL_law_707 dL_law_708 ?_
  refine law_arg 709 2 hx hb hX hbl hbA hH.2 hl (by omega) hL dL_law_709 dL_law_710 dL_law_711 (by decide) dL_law_712 dL_law_713 ?_
  refine rc_Vl (rest := []) C0 FX hH 0 (by decide) hC.1.1 rfl (k_X5_about l X ad FX.2.1 _ _ hC (xs (k + 1)) (xs (k + 2))) (cwV 2 hts gL_law_X5_about rfl rfl rfl (by decide +kernel) ⟨(Nat.le_of_ble_eq_true rfl), (Nat.le_of_ble_eq_true rfl)⟩) rfl rfl hl.1 (Nat.le_of_ble_eq_true rfl) dL_law_714 ⟨(Nat.le_of_ble_eq_true rfl), (Nat.le_of_ble_eq_true rfl)⟩ (fun r1 g1 H1 locs1 h1 hH1 => ?_)
  obtain ⟨rfl, e1⟩ := h1
  refine lv_aload_n hx hb dL_law_717 rfl (lv_at hl 2 rfl) ?_
  refine law_arg 718 1 hx hb hX hbl hbA hH1.2 hl (by omega) hL dL_law_718 dL_law_719 dL_law_720 (by decide) dL_law_721 dL_law_722 ?_
  refine law_arg 723 2 hx hb hX hbl hbA hH1.2 hl (by omega) hL dL_law_723 dL_law_724 dL_law_725 (by decide) dL_law_726 dL_law_727 ?_
  obtain ⟨fs6, h36⟩ := mod_g36 hM
  refine rc_Vl (rest := [.long r1]) C0 FX hH1 36 (by decide) h36 rfl (k_X6_about l X ad FX.2.1 _ _ _ _ _ _ _ _ _ _ _ _ _ _ hM (xs (k + 1)) (xs (k + 2))) (cwV 2 hts gL_law_X6_about rfl rfl rfl (by decide +kernel) ⟨(Nat.le_of_ble_eq_true rfl), (Nat.le_of_ble_eq_true rfl)⟩) rfl rfl hl.1 (Nat.le_of_ble_eq_true rfl) dL_law_728 ⟨(Nat.le_of_ble_eq_true rfl), (Nat.le_of_ble_eq_true rfl)⟩ (fun r2 g2 H2 locs2 h2 hH2 => ?_)
  obtain ⟨rfl, e2⟩ := h2
  refine lc_eq hx hb 1082 dL_law_731 dL_law_732 (by decide) (fun _ => ?_) (fun cc => absurd (e1.trans e2.symm) cc)
  exact KK _ _ _ _ ⟨hC, hM, hH2⟩
set_option maxHeartbeats 4000000 in
set_option maxRecDepth 100000 in
theorem law_c16 {p : Program} {l : Launch} {e : Env} {s : State} {m : MethodId} {below : List Frame} {meth : Method} {c : Code} {Q : State → Prop} {b L k : Nat} {xs : Nat → Int32} {X : Cx} {ad : Nat → Nat} {ls : Array Slot} (F : LawFix p s m c b L xs X ad) (hk : k + 6 ≤ L) (hl : lv_has ls 4 [(0, .ref b), (1, .ref (ad 0)), (2, .ref (ad 36)), (3, .int (nI k))]) (KK : ∀ (C : ClS) (g : PF) (H : Heap) (locs : List Loc), LawInv X ad s C g H locs → W p l e room_1 s m #[Value.ref b] below meth c H locs 48 7025 Q (F0 m 1082 ls [])) : ∀ (C : ClS) (g : PF) (H : Heap) (locs : List Loc), LawInv X ad s C g H locs → W p l e room_1 s m #[Value.ref b] below meth c H locs 48 7025 Q (F0 m 737 ls []) := by
  obtain ⟨C0, FX, hX, hbl, hL⟩ := F
  obtain ⟨hx, hb, hml, hown, hts⟩ := id C0
  have hbA : ¬ (fun q : Nat => s.heap.size ≤ q) b := Nat.not_le.mpr hbl
  intro C g H locs hI
  obtain ⟨⟨nm, fa, fb, mc, rd⟩, nr, ar, nb, num, lay, pev, pln, tr⟩ := C
  obtain ⟨hC, hM, hH⟩ := hI
  refine lv_aload_n hx hb dL_law_737 rfl (lv_at hl 1 rfl) ?_
  refine law_arg 738 1 hx hb hX hbl hbA hH.2 hl (by omega) hL dL_law_738 dL_law_739 dL_law_740 (by decide) dL_law_741 dL_law_742 ?_
  refine law_arg 743 2 hx hb hX hbl hbA hH.2 hl (by omega) hL dL_law_743 dL_law_744 dL_law_745 (by decide) dL_law_746 dL_law_747 ?_
  refine rc_Vl (rest := []) C0 FX hH 0 (by decide) hC.1.1 rfl (k_X5_wave l X ad FX.2.1 _ _ hC (xs (k + 1)) (xs (k + 2))) (cwV 2 hts gL_law_X5_wave rfl rfl rfl (by decide +kernel) ⟨(Nat.le_of_ble_eq_true rfl), (Nat.le_of_ble_eq_true rfl)⟩) rfl rfl hl.1 (Nat.le_of_ble_eq_true rfl) dL_law_748 ⟨(Nat.le_of_ble_eq_true rfl), (Nat.le_of_ble_eq_true rfl)⟩ (fun r1 g1 H1 locs1 h1 hH1 => ?_)
  obtain ⟨rfl, e1⟩ := h1
  refine lv_aload_n hx hb dL_law_751 rfl (lv_at hl 2 rfl) ?_
  refine law_arg 752 1 hx hb hX hbl hbA hH1.2 hl (by omega) hL dL_law_752 dL_law_753 dL_law_754 (by decide) dL_law_755 dL_law_756 ?_
  refine law_arg 757 2 hx hb hX hbl hbA hH1.2 hl (by omega) hL dL_law_757 dL_law_758 dL_law_759 (by decide) dL_law_760 dL_law_761 ?_
  obtain ⟨fs6, h36⟩ := mod_g36 hM
  refine rc_Vl (rest := [.long r1]) C0 FX hH1 36 (by decide) h36 rfl (k_X6_wave l X ad FX.2.1 _ _ _ _ _ _ _ _ _ _ _ _ _ _ hM (xs (k + 1)) (xs (k + 2))) (cwV 2 hts gL_law_X6_wave rfl rfl rfl (by decide +kernel) ⟨(Nat.le_of_ble_eq_true rfl), (Nat.le_of_ble_eq_true rfl)⟩) rfl rfl hl.1 (Nat.le_of_ble_eq_true rfl) dL_law_762 ⟨(Nat.le_of_ble_eq_true rfl), (Nat.le_of_ble_eq_true rfl)⟩ (fun r2 g2 H2 locs2 h2 hH2 => ?_)
  obtain ⟨rfl, e2⟩ := h2
  refine lc_eq hx hb 1082 dL_law_765 dL_law_766 (by decide) (fun _ => ?_) (fun cc => absurd (e1.trans e2.symm) cc)
  exact KK _ _ _ _ ⟨hC, hM, hH2⟩
set_option maxHeartbeats 4000000 in
set_option maxRecDepth 100000 in
theorem law_c17 {p : Program} {l : Launch} {e : Env} {s : State} {m : MethodId} {below : List Frame} {meth : Method} {c : Code} {Q : State → Prop} {b L k : Nat} {xs : Nat → Int32} {X : Cx} {ad : Nat → Nat} {ls : Array Slot} (F : LawFix p s m c b L xs X ad) (hk : k + 6 ≤ L) (hl : lv_has ls 4 [(0, .ref b), (1, .ref (ad 0)), (2, .ref (ad 36)), (3, .int (nI k))]) (KK : ∀ (C : ClS) (g : PF) (H : Heap) (locs : List Loc), LawInv X ad s C g H locs → W p l e room_1 s m #[Value.ref b] below meth c H locs 48 7025 Q (F0 m 1082 ls [])) : ∀ (C : ClS) (g : PF) (H : Heap) (locs : List Loc), LawInv X ad s C g H locs → W p l e room_1 s m #[Value.ref b] below meth c H locs 48 7025 Q (F0 m 771 ls []) := by
  obtain ⟨C0, FX, hX, hbl, hL⟩ := F
  obtain ⟨hx, hb, hml, hown, hts⟩ := id C0
  have hbA : ¬ (fun q : Nat => s.heap.size ≤ q) b := Nat.not_le.mpr hbl
  intro C g H locs hI
  obtain ⟨⟨nm, fa, fb, mc, rd⟩, nr, ar, nb, num, lay, pev, pln, tr⟩ := C
  obtain ⟨hC, hM, hH⟩ := hI
  refine lv_aload_n hx hb dL_law_771 rfl (lv_at hl 1 rfl) ?_
  refine law_arg 772 1 hx hb hX hbl hbA hH.2 hl (by omega) hL dL_law_772 dL_law_773 dL_law_774 (by decide) dL_law_775 dL_law_776 ?_
  refine law_arg 777 2 hx hb hX hbl hbA hH.2 hl (by omega) hL dL_law_777 dL_law_778 dL_law_779 (by decide) dL_law_780 dL_law_781 ?_
  refine rc_Vi (rest := []) C0 FX hH 0 (by decide) hC.1.1 rfl (k_X5_greatest l X ad FX.2.1 _ _ hC (xs (k + 1)) (xs (k + 2))) (cwV 2 hts gL_law_X5_greatest rfl rfl rfl (by decide +kernel) ⟨(Nat.le_of_ble_eq_true rfl), (Nat.le_of_ble_eq_true rfl)⟩) rfl rfl hl.1 (Nat.le_of_ble_eq_true rfl) dL_law_782 ⟨(Nat.le_of_ble_eq_true rfl), (Nat.le_of_ble_eq_true rfl)⟩ (fun r1 g1 H1 locs1 h1 hH1 => ?_)
  obtain ⟨rfl, e1⟩ := h1
  refine lv_aload_n hx hb dL_law_785 rfl (lv_at hl 2 rfl) ?_
  refine law_arg 786 1 hx hb hX hbl hbA hH1.2 hl (by omega) hL dL_law_786 dL_law_787 dL_law_788 (by decide) dL_law_789 dL_law_790 ?_
  refine law_arg 791 2 hx hb hX hbl hbA hH1.2 hl (by omega) hL dL_law_791 dL_law_792 dL_law_793 (by decide) dL_law_794 dL_law_795 ?_
  obtain ⟨fs6, h36⟩ := mod_g36 hM
  refine rc_Vi (rest := [.int r1]) C0 FX hH1 36 (by decide) h36 rfl (k_X6_greatest l X ad FX.2.1 _ _ _ _ _ _ _ _ _ _ _ _ _ _ hM (xs (k + 1)) (xs (k + 2))) (cwV 2 hts gL_law_X6_greatest rfl rfl rfl (by decide +kernel) ⟨(Nat.le_of_ble_eq_true rfl), (Nat.le_of_ble_eq_true rfl)⟩) rfl rfl hl.1 (Nat.le_of_ble_eq_true rfl) dL_law_796 ⟨(Nat.le_of_ble_eq_true rfl), (Nat.le_of_ble_eq_true rfl)⟩ (fun r2 g2 H2 locs2 h2 hH2 => ?_)
  obtain ⟨rfl, e2⟩ := h2
  refine lv_icmp_eq (tgt := 1082) hx hb dL_law_799 (by decide) (fun _ => ?_) (fun cc => absurd (e1.trans e2.symm) cc)
  exact KK _ _ _ _ ⟨hC, hM, hH2⟩
