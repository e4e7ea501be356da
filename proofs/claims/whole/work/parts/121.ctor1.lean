theorem nwa (n : Nat) (cA : ClassId) : vp_cell cA (n, .inl (fun _ => nI 0)) = arrV cA n (fun _ => defaultValue .int) := rfl
set_option maxHeartbeats 4000000 in
set_option maxRecDepth 100000 in
theorem c_X0_init (l : Launch) (X : Cx) (h0 : Nat) : Kc l yX0_init wsX0_init ({ frames := 1, cells := 0, slots := 0, locals := 12 }) X [(h0, .inr (0, [.long (lN 0), .long (lN 0)]))] [.ref h0] 0 0 (fun u => [(h0, .inr (0, [.long (lN 1), .long (lN 1)]))]) := by
  refine Kc.of (cc := cX0_init) (maxL := 1) (by decide) rfl (Nat.le_of_ble_eq_true rfl) ?_
  intro p e s m below meth c Q E RET ls hl
  obtain ⟨C0, hP, hD, hWK, hO, hin, hS, hA⟩ := E
  obtain ⟨hx, hb, hml, hown, hts⟩ := id C0
  have hK := hWK.1
  have hl : lv_has ls 1 [(0, .ref h0)] := hl
  generalize va_A [(h0, .inr (0, [.long (lN 0), .long (lN 0)]))] s.heap.size = A at hD hS hA RET
  obtain ⟨H, hHg⟩ : ∃ H, H = s.heap := ⟨_, rfl⟩
  rw [← hHg] at hP ⊢
  have hS : va_S A s.heap H [] := by rw [hHg]; exact hS
  refine lv_aload_n hx hb dX0_init_0 rfl (lv_at hl 0 rfl) ?_
  refine W.objInit hx hb hown (hts (.methodLink RX0 1 objectInit) (by decide +kernel)) (hts (.instanceMethod objectInit) (by decide +kernel)) (hts (.code objectInit ⟨#[0xb1]⟩ 1 none) (by decide +kernel)) rfl (by rw [hml]; exact hl.1) rfl dX0_init_1 (Nat.le_of_ble_eq_true rfl) (Nat.le_of_ble_eq_true rfl) ?_
  refine W.eq (g2 := F0 m 4 ls []) rfl ?_
  refine lv_aload_n hx hb dX0_init_4 rfl (lv_at hl 0 rfl) ?_
  refine lv_lconst (v := lN 1) hx hb dX0_init_5 (by decide) ?_
  refine va_put (D := X.1) (ci := 0) (v := .long (lN 1)) (ty := .long) (C := RX0) (T := TX0) (N := 2) hx hb hts (by decide +kernel) tyX0 tyX0_ok nmX0 hown hK hP hD hS 0 rfl rfl 0 (by decide) (hts (.fieldLink RX0 7 "YarnMill$Fraction" "above" "J") (by decide +kernel)) (fun _ h9 => h9) rfl (by decide +kernel) rfl rfl (Nat.le_of_ble_eq_true rfl) dX0_init_6 (fun H locs hP hD hS => ?_)
  have hP : va_P X.1 vwCl [(h0, .inr (0, [.long (lN 1), .long (lN 0)]))] H := hP
  have hD : va_D A [(h0, .inr (0, [.long (lN 1), .long (lN 0)]))] := hD
  refine lv_aload_n hx hb dX0_init_9 rfl (lv_at hl 0 rfl) ?_
  refine lv_lconst (v := lN 1) hx hb dX0_init_10 (by decide) ?_
  refine va_put (D := X.1) (ci := 0) (v := .long (lN 1)) (ty := .long) (C := RX0) (T := TX0) (N := 2) hx hb hts (by decide +kernel) tyX0 tyX0_ok nmX0 hown hK hP hD hS 0 rfl rfl 1 (by decide) (hts (.fieldLink RX0 13 "YarnMill$Fraction" "below" "J") (by decide +kernel)) (fun _ h9 => h9) rfl (by decide +kernel) rfl rfl (Nat.le_of_ble_eq_true rfl) dX0_init_11 (fun H locs hP hD hS => ?_)
  have hP : va_P X.1 vwCl [(h0, .inr (0, [.long (lN 1), .long (lN 1)]))] H := hP
  have hD : va_D A [(h0, .inr (0, [.long (lN 1), .long (lN 1)]))] := hD
  have hP9 := hP.sub (ws' := [(h0, .inr (0, [.long (lN 1), .long (lN 1)]))]) [0] rfl
  have hD9 := hD.sub (ws' := [(h0, .inr (0, [.long (lN 1), .long (lN 1)]))]) [0] (by decide) rfl
  exact RET _ _ _ (fun k => ([] : List Nat).getD k 0) H _ ls dX0_init_14 (Nat.le_of_ble_eq_true rfl) (Nat.le_of_ble_eq_true rfl) hP9 hD9 hS
set_option maxHeartbeats 4000000 in
set_option maxRecDepth 100000 in
theorem c_X2_init (l : Launch) (X : Cx) (h0 : Nat) : Kc l yX2_init wsX2_init ({ frames := 1, cells := 1, slots := 3, locals := 12 }) X [(h0, .inr (2, [.int (nI 0), .int (nI 0), .int (nI 0), .int (nI 0), .int (nI 0), .null]))] [.ref h0] 1 3 (fun u => [(h0, .inr (2, [.int (nI 0), .int (nI 0), .int (nI 0), .int (nI 0), .int (nI 0), .ref (u 0)])), ((u 0), arr X 3 (fun _ => 0))]) := by
  refine Kc.of (cc := cX2_init) (maxL := 1) (by decide) rfl (Nat.le_of_ble_eq_true rfl) ?_
  intro p e s m below meth c Q E RET ls hl
  obtain ⟨C0, hP, hD, hWK, hO, hin, hS, hA⟩ := E
  obtain ⟨hx, hb, hml, hown, hts⟩ := id C0
  have hK := hWK.1
  have hl : lv_has ls 1 [(0, .ref h0)] := hl
  generalize va_A [(h0, .inr (2, [.int (nI 0), .int (nI 0), .int (nI 0), .int (nI 0), .int (nI 0), .null]))] s.heap.size = A at hD hS hA RET
  obtain ⟨H, hHg⟩ : ∃ H, H = s.heap := ⟨_, rfl⟩
  rw [← hHg] at hP ⊢
  have hS : va_S A s.heap H [] := by rw [hHg]; exact hS
  refine lv_aload_n hx hb dX2_init_0 rfl (lv_at hl 0 rfl) ?_
  refine W.objInit hx hb hown (hts (.methodLink RX2 1 objectInit) (by decide +kernel)) (hts (.instanceMethod objectInit) (by decide +kernel)) (hts (.code objectInit ⟨#[0xb1]⟩ 1 none) (by decide +kernel)) rfl (by rw [hml]; exact hl.1) rfl dX2_init_1 (Nat.le_of_ble_eq_true rfl) (Nat.le_of_ble_eq_true rfl) ?_
  refine W.eq (g2 := F0 m 4 ls []) rfl ?_
  refine lv_aload_n hx hb dX2_init_4 rfl (lv_at hl 0 rfl) ?_
  refine lv_iconst (v := nI 3) hx hb dX2_init_5 (by decide) ?_
  refine va_newa (atype := .int) (a0 := (3, .inl (fun _ => nI 0))) hx hb (hts (.arrayClass .int) (by decide +kernel)) (ty := .int) rfl hK hP hD hS hA (N' := 3) (nwa 3) (nI_pos (by decide)) (nI_clamp (by decide)) (by decide) (Nat.le_of_ble_eq_true rfl) (Nat.le_of_ble_eq_true rfl) dX2_init_6 (fun q1 cA H hKn hP hD hS => ?_)
  obtain rfl := arr_cI hK hKn
  have hP : va_P X.1 vwCl [(h0, .inr (2, [.int (nI 0), .int (nI 0), .int (nI 0), .int (nI 0), .int (nI 0), .null])), (q1, arr X 3 (fun _ => 0))] H := hP
  have hD : va_D A [(h0, .inr (2, [.int (nI 0), .int (nI 0), .int (nI 0), .int (nI 0), .int (nI 0), .null])), (q1, arr X 3 (fun _ => 0))] := hD
  refine W.widen (k := 1) (n := 3) (Nat.le_of_ble_eq_true rfl) (Nat.le_of_ble_eq_true rfl) ?_
  refine va_putF (D := X.1) (ci := 2) (v := .ref q1) (ty := .array .int) (C := RX2) (T := TX2) (N := 6) hx hb hts (by decide +kernel) tyX2 tyX2_ok nmX2 hown hK hP hD hS 0 rfl rfl 5 (by decide) (hts (.fieldLink RX2 9 "YarnMill$Machine" "rounds" "[I") (by decide +kernel)) (fun _ h9 => h9) rfl hin rfl (by decide +kernel) rfl rfl (Nat.le_of_ble_eq_true rfl) dX2_init_8 (fun H locs hP hD hS => ?_)
  have hP : va_P X.1 vwCl [(h0, .inr (2, [.int (nI 0), .int (nI 0), .int (nI 0), .int (nI 0), .int (nI 0), .ref q1])), (q1, arr X 3 (fun _ => 0))] H := hP
  have hD : va_D A [(h0, .inr (2, [.int (nI 0), .int (nI 0), .int (nI 0), .int (nI 0), .int (nI 0), .ref q1])), (q1, arr X 3 (fun _ => 0))] := hD
  have hP9 := hP.sub (ws' := [(h0, .inr (2, [.int (nI 0), .int (nI 0), .int (nI 0), .int (nI 0), .int (nI 0), .ref q1])), (q1, arr X 3 (fun _ => 0))]) [0, 1] rfl
  have hD9 := hD.sub (ws' := [(h0, .inr (2, [.int (nI 0), .int (nI 0), .int (nI 0), .int (nI 0), .int (nI 0), .ref q1])), (q1, arr X 3 (fun _ => 0))]) [0, 1] (by decide) rfl
  exact RET _ _ _ (fun k => ([q1] : List Nat).getD k 0) H _ ls dX2_init_11 (Nat.le_of_ble_eq_true rfl) (Nat.le_of_ble_eq_true rfl) hP9 hD9 hS
set_option maxHeartbeats 4000000 in
set_option maxRecDepth 100000 in
theorem c_X3_init (l : Launch) (X : Cx) (h0 : Nat) : Kc l yX3_init wsX3_init ({ frames := 1, cells := 1, slots := 400, locals := 12 }) X [(h0, .inr (3, [.int (nI 0), .null]))] [.ref h0] 1 400 (fun u => [(h0, .inr (3, [.int (nI 0), .ref (u 0)])), ((u 0), arr X 400 (fun _ => 0))]) := by
  refine Kc.of (cc := cX3_init) (maxL := 1) (by decide) rfl (Nat.le_of_ble_eq_true rfl) ?_
  intro p e s m below meth c Q E RET ls hl
  obtain ⟨C0, hP, hD, hWK, hO, hin, hS, hA⟩ := E
  obtain ⟨hx, hb, hml, hown, hts⟩ := id C0
  have hK := hWK.1
  have hl : lv_has ls 1 [(0, .ref h0)] := hl
  generalize va_A [(h0, .inr (3, [.int (nI 0), .null]))] s.heap.size = A at hD hS hA RET
  obtain ⟨H, hHg⟩ : ∃ H, H = s.heap := ⟨_, rfl⟩
  rw [← hHg] at hP ⊢
  have hS : va_S A s.heap H [] := by rw [hHg]; exact hS
  refine lv_aload_n hx hb dX3_init_0 rfl (lv_at hl 0 rfl) ?_
  refine W.objInit hx hb hown (hts (.methodLink RX3 3 objectInit) (by decide +kernel)) (hts (.instanceMethod objectInit) (by decide +kernel)) (hts (.code objectInit ⟨#[0xb1]⟩ 1 none) (by decide +kernel)) rfl (by rw [hml]; exact hl.1) rfl dX3_init_1 (Nat.le_of_ble_eq_true rfl) (Nat.le_of_ble_eq_true rfl) ?_
  refine W.eq (g2 := F0 m 4 ls []) rfl ?_
  refine lv_aload_n hx hb dX3_init_4 rfl (lv_at hl 0 rfl) ?_
  refine lv_sipush (v := nI 400) hx hb dX3_init_5 (by decide) ?_
  refine va_newa (atype := .int) (a0 := (400, .inl (fun _ => nI 0))) hx hb (hts (.arrayClass .int) (by decide +kernel)) (ty := .int) rfl hK hP hD hS hA (N' := 400) (nwa 400) (nI_pos (by decide)) (nI_clamp (by decide)) (by decide) (Nat.le_of_ble_eq_true rfl) (Nat.le_of_ble_eq_true rfl) dX3_init_8 (fun q1 cA H hKn hP hD hS => ?_)
  obtain rfl := arr_cI hK hKn
  have hP : va_P X.1 vwCl [(h0, .inr (3, [.int (nI 0), .null])), (q1, arr X 400 (fun _ => 0))] H := hP
  have hD : va_D A [(h0, .inr (3, [.int (nI 0), .null])), (q1, arr X 400 (fun _ => 0))] := hD
  refine W.widen (k := 1) (n := 400) (Nat.le_of_ble_eq_true rfl) (Nat.le_of_ble_eq_true rfl) ?_
  refine va_putF (D := X.1) (ci := 3) (v := .ref q1) (ty := .array .int) (C := RX3) (T := TX3) (N := 2) hx hb hts (by decide +kernel) tyX3 tyX3_ok nmX3 hown hK hP hD hS 0 rfl rfl 1 (by decide) (hts (.fieldLink RX3 11 "YarnMill$Row" "cells" "[I") (by decide +kernel)) (fun _ h9 => h9) rfl hin rfl (by decide +kernel) rfl rfl (Nat.le_of_ble_eq_true rfl) dX3_init_10 (fun H locs hP hD hS => ?_)
  have hP : va_P X.1 vwCl [(h0, .inr (3, [.int (nI 0), .ref q1])), (q1, arr X 400 (fun _ => 0))] H := hP
  have hD : va_D A [(h0, .inr (3, [.int (nI 0), .ref q1])), (q1, arr X 400 (fun _ => 0))] := hD
  have hP9 := hP.sub (ws' := [(h0, .inr (3, [.int (nI 0), .ref q1])), (q1, arr X 400 (fun _ => 0))]) [0, 1] rfl
  have hD9 := hD.sub (ws' := [(h0, .inr (3, [.int (nI 0), .ref q1])), (q1, arr X 400 (fun _ => 0))]) [0, 1] (by decide) rfl
  exact RET _ _ _ (fun k => ([q1] : List Nat).getD k 0) H _ ls dX3_init_13 (Nat.le_of_ble_eq_true rfl) (Nat.le_of_ble_eq_true rfl) hP9 hD9 hS
set_option maxHeartbeats 4000000 in
set_option maxRecDepth 100000 in
theorem c_X4_init (l : Launch) (X : Cx) (h0 : Nat) : Kc l yX4_init wsX4_init ({ frames := 1, cells := 2, slots := 24, locals := 12 }) X [(h0, .inr (4, [.int (nI 0), .int (nI 0), .int (nI 0), .int (nI 0), .int (nI 0), .int (nI 0), .int (nI 0), .null, .null]))] [.ref h0] 2 24 (fun u => [(h0, .inr (4, [.int (nI 0), .int (nI 0), .int (nI 0), .int (nI 1), .int (nI 0), .int (nI 0), .int (nI 0), .ref (u 0), .ref (u 1)])), ((u 0), arr X 12 (fun _ => 0)), ((u 1), arr X 12 (fun _ => 0))]) := by
  refine Kc.of (cc := cX4_init) (maxL := 1) (by decide) rfl (Nat.le_of_ble_eq_true rfl) ?_
  intro p e s m below meth c Q E RET ls hl
  obtain ⟨C0, hP, hD, hWK, hO, hin, hS, hA⟩ := E
  obtain ⟨hx, hb, hml, hown, hts⟩ := id C0
  have hK := hWK.1
  have hl : lv_has ls 1 [(0, .ref h0)] := hl
  generalize va_A [(h0, .inr (4, [.int (nI 0), .int (nI 0), .int (nI 0), .int (nI 0), .int (nI 0), .int (nI 0), .int (nI 0), .null, .null]))] s.heap.size = A at hD hS hA RET
  obtain ⟨H, hHg⟩ : ∃ H, H = s.heap := ⟨_, rfl⟩
  rw [← hHg] at hP ⊢
  have hS : va_S A s.heap H [] := by rw [hHg]; exact hS
  refine lv_aload_n hx hb dX4_init_0 rfl (lv_at hl 0 rfl) ?_
  refine W.objInit hx hb hown (hts (.methodLink RX4 3 objectInit) (by decide +kernel)) (hts (.instanceMethod objectInit) (by decide +kernel)) (hts (.code objectInit ⟨#[0xb1]⟩ 1 none) (by decide +kernel)) rfl (by rw [hml]; exact hl.1) rfl dX4_init_1 (Nat.le_of_ble_eq_true rfl) (Nat.le_of_ble_eq_true rfl) ?_
  refine W.eq (g2 := F0 m 4 ls []) rfl ?_
  refine lv_aload_n hx hb dX4_init_4 rfl (lv_at hl 0 rfl) ?_
  refine lv_iconst (v := nI 1) hx hb dX4_init_5 (by decide) ?_
  refine va_put (D := X.1) (ci := 4) (v := .int (nI 1)) (ty := .int) (C := RX4) (T := TX4) (N := 9) hx hb hts (by decide +kernel) tyX4 tyX4_ok nmX4 hown hK hP hD hS 0 rfl rfl 3 (by decide) (hts (.fieldLink RX4 9 "YarnMill$Store" "each" "I") (by decide +kernel)) (fun _ h9 => h9) rfl (by decide +kernel) rfl rfl (Nat.le_of_ble_eq_true rfl) dX4_init_6 (fun H locs hP hD hS => ?_)
  have hP : va_P X.1 vwCl [(h0, .inr (4, [.int (nI 0), .int (nI 0), .int (nI 0), .int (nI 1), .int (nI 0), .int (nI 0), .int (nI 0), .null, .null]))] H := hP
  have hD : va_D A [(h0, .inr (4, [.int (nI 0), .int (nI 0), .int (nI 0), .int (nI 1), .int (nI 0), .int (nI 0), .int (nI 0), .null, .null]))] := hD
  refine lv_aload_n hx hb dX4_init_9 rfl (lv_at hl 0 rfl) ?_
  refine lv_bipush (v := nI 12) hx hb dX4_init_10 (by decide) ?_
  refine va_newa (atype := .int) (a0 := (12, .inl (fun _ => nI 0))) hx hb (hts (.arrayClass .int) (by decide +kernel)) (ty := .int) rfl hK hP hD hS hA (N' := 12) (nwa 12) (nI_pos (by decide)) (nI_clamp (by decide)) (by decide) (Nat.le_of_ble_eq_true rfl) (Nat.le_of_ble_eq_true rfl) dX4_init_12 (fun q1 cA H hKn hP hD hS => ?_)
  obtain rfl := arr_cI hK hKn
  have hP : va_P X.1 vwCl [(h0, .inr (4, [.int (nI 0), .int (nI 0), .int (nI 0), .int (nI 1), .int (nI 0), .int (nI 0), .int (nI 0), .null, .null])), (q1, arr X 12 (fun _ => 0))] H := hP
  have hD : va_D A [(h0, .inr (4, [.int (nI 0), .int (nI 0), .int (nI 0), .int (nI 1), .int (nI 0), .int (nI 0), .int (nI 0), .null, .null])), (q1, arr X 12 (fun _ => 0))] := hD
  refine W.widen (k := 1) (n := 12) (Nat.le_of_ble_eq_true rfl) (Nat.le_of_ble_eq_true rfl) ?_
  refine va_putF (D := X.1) (ci := 4) (v := .ref q1) (ty := .array .int) (C := RX4) (T := TX4) (N := 9) hx hb hts (by decide +kernel) tyX4 tyX4_ok nmX4 hown hK hP hD hS 0 rfl rfl 7 (by decide) (hts (.fieldLink RX4 15 "YarnMill$Store" "numbers" "[I") (by decide +kernel)) (fun _ h9 => h9) rfl hin rfl (by decide +kernel) rfl rfl (Nat.le_of_ble_eq_true rfl) dX4_init_14 (fun H locs hP hD hS => ?_)
  have hP : va_P X.1 vwCl [(h0, .inr (4, [.int (nI 0), .int (nI 0), .int (nI 0), .int (nI 1), .int (nI 0), .int (nI 0), .int (nI 0), .ref q1, .null])), (q1, arr X 12 (fun _ => 0))] H := hP
  have hD : va_D A [(h0, .inr (4, [.int (nI 0), .int (nI 0), .int (nI 0), .int (nI 1), .int (nI 0), .int (nI 0), .int (nI 0), .ref q1, .null])), (q1, arr X 12 (fun _ => 0))] := hD
  refine lv_aload_n hx hb dX4_init_17 rfl (lv_at hl 0 rfl) ?_
  refine lv_bipush (v := nI 12) hx hb dX4_init_18 (by decide) ?_
  refine va_newa (atype := .int) (a0 := (12, .inl (fun _ => nI 0))) hx hb (hts (.arrayClass .int) (by decide +kernel)) (ty := .int) rfl hK hP hD hS hA (N' := 12) (nwa 12) (nI_pos (by decide)) (nI_clamp (by decide)) (by decide) (Nat.le_of_ble_eq_true rfl) (Nat.le_of_ble_eq_true rfl) dX4_init_20 (fun q2 cA H hKn hP hD hS => ?_)
  obtain rfl := arr_cI hK hKn
  have hP : va_P X.1 vwCl [(h0, .inr (4, [.int (nI 0), .int (nI 0), .int (nI 0), .int (nI 1), .int (nI 0), .int (nI 0), .int (nI 0), .ref q1, .null])), (q1, arr X 12 (fun _ => 0)), (q2, arr X 12 (fun _ => 0))] H := hP
  have hD : va_D A [(h0, .inr (4, [.int (nI 0), .int (nI 0), .int (nI 0), .int (nI 1), .int (nI 0), .int (nI 0), .int (nI 0), .ref q1, .null])), (q1, arr X 12 (fun _ => 0)), (q2, arr X 12 (fun _ => 0))] := hD
  refine W.widen (k := 2) (n := 24) (Nat.le_of_ble_eq_true rfl) (Nat.le_of_ble_eq_true rfl) ?_
  refine va_putF (D := X.1) (ci := 4) (v := .ref q2) (ty := .array .int) (C := RX4) (T := TX4) (N := 9) hx hb hts (by decide +kernel) tyX4 tyX4_ok nmX4 hown hK hP hD hS 0 rfl rfl 8 (by decide) (hts (.fieldLink RX4 19 "YarnMill$Store" "order" "[I") (by decide +kernel)) (fun _ h9 => h9) rfl hin rfl (by decide +kernel) rfl rfl (Nat.le_of_ble_eq_true rfl) dX4_init_22 (fun H locs hP hD hS => ?_)
  have hP : va_P X.1 vwCl [(h0, .inr (4, [.int (nI 0), .int (nI 0), .int (nI 0), .int (nI 1), .int (nI 0), .int (nI 0), .int (nI 0), .ref q1, .ref q2])), (q1, arr X 12 (fun _ => 0)), (q2, arr X 12 (fun _ => 0))] H := hP
  have hD : va_D A [(h0, .inr (4, [.int (nI 0), .int (nI 0), .int (nI 0), .int (nI 1), .int (nI 0), .int (nI 0), .int (nI 0), .ref q1, .ref q2])), (q1, arr X 12 (fun _ => 0)), (q2, arr X 12 (fun _ => 0))] := hD
  have hP9 := hP.sub (ws' := [(h0, .inr (4, [.int (nI 0), .int (nI 0), .int (nI 0), .int (nI 1), .int (nI 0), .int (nI 0), .int (nI 0), .ref q1, .ref q2])), (q1, arr X 12 (fun _ => 0)), (q2, arr X 12 (fun _ => 0))]) [0, 1, 2] rfl
  have hD9 := hD.sub (ws' := [(h0, .inr (4, [.int (nI 0), .int (nI 0), .int (nI 0), .int (nI 1), .int (nI 0), .int (nI 0), .int (nI 0), .ref q1, .ref q2])), (q1, arr X 12 (fun _ => 0)), (q2, arr X 12 (fun _ => 0))]) [0, 1, 2] (by decide) rfl
  exact RET _ _ _ (fun k => ([q1, q2] : List Nat).getD k 0) H _ ls dX4_init_25 (Nat.le_of_ble_eq_true rfl) (Nat.le_of_ble_eq_true rfl) hP9 hD9 hS
