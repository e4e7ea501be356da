set_option maxHeartbeats 4000000 in
set_option maxRecDepth 100000 in
theorem k_X3_removeAll (l : Launch) (X : Cx) (ad : Nat → Nat) (hi : inj 48 ad) (g : PF) (k : Nat) (hk : k + 1 < 48) (n : Nat) (a : Nat → Nat) (hR : rRow X ad k n a g)  : Ki l yX3_removeAll wsX3_removeAll zr0 X 48 ad g [.ref (ad k)] (fun r g' => r = (sp_empty n a).1 ∧ rRow X ad k (sp_empty n a).2.1 (sp_empty n a).2.2 g' ∧ fr2 k g g') := by
  refine Ki.of (cc := cX3_removeAll) (maxL := 2) hi (by decide) rfl (Nat.le_of_ble_eq_true rfl) ?_
  intro p e s m below meth c Q E RET ls hl
  obtain ⟨C0, FX, hH⟩ := E
  have hx := C0.1
  have hb := C0.2.1
  have kiX3 : ∀ w ∈ u_ws RX3 TX3 2, w ∈ wsX3_removeAll := (by decide +kernel)
  have kf21 : Cond.fieldLink RX3 21 "YarnMill$Row" "size" "I" ∈ wsX3_removeAll := (by decide +kernel)
  have hl : lv_has ls 2 [(0, .ref (ad k))] := hl
  have fr : ∀ j, j ≠ k → j ≠ (k + 1) → g j = g j := fun j _ _ => rfl
  obtain ⟨x, fk, fc, hxa, hn, hab⟩ := hR
  refine lv_aload_n hx hb dX3_removeAll_0 rfl (lv_at hl 0 rfl) ?_
  refine rp_get C0 FX hH k (by omega) (ci := 3) (k := 0) fk rfl kiX3 (by decide) kf21 rfl dX3_removeAll_1 ?_
  refine lv_istore_n (lv' := [(1, .int (nI n)), (0, .ref (ad k))]) hx hb dX3_removeAll_4 rfl hl (by decide) rfl (fun ls hl => ?_)
  refine lv_aload_n hx hb dX3_removeAll_5 rfl (lv_at hl 1 rfl) ?_
  refine lv_iconst (v := nI 0) hx hb dX3_removeAll_6 (by decide) ?_
  refine rp_put C0 FX hH k (by omega) (ci := 3) (k := 0) tyX3 tyX3_ok nmX3 fk rfl kiX3 (by decide) kf21 rfl rfl rfl (Nat.le_of_ble_eq_true rfl) dX3_removeAll_7 (fun g1 H locs eq2 nq2 hH => ?_)
  have fk : g1 k = .inr (3, [.int (nI 0), .ref (ad (k + 1))]) := eq2
  have fc : g1 (k + 1) = arr X 400 x := (nq2 _ (by omega)).trans fc
  have fr : ∀ j, j ≠ k → j ≠ (k + 1) → g1 j = g j := fun j a0 a1 => (nq2 j (by omega)).trans (fr j a0 a1)
  refine lv_iload_n hx hb dX3_removeAll_10 rfl (lv_at hl 0 rfl) ?_
  refine RET _ _ _ _ _ _ dX3_removeAll_11 rfl ?_ hH
  exact post3 rfl ⟨_, fk, fc, fun j hj => absurd hj (Nat.not_lt_zero _), by omega, fun j hj => absurd hj (Nat.not_lt_zero _)⟩ fr
set_option maxHeartbeats 4000000 in
set_option maxRecDepth 100000 in
theorem k_X3_massAt (l : Launch) (X : Cx) (ad : Nat → Nat) (hi : inj 48 ad) (g : PF) (k : Nat) (hk : k + 1 < 48) (n : Nat) (a : Nat → Nat) (hR : rRow X ad k n a g) (p0 : Int32) : Ki l yX3_massAt wsX3_massAt zr1 X 48 ad g [.ref (ad k), .int p0] (fun r g' => g' = g ∧ r = sp_at p0 n a) := by
  refine Ki.of (cc := cX3_massAt) (maxL := 2) hi (by decide) rfl (Nat.le_of_ble_eq_true rfl) ?_
  intro p e s m below meth c Q E RET ls hl
  obtain ⟨C0, FX, hH⟩ := E
  have hx := C0.1
  have hb := C0.2.1
  have kiX3 : ∀ w ∈ u_ws RX3 TX3 2, w ∈ wsX3_massAt := (by decide +kernel)
  have kf11 : Cond.fieldLink RX3 11 "YarnMill$Row" "cells" "[I" ∈ wsX3_massAt := (by decide +kernel)
  have kf21 : Cond.fieldLink RX3 21 "YarnMill$Row" "size" "I" ∈ wsX3_massAt := (by decide +kernel)
  have hl : lv_has ls 2 [(0, .ref (ad k)), (1, .int p0)] := hl
  obtain ⟨x, fk, fc, hxa, hn, hab⟩ := hR
  refine lv_iload_n hx hb dX3_massAt_0 rfl (lv_at hl 1 rfl) ?_
  refine lv_i2l hx hb dX3_massAt_1 rfl ?_
  refine lv_lconst (v := lN 0) hx hb dX3_massAt_2 (by decide) ?_
  refine lv_aload_n hx hb dX3_massAt_3 rfl (lv_at hl 0 rfl) ?_
  refine rp_get C0 FX hH k (by omega) (ci := 3) (k := 0) fk rfl kiX3 (by decide) kf21 rfl dX3_massAt_4 ?_
  refine lv_iconst (v := nI 1) hx hb dX3_massAt_7 (by decide) ?_
  refine lv_isub hx hb dX3_massAt_8 ?_
  refine lv_i2l hx hb dX3_massAt_9 rfl ?_
  refine rc_Ni (rest := []) C0 FX hH (k_X5_within_rngS l X ad hi _ p0 n (by omega)) ⟨va_cnB 3 C0.2.2.2.2 gX3_massAt_X5_within_n17 rfl rfl rfl (FX.1.2 (RX3, 17, yX5_within) (by decide +kernel)) (C0.2.2.2.2 (.initialized RX5) (by decide +kernel)) (by decide +kernel) ⟨Nat.le_of_ble_eq_true rfl, Nat.le_of_ble_eq_true rfl⟩, C0.2.2.2.2 (.static yX5_within) (by decide +kernel), trivial⟩ rfl rfl hl.1 (Nat.le_of_ble_eq_true rfl) dX3_massAt_10 ⟨Nat.le_of_ble_eq_true rfl, Nat.le_of_ble_eq_true rfl⟩ (fun r10 g10c H locs h10 hH => ?_)
  obtain ⟨e10, rfl⟩ := h10
  rw [e10] at hH
  refine rb_eq hx hb 25 dX3_massAt_13 (by decide) (fun c13 => ?_) (fun c13 => ?_)
  · refine lv_iconst (v := (-1)) hx hb dX3_massAt_25 (by decide) ?_
    refine RET _ _ _ _ _ _ dX3_massAt_26 rfl ?_ hH
    refine ⟨rfl, ?_⟩
    unfold sp_at
    rw [if_neg (by assumption)]
  · obtain ⟨i, rfl, i1, i3⟩ := rngS_nI c13
    refine lv_aload_n hx hb dX3_massAt_16 rfl (lv_at hl 0 rfl) ?_
    refine rp_get C0 FX hH k (by omega) (ci := 3) (k := 1) fk rfl kiX3 (by decide) kf11 rfl dX3_massAt_17 ?_
    refine lv_iload_n hx hb dX3_massAt_20 rfl (lv_at hl 1 rfl) ?_
    refine rp_iald C0 FX hH (k + 1) (by omega) (v := a i) fc i (by omega) (by decide) (hxa _ (by omega)) dX3_massAt_21 ?_
    refine lv_goto (tgt := 26) hx hb dX3_massAt_22 (by decide) ?_
    refine RET _ _ _ _ _ _ dX3_massAt_26 rfl ?_ hH
    refine ⟨rfl, ?_⟩
    unfold sp_at
    rw [if_pos ((rngS_iff (by omega)).mpr (by omega)), tN_nI (by omega)]
set_option maxHeartbeats 4000000 in
set_option maxRecDepth 100000 in
theorem k_X3_addCell (l : Launch) (X : Cx) (ad : Nat → Nat) (hi : inj 48 ad) (g : PF) (k : Nat) (hk : k + 1 < 48) (n : Nat) (a : Nat → Nat) (hR : rRow X ad k n a g) (p0 : Int32) : Ki l yX3_addCell wsX3_addCell zr1 X 48 ad g [.ref (ad k), .int p0] (fun r g' => r = (sp_cell p0 n a).1 ∧ rRow X ad k (sp_cell p0 n a).2.1 (sp_cell p0 n a).2.2 g' ∧ fr2 k g g') := by
  refine Ki.of (cc := cX3_addCell) (maxL := 2) hi (by decide) rfl (Nat.le_of_ble_eq_true rfl) ?_
  intro p e s m below meth c Q E RET ls hl
  obtain ⟨C0, FX, hH⟩ := E
  have hx := C0.1
  have hb := C0.2.1
  have kl15 := C0.2.2.2.2 (.constantLong RX3 15 (lN 1000000)) (by decide +kernel)
  have kiX3 : ∀ w ∈ u_ws RX3 TX3 2, w ∈ wsX3_addCell := (by decide +kernel)
  have kf11 : Cond.fieldLink RX3 11 "YarnMill$Row" "cells" "[I" ∈ wsX3_addCell := (by decide +kernel)
  have kf21 : Cond.fieldLink RX3 21 "YarnMill$Row" "size" "I" ∈ wsX3_addCell := (by decide +kernel)
  have hl : lv_has ls 2 [(0, .ref (ad k)), (1, .int p0)] := hl
  have fr : ∀ j, j ≠ k → j ≠ (k + 1) → g j = g j := fun j _ _ => rfl
  obtain ⟨x, fk, fc, hxa, hn, hab⟩ := hR
  refine lv_iload_n hx hb dX3_addCell_0 rfl (lv_at hl 1 rfl) ?_
  refine lv_i2l hx hb dX3_addCell_1 rfl ?_
  refine lv_lconst (v := lN 0) hx hb dX3_addCell_2 (by decide) ?_
  refine lv_ldc2 hx hb C0.2.2.2.1 kl15 dX3_addCell_3 ?_
  refine rc_Ni (rest := []) C0 FX hH (k_X5_within_rng l X ad hi _ p0 0 1000000 (by omega) (by omega)) ⟨va_cnB 3 C0.2.2.2.2 gX3_addCell_X5_within_n17 rfl rfl rfl (FX.1.2 (RX3, 17, yX5_within) (by decide +kernel)) (C0.2.2.2.2 (.initialized RX5) (by decide +kernel)) (by decide +kernel) ⟨Nat.le_of_ble_eq_true rfl, Nat.le_of_ble_eq_true rfl⟩, C0.2.2.2.2 (.static yX5_within) (by decide +kernel), trivial⟩ rfl rfl hl.1 (Nat.le_of_ble_eq_true rfl) dX3_addCell_6 ⟨Nat.le_of_ble_eq_true rfl, Nat.le_of_ble_eq_true rfl⟩ (fun r6 g6c H locs h6 hH => ?_)
  obtain ⟨e6, rfl⟩ := h6
  rw [e6] at hH
  refine rb_ne hx hb 15 dX3_addCell_9 (by decide) (fun c9 => ?_) (fun c9 => ?_)
  · obtain ⟨v, rfl, v1, v2, v3⟩ := rng_nI c9
    refine lv_aload_n hx hb dX3_addCell_15 rfl (lv_at hl 0 rfl) ?_
    refine rp_get C0 FX hH k (by omega) (ci := 3) (k := 0) fk rfl kiX3 (by decide) kf21 rfl dX3_addCell_16 ?_
    refine lv_sipush (v := nI 400) hx hb dX3_addCell_19 (by decide) ?_
    refine ni_clt hx hb 28 dX3_addCell_22 (by decide) (by omega) (by omega) (fun c22 => ?_) (fun c22 => ?_)
    · refine lv_aload_n hx hb dX3_addCell_28 rfl (lv_at hl 0 rfl) ?_
      refine rp_get C0 FX hH k (by omega) (ci := 3) (k := 1) fk rfl kiX3 (by decide) kf11 rfl dX3_addCell_29 ?_
      refine lv_aload_n hx hb dX3_addCell_32 rfl (lv_at hl 0 rfl) ?_
      refine rp_get C0 FX hH k (by omega) (ci := 3) (k := 0) fk rfl kiX3 (by decide) kf21 rfl dX3_addCell_33 ?_
      refine lv_iload_n hx hb dX3_addCell_36 rfl (lv_at hl 1 rfl) ?_
      refine rp_iast C0 FX hH (k + 1) (by omega) fc n v (by omega) (by decide) dX3_addCell_37 (fun g1 H locs eq2 nq2 hH => ?_)
      have fc : g1 (k + 1) = arr X 400 (va_up x n v) := eq2
      have fk : g1 k = .inr (3, [.int (nI n), .ref (ad (k + 1))]) := (nq2 _ (by omega)).trans fk
      have fr : ∀ j, j ≠ k → j ≠ (k + 1) → g1 j = g j := fun j a0 a1 => (nq2 j (by omega)).trans (fr j a0 a1)
      refine lv_aload_n hx hb dX3_addCell_38 rfl (lv_at hl 0 rfl) ?_
      refine lv_dup hx hb dX3_addCell_39 rfl ?_
      refine rp_get C0 FX hH k (by omega) (ci := 3) (k := 0) fk rfl kiX3 (by decide) kf21 rfl dX3_addCell_40 ?_
      refine lv_iconst (v := nI 1) hx hb dX3_addCell_43 (by decide) ?_
      refine ni_iadd hx hb dX3_addCell_44 ?_
      refine rp_put C0 FX hH k (by omega) (ci := 3) (k := 0) tyX3 tyX3_ok nmX3 fk rfl kiX3 (by decide) kf21 rfl rfl rfl (Nat.le_of_ble_eq_true rfl) dX3_addCell_45 (fun g3 H locs eq4 nq4 hH => ?_)
      have fk : g3 k = .inr (3, [.int (nI (n + 1)), .ref (ad (k + 1))]) := eq4
      have fc : g3 (k + 1) = arr X 400 (va_up x n v) := (nq4 _ (by omega)).trans fc
      have fr : ∀ j, j ≠ k → j ≠ (k + 1) → g3 j = g j := fun j a0 a1 => (nq4 j (by omega)).trans (fr j a0 a1)
      refine lv_aload_n hx hb dX3_addCell_48 rfl (lv_at hl 0 rfl) ?_
      refine rp_get C0 FX hH k (by omega) (ci := 3) (k := 0) fk rfl kiX3 (by decide) kf21 rfl dX3_addCell_49 ?_
      refine RET _ _ _ _ _ _ dX3_addCell_52 rfl ?_ hH
      refine post3 (by unfold sp_cell; rw [if_pos ((rng_iff (by omega)).mpr (by omega)), if_neg (by omega), tN_nI (by omega)]) ⟨_, fk, fc, fun j hj => ?_, by omega, fun j hj => ?_⟩ fr
      · by_cases q : j = n
        · subst q; rw [va_up_self, va_up_self]
        · rw [va_up_ne _ _ q, va_up_ne _ _ q]; exact hxa j (by omega)
      · by_cases q : j = n
        · subst q; rw [va_up_self]; omega
        · rw [va_up_ne _ _ q]; exact hab j (by omega)
    · refine lv_bipush (v := (-4)) hx hb dX3_addCell_25 (by decide) ?_
      refine RET _ _ _ _ _ _ dX3_addCell_27 rfl ?_ hH
      exact post3 (by unfold sp_cell; rw [if_pos ((rng_iff (by omega)).mpr (by omega)), if_pos (by omega)]) ⟨x, fk, fc, hxa, hn, hab⟩ fr
  · refine lv_bipush (v := (-2)) hx hb dX3_addCell_12 (by decide) ?_
    refine RET _ _ _ _ _ _ dX3_addCell_14 rfl ?_ hH
    exact post3 (by unfold sp_cell; rw [if_neg (by assumption)]) ⟨x, fk, fc, hxa, hn, hab⟩ fr
set_option maxHeartbeats 4000000 in
set_option maxRecDepth 100000 in
theorem k_X3_sumOf (l : Launch) (X : Cx) (ad : Nat → Nat) (hi : inj 48 ad) (g : PF) (k : Nat) (hk : k + 1 < 48) (n : Nat) (a : Nat → Nat) (hR : rRow X ad k n a g) (f w : Nat) (hf : f ≤ 400) (hw : w ≤ 400) : Ki l yX3_sumOf wsX3_sumOf zr0 X 48 ad g [.ref (ad k), .int (nI f), .int (nI w)] (fun r g' => g' = g ∧ r = nI (sg a f (min (f + w) n - f))) := by
  refine Ki.of (cc := cX3_sumOf) (maxL := 6) hi (by decide) rfl (Nat.le_of_ble_eq_true rfl) ?_
  intro p e s m below meth c Q E RET ls hl
  obtain ⟨C0, FX, hH⟩ := E
  have hx := C0.1
  have hb := C0.2.1
  have kiX3 : ∀ w ∈ u_ws RX3 TX3 2, w ∈ wsX3_sumOf := (by decide +kernel)
  have kf11 : Cond.fieldLink RX3 11 "YarnMill$Row" "cells" "[I" ∈ wsX3_sumOf := (by decide +kernel)
  have kf21 : Cond.fieldLink RX3 21 "YarnMill$Row" "size" "I" ∈ wsX3_sumOf := (by decide +kernel)
  have hl : lv_has ls 6 [(0, .ref (ad k)), (1, .int (nI f)), (2, .int (nI w))] := hl
  obtain ⟨x, fk, fc, hxa, hn, hab⟩ := hR
  refine lv_iload_n hx hb dX3_sumOf_0 rfl (lv_at hl 1 rfl) ?_
  refine lv_iload_n hx hb dX3_sumOf_1 rfl (lv_at hl 2 rfl) ?_
  refine ni_iadd hx hb dX3_sumOf_2 ?_
  refine lv_aload_n hx hb dX3_sumOf_3 rfl (lv_at hl 0 rfl) ?_
  refine rp_get C0 FX hH k (by omega) (ci := 3) (k := 0) fk rfl kiX3 (by decide) kf21 rfl dX3_sumOf_4 ?_
  refine va_mmin hx hb (by rw [C0.2.2.1]; exact hl.1.symm) C0.2.2.2.1 (C0.2.2.2.2 (.methodLink RX3 88 Lib.Math.min.name) (by decide +kernel)) (C0.2.2.2.2 (.static Lib.Math.min.name) (by decide +kernel)) (C0.2.2.2.2 (.initialized "java/lang/Math") (by decide +kernel)) (C0.2.2.2.2 (.code Lib.Math.min.name Lib.Math.min.code 2 (some .int)) (by decide +kernel)) (Nat.le_of_ble_eq_true rfl) (Nat.le_of_ble_eq_true rfl) (Nat.le_of_ble_eq_true rfl) (Nat.le_of_ble_eq_true rfl) dX3_sumOf_7 ?_
  rw [ni_min (by omega) (by omega)]
  refine lv_istore_n (lv' := [(3, .int (nI (min (f + w) n))), (0, .ref (ad k)), (1, .int (nI f)), (2, .int (nI w))]) hx hb dX3_sumOf_10 rfl hl (by decide) rfl (fun ls hl => ?_)
  refine lv_iconst (v := nI 0) hx hb dX3_sumOf_11 (by decide) ?_
  refine lv_istore (lv' := [(4, .int (nI 0)), (3, .int (nI (min (f + w) n))), (0, .ref (ad k)), (1, .int (nI f)), (2, .int (nI w))]) hx hb dX3_sumOf_12 hl (by decide) rfl (fun ls hl => ?_)
  refine lv_iload_n hx hb dX3_sumOf_14 rfl (lv_at hl 3 rfl) ?_
  refine lv_istore (lv' := [(5, .int (nI f)), (4, .int (nI 0)), (3, .int (nI (min (f + w) n))), (0, .ref (ad k)), (1, .int (nI f)), (2, .int (nI w))]) hx hb dX3_sumOf_15 hl (by decide) rfl (fun ls hl => ?_)
  have L17 : ∀ (fu : Nat) (S : Nat) (i : Nat) (ls : Array Slot), f ≤ i → i ≤ max f (min (f + w) n) → S = sg a f (i - f) → max f (min (f + w) n) - i < fu → lv_has ls 6 [(5, .int (nI i)), (4, .int (nI S)), (3, .int (nI (min (f + w) n))), (0, .ref (ad k)), (1, .int (nI f)), (2, .int (nI w))] → W p l e zr0 s m ([.ref (ad k), .int (nI f), .int (nI w)] : List Value).toArray below meth c s.heap [] 0 0 Q (F0 m 17 ls []) := by
    intro fu
    induction fu with
    | zero =>
      intro S i  ls i1 i2 i3 hm
      exact absurd hm (Nat.not_lt_zero _)
    | succ fu ih =>
      have ih17 := ih; clear ih
      intro S i  ls i1 i2 i3 hm17  hl
      refine lv_iload hx hb dX3_sumOf_17 (lv_at hl 0 rfl) ?_
      refine lv_iload_n hx hb dX3_sumOf_19 rfl (lv_at hl 2 rfl) ?_
      refine ni_cge hx hb 41 dX3_sumOf_20 (by decide) (by omega) (by omega) (fun c20 => ?_) (fun c20 => ?_)
      · refine lv_iload hx hb dX3_sumOf_41 (lv_at hl 1 rfl) ?_
        refine RET _ _ _ _ _ _ dX3_sumOf_43 rfl ?_ hH
        refine ⟨rfl, ?_⟩
        rw [i3]
        congr 2
        omega
      · refine lv_iload hx hb dX3_sumOf_23 (lv_at hl 1 rfl) ?_
        refine lv_aload_n hx hb dX3_sumOf_25 rfl (lv_at hl 3 rfl) ?_
        refine rp_get C0 FX hH k (by omega) (ci := 3) (k := 1) fk rfl kiX3 (by decide) kf11 rfl dX3_sumOf_26 ?_
        refine lv_iload hx hb dX3_sumOf_29 (lv_at hl 0 rfl) ?_
        refine rp_iald C0 FX hH (k + 1) (by omega) (v := a i) fc i (by omega) (by decide) (hxa _ (by omega)) dX3_sumOf_31 ?_
        refine ni_iadd hx hb dX3_sumOf_32 ?_
        refine lv_istore (lv' := [(4, .int (nI (S + (a i)))), (5, .int (nI i)), (3, .int (nI (min (f + w) n))), (0, .ref (ad k)), (1, .int (nI f)), (2, .int (nI w))]) hx hb dX3_sumOf_33 hl (by decide) rfl (fun ls hl => ?_)
        refine lv_iinc (v := nI (i + 1)) (lv' := [(5, .int (nI (i + 1))), (4, .int (nI (S + (a i)))), (3, .int (nI (min (f + w) n))), (0, .ref (ad k)), (1, .int (nI f)), (2, .int (nI w))]) hx hb dX3_sumOf_35 hl (k := 1) rfl (ni_inc1 _) (by decide) rfl (fun ls hl => ?_)
        refine lv_goto (tgt := 17) hx hb dX3_sumOf_38 (by decide) ?_
        exact ih17 (S + (a i)) (i + 1) ls (by omega) (by omega) (by rw [sg_step i1, i3]) (by omega) (lv_sub hl [0, 1, 2, 3, 4, 5] rfl)
  exact L17 ((max f (min (f + w) n) - f) + 1) 0 f ls (by omega) (by omega) (by rw [Nat.sub_self]; rfl) (Nat.lt_succ_self _) (lv_sub hl [0, 1, 2, 3, 4, 5] rfl)
