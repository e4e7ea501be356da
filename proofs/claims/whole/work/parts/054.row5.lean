set_option maxHeartbeats 4000000 in
set_option maxRecDepth 100000 in
theorem k_X3_stretchBy (l : Launch) (X : Cx) (ad : Nat → Nat) (hi : inj 48 ad) (g : PF) (k : Nat) (hk : k + 1 < 48) (n : Nat) (a : Nat → Nat) (hR : rRow X ad k n a g) (p0 : Int32) : Ki l yX3_stretchBy wsX3_stretchBy zr1 X 48 ad g [.ref (ad k), .int p0] (fun r g' => r = (sp_stretch p0 n a).1 ∧ rRow X ad k (sp_stretch p0 n a).2.1 (sp_stretch p0 n a).2.2 g' ∧ fr2 k g g') := by
  refine Ki.of (cc := cX3_stretchBy) (maxL := 6) hi (by decide) rfl (Nat.le_of_ble_eq_true rfl) ?_
  intro p e s m below meth c Q E RET ls hl
  obtain ⟨C0, FX, hH⟩ := E
  have hx := C0.1
  have hb := C0.2.1
  have kl33 := C0.2.2.2.2 (.constantLong RX3 33 (lN 2)) (by decide +kernel)
  have kl35 := C0.2.2.2.2 (.constantLong RX3 35 (lN 8)) (by decide +kernel)
  have kiX3 : ∀ w ∈ u_ws RX3 TX3 2, w ∈ wsX3_stretchBy := (by decide +kernel)
  have kf11 : Cond.fieldLink RX3 11 "YarnMill$Row" "cells" "[I" ∈ wsX3_stretchBy := (by decide +kernel)
  have kf21 : Cond.fieldLink RX3 21 "YarnMill$Row" "size" "I" ∈ wsX3_stretchBy := (by decide +kernel)
  have hl : lv_has ls 6 [(0, .ref (ad k)), (1, .int p0)] := hl
  have fr : ∀ j, j ≠ k → j ≠ (k + 1) → g j = g j := fun j _ _ => rfl
  obtain ⟨x, fk, fc, hxa, hn, hab⟩ := hR
  refine lv_iload_n hx hb dX3_stretchBy_0 rfl (lv_at hl 1 rfl) ?_
  refine lv_i2l hx hb dX3_stretchBy_1 rfl ?_
  refine lv_ldc2 hx hb C0.2.2.2.1 kl33 dX3_stretchBy_2 ?_
  refine lv_ldc2 hx hb C0.2.2.2.1 kl35 dX3_stretchBy_5 ?_
  refine rc_Ni (rest := []) C0 FX hH (k_X5_within_rng l X ad hi _ p0 2 8 (by omega) (by omega)) ⟨va_cnB 3 C0.2.2.2.2 gX3_stretchBy_X5_within_n17 rfl rfl rfl (FX.1.2 (RX3, 17, yX5_within) (by decide +kernel)) (C0.2.2.2.2 (.initialized RX5) (by decide +kernel)) (by decide +kernel) ⟨Nat.le_of_ble_eq_true rfl, Nat.le_of_ble_eq_true rfl⟩, C0.2.2.2.2 (.static yX5_within) (by decide +kernel), trivial⟩ rfl rfl hl.1 (Nat.le_of_ble_eq_true rfl) dX3_stretchBy_8 ⟨Nat.le_of_ble_eq_true rfl, Nat.le_of_ble_eq_true rfl⟩ (fun r8 g8c H locs h8 hH => ?_)
  obtain ⟨e8, rfl⟩ := h8
  rw [e8] at hH
  refine rb_ne hx hb 17 dX3_stretchBy_11 (by decide) (fun c11 => ?_) (fun c11 => ?_)
  · obtain ⟨dv, rfl, dv1, dv2, dv3⟩ := rng_nI c11
    have hnd := Nat.mul_le_mul hn dv2
    refine lv_aload_n hx hb dX3_stretchBy_17 rfl (lv_at hl 0 rfl) ?_
    refine rp_get C0 FX hH k (by omega) (ci := 3) (k := 0) fk rfl kiX3 (by decide) kf21 rfl dX3_stretchBy_18 ?_
    refine lv_iload_n hx hb dX3_stretchBy_21 rfl (lv_at hl 1 rfl) ?_
    refine ni_imul hx hb dX3_stretchBy_22 ?_
    refine lv_sipush (v := nI 400) hx hb dX3_stretchBy_23 (by decide) ?_
    refine ni_cle hx hb 32 dX3_stretchBy_26 (by decide) (by omega) (by omega) (fun c26 => ?_) (fun c26 => ?_)
    · refine lv_aload_n hx hb dX3_stretchBy_32 rfl (lv_at hl 0 rfl) ?_
      refine rp_get C0 FX hH k (by omega) (ci := 3) (k := 0) fk rfl kiX3 (by decide) kf21 rfl dX3_stretchBy_33 ?_
      refine lv_iconst (v := nI 1) hx hb dX3_stretchBy_36 (by decide) ?_
      refine lv_isub hx hb dX3_stretchBy_37 ?_
      refine lv_istore_n (lv' := [(2, .int ((nI n) - (nI 1))), (0, .ref (ad k)), (1, .int (nI dv))]) hx hb dX3_stretchBy_38 rfl hl (by decide) rfl (fun ls hl => ?_)
      have L39 : ∀ (fu : Nat) (ct : Nat) (x9 : Nat → Nat) (g1 : PF) (H : Heap) (locs : List Loc) (ls : Array Slot), (ct ≤ n) → (∀ j, j < ct → x9 j = a j) → (∀ j, ct * dv ≤ j → j < n * dv → x9 j = stf dv a j) → ct < fu → WH X 48 ad (pA 48 ad s.heap.size) s g1 H locs → g1 k = .inr (3, [.int (nI n), .ref (ad (k + 1))]) → g1 (k + 1) = arr X 400 x9 → (∀ j, j ≠ k → j ≠ (k + 1) → g1 j = g j) → lv_has ls 6 [(2, .int (nI ct - nI 1)), (0, .ref (ad k)), (1, .int (nI dv))] → W p l e zr1 s m ([.ref (ad k), .int (nI dv)] : List Value).toArray below meth c H locs 0 0 Q (F0 m 39 ls []) := by
        intro fu
        induction fu with
        | zero =>
          intro ct x9 g1 H locs ls j1 j5 j6 hm
          exact absurd hm (Nat.not_lt_zero _)
        | succ fu ih =>
          have ih39 := ih; clear ih
          intro ct x9 g1 H locs ls j1 j5 j6 hm39 hH fk fc fr hl
          refine lv_iload_n hx hb dX3_stretchBy_39 rfl (lv_at hl 0 rfl) ?_
          refine lv_if_lt (tgt := 108) hx hb dX3_stretchBy_40 (by decide) (fun c40 => ?_) (fun c40 => ?_)
          · have hc0 : ct = 0 := (m1_neg (by omega)).mp c40
            refine lv_aload_n hx hb dX3_stretchBy_108 rfl (lv_at hl 1 rfl) ?_
            refine lv_dup hx hb dX3_stretchBy_109 rfl ?_
            refine rp_get C0 FX hH k (by omega) (ci := 3) (k := 0) fk rfl kiX3 (by decide) kf21 rfl dX3_stretchBy_110 ?_
            refine lv_iload_n hx hb dX3_stretchBy_113 rfl (lv_at hl 2 rfl) ?_
            refine ni_imul hx hb dX3_stretchBy_114 ?_
            refine rp_put C0 FX hH k (by omega) (ci := 3) (k := 0) tyX3 tyX3_ok nmX3 fk rfl kiX3 (by decide) kf21 rfl rfl rfl (Nat.le_of_ble_eq_true rfl) dX3_stretchBy_115 (fun g2 H locs eq3 nq3 hH => ?_)
            have fk : g2 k = .inr (3, [.int (nI (n * dv)), .ref (ad (k + 1))]) := eq3
            have fc : g2 (k + 1) = arr X 400 x9 := (nq3 _ (by omega)).trans fc
            have fr : ∀ j, j ≠ k → j ≠ (k + 1) → g2 j = g j := fun j a0 a1 => (nq3 j (by omega)).trans (fr j a0 a1)
            refine lv_aload_n hx hb dX3_stretchBy_118 rfl (lv_at hl 1 rfl) ?_
            refine rp_get C0 FX hH k (by omega) (ci := 3) (k := 0) fk rfl kiX3 (by decide) kf21 rfl dX3_stretchBy_119 ?_
            refine RET _ _ _ _ _ _ dX3_stretchBy_122 rfl ?_ hH
            exact post3 (by unfold sp_stretch; rw [if_pos ((rng_iff (by omega)).mpr (by omega)), tN_nI (by omega), if_neg (by omega)]) ⟨x9, fk, fc, fun j hj => j6 j (by rw [hc0, Nat.zero_mul]; omega) hj, c26, stf_le hab dv1⟩ fr
          · have hne : ct ≠ 0 := fun z => c40 ((m1_neg (by omega)).mpr z)
            obtain ⟨cp, rfl⟩ : ∃ cp, ct = cp + 1 := ⟨ct - 1, by omega⟩
            have hmd := Nat.mod_lt (a cp) (show 0 < dv by omega)
            rw [ni_pred] at hl
            have hcd := Nat.mul_le_mul_right dv (show cp + 1 ≤ n by omega)
            rw [Nat.succ_mul] at hcd
            have hq := hab cp (by omega)
            have hge := Nat.le_mul_of_pos_right cp (show 0 < dv by omega)
            refine lv_aload_n hx hb dX3_stretchBy_43 rfl (lv_at hl 1 rfl) ?_
            refine rp_get C0 FX hH k (by omega) (ci := 3) (k := 1) fk rfl kiX3 (by decide) kf11 rfl dX3_stretchBy_44 ?_
            refine lv_iload_n hx hb dX3_stretchBy_47 rfl (lv_at hl 0 rfl) ?_
            refine rp_iald C0 FX hH (k + 1) (by omega) (v := a cp) fc cp (by omega) (by decide) (j5 _ (by omega)) dX3_stretchBy_48 ?_
            refine lv_iload_n hx hb dX3_stretchBy_49 rfl (lv_at hl 2 rfl) ?_
            refine ni_idiv hx hb (by omega) (by omega) (by omega) dX3_stretchBy_50 ?_
            refine lv_istore_n (lv' := [(3, .int (nI ((a cp) / dv))), (2, .int (nI cp)), (0, .ref (ad k)), (1, .int (nI dv))]) hx hb dX3_stretchBy_51 rfl hl (by decide) rfl (fun ls hl => ?_)
            refine lv_aload_n hx hb dX3_stretchBy_52 rfl (lv_at hl 2 rfl) ?_
            refine rp_get C0 FX hH k (by omega) (ci := 3) (k := 1) fk rfl kiX3 (by decide) kf11 rfl dX3_stretchBy_53 ?_
            refine lv_iload_n hx hb dX3_stretchBy_56 rfl (lv_at hl 1 rfl) ?_
            refine rp_iald C0 FX hH (k + 1) (by omega) (v := a cp) fc cp (by omega) (by decide) (j5 _ (by omega)) dX3_stretchBy_57 ?_
            refine lv_iload_n hx hb dX3_stretchBy_58 rfl (lv_at hl 3 rfl) ?_
            refine ni_irem hx hb (by omega) (by omega) (by omega) dX3_stretchBy_59 ?_
            refine lv_istore (lv' := [(4, .int (nI ((a cp) % dv))), (3, .int (nI ((a cp) / dv))), (2, .int (nI cp)), (0, .ref (ad k)), (1, .int (nI dv))]) hx hb dX3_stretchBy_60 hl (by decide) rfl (fun ls hl => ?_)
            refine lv_iconst (v := nI 0) hx hb dX3_stretchBy_62 (by decide) ?_
            refine lv_istore (lv' := [(5, .int (nI 0)), (4, .int (nI ((a cp) % dv))), (3, .int (nI ((a cp) / dv))), (2, .int (nI cp)), (0, .ref (ad k)), (1, .int (nI dv))]) hx hb dX3_stretchBy_63 hl (by decide) rfl (fun ls hl => ?_)
            have L65 : ∀ (fu : Nat) (jj : Nat) (x8 : Nat → Nat) (g4 : PF) (H : Heap) (locs : List Loc) (ls : Array Slot), (jj ≤ dv) → (∀ j, j < cp → x8 j = a j) → (∀ j, cp * dv ≤ j → j < cp * dv + jj → x8 j = stf dv a j) → (∀ j, (cp + 1) * dv ≤ j → j < n * dv → x8 j = stf dv a j) → dv - jj < fu → WH X 48 ad (pA 48 ad s.heap.size) s g4 H locs → g4 k = .inr (3, [.int (nI n), .ref (ad (k + 1))]) → g4 (k + 1) = arr X 400 x8 → (∀ j, j ≠ k → j ≠ (k + 1) → g4 j = g j) → lv_has ls 6 [(5, .int (nI jj)), (4, .int (nI ((a cp) % dv))), (3, .int (nI ((a cp) / dv))), (2, .int (nI cp)), (0, .ref (ad k)), (1, .int (nI dv))] → W p l e zr1 s m ([.ref (ad k), .int (nI dv)] : List Value).toArray below meth c H locs 0 0 Q (F0 m 65 ls []) := by
              intro fu
              induction fu with
              | zero =>
                intro jj x8 g4 H locs ls m0 m1 m2 m3 hm
                exact absurd hm (Nat.not_lt_zero _)
              | succ fu ih =>
                have ih65 := ih; clear ih
                intro jj x8 g4 H locs ls m0 m1 m2 m3 hm65 hH fk fc fr hl
                refine lv_iload hx hb dX3_stretchBy_65 (lv_at hl 0 rfl) ?_
                refine lv_iload_n hx hb dX3_stretchBy_67 rfl (lv_at hl 5 rfl) ?_
                refine ni_cge hx hb 102 dX3_stretchBy_68 (by decide) (by omega) (by omega) (fun c68 => ?_) (fun c68 => ?_)
                · refine lv_iinc (v := nI cp - nI 1) (lv' := [(2, .int (nI cp - nI 1)), (5, .int (nI jj)), (4, .int (nI ((a cp) % dv))), (3, .int (nI ((a cp) / dv))), (0, .ref (ad k)), (1, .int (nI dv))]) hx hb dX3_stretchBy_102 hl (k := 3) rfl (ni_decr _) (by decide) rfl (fun ls hl => ?_)
                  refine lv_goto (tgt := 39) hx hb dX3_stretchBy_105 (by decide) ?_
                  exact ih39 cp x8 _ _ _ ls (by omega) (fun j hj => m1 j hj) (fun j h1 h2 => by rcases Nat.lt_or_ge j (cp * dv + jj) with q | q; exact m2 j h1 q; exact m3 j (by rw [Nat.succ_mul]; omega) h2) (by omega) hH fk fc fr (lv_sub hl [0, 4, 5] rfl)
                · refine lv_aload_n hx hb dX3_stretchBy_71 rfl (lv_at hl 4 rfl) ?_
                  refine rp_get C0 FX hH k (by omega) (ci := 3) (k := 1) fk rfl kiX3 (by decide) kf11 rfl dX3_stretchBy_72 ?_
                  refine lv_iload_n hx hb dX3_stretchBy_75 rfl (lv_at hl 3 rfl) ?_
                  refine lv_iload_n hx hb dX3_stretchBy_76 rfl (lv_at hl 5 rfl) ?_
                  refine ni_imul hx hb dX3_stretchBy_77 ?_
                  refine lv_iload hx hb dX3_stretchBy_78 (lv_at hl 0 rfl) ?_
                  refine ni_iadd hx hb dX3_stretchBy_80 ?_
                  refine lv_iload hx hb dX3_stretchBy_81 (lv_at hl 0 rfl) ?_
                  refine lv_iload hx hb dX3_stretchBy_83 (lv_at hl 1 rfl) ?_
                  refine ni_cge hx hb 94 dX3_stretchBy_85 (by decide) (by omega) (by omega) (fun c85 => ?_) (fun c85 => ?_)
                  · refine lv_iload_n hx hb dX3_stretchBy_94 rfl (lv_at hl 2 rfl) ?_
                    refine rp_iast C0 FX hH (k + 1) (by omega) fc ((cp * dv) + jj) ((a cp) / dv) (by omega) (by decide) dX3_stretchBy_95 (fun g5 H locs eq6 nq6 hH => ?_)
                    have fc : g5 (k + 1) = arr X 400 (va_up x8 ((cp * dv) + jj) ((a cp) / dv)) := eq6
                    have fk : g5 k = .inr (3, [.int (nI n), .ref (ad (k + 1))]) := (nq6 _ (by omega)).trans fk
                    have fr : ∀ j, j ≠ k → j ≠ (k + 1) → g5 j = g j := fun j a0 a1 => (nq6 j (by omega)).trans (fr j a0 a1)
                    refine lv_iinc (v := nI (jj + 1)) (lv' := [(5, .int (nI (jj + 1))), (4, .int (nI ((a cp) % dv))), (3, .int (nI ((a cp) / dv))), (2, .int (nI cp)), (0, .ref (ad k)), (1, .int (nI dv))]) hx hb dX3_stretchBy_96 hl (k := 0) rfl (ni_inc1 _) (by decide) rfl (fun ls hl => ?_)
                    refine lv_goto (tgt := 65) hx hb dX3_stretchBy_99 (by decide) ?_
                    exact ih65 (jj + 1) (va_up x8 ((cp * dv) + jj) ((a cp) / dv)) _ _ _ ls (by omega) (fun j hj => by rw [va_up_ne _ _ (by omega)]; exact m1 j hj) (fun j h1 h2 => by by_cases q : j = cp * dv + jj; rw [q, va_up_self, stf_at a c68, if_neg (by omega), Nat.add_zero]; rw [va_up_ne _ _ q]; exact m2 j h1 (by omega)) (fun j h1 h2 => by rw [va_up_ne _ _ (by rw [Nat.succ_mul] at h1; omega)]; exact m3 j h1 h2) (by omega) hH fk fc fr (lv_sub hl [0, 1, 2, 3, 4, 5] rfl)
                  · refine lv_iload_n hx hb dX3_stretchBy_88 rfl (lv_at hl 2 rfl) ?_
                    refine lv_iconst (v := nI 1) hx hb dX3_stretchBy_89 (by decide) ?_
                    refine ni_iadd hx hb dX3_stretchBy_90 ?_
                    refine lv_goto (tgt := 95) hx hb dX3_stretchBy_91 (by decide) ?_
                    refine rp_iast C0 FX hH (k + 1) (by omega) fc ((cp * dv) + jj) (((a cp) / dv) + 1) (by omega) (by decide) dX3_stretchBy_95 (fun g7 H locs eq8 nq8 hH => ?_)
                    have fc : g7 (k + 1) = arr X 400 (va_up x8 ((cp * dv) + jj) (((a cp) / dv) + 1)) := eq8
                    have fk : g7 k = .inr (3, [.int (nI n), .ref (ad (k + 1))]) := (nq8 _ (by omega)).trans fk
                    have fr : ∀ j, j ≠ k → j ≠ (k + 1) → g7 j = g j := fun j a0 a1 => (nq8 j (by omega)).trans (fr j a0 a1)
                    refine lv_iinc (v := nI (jj + 1)) (lv' := [(5, .int (nI (jj + 1))), (4, .int (nI ((a cp) % dv))), (3, .int (nI ((a cp) / dv))), (2, .int (nI cp)), (0, .ref (ad k)), (1, .int (nI dv))]) hx hb dX3_stretchBy_96 hl (k := 0) rfl (ni_inc1 _) (by decide) rfl (fun ls hl => ?_)
                    refine lv_goto (tgt := 65) hx hb dX3_stretchBy_99 (by decide) ?_
                    exact ih65 (jj + 1) (va_up x8 ((cp * dv) + jj) (((a cp) / dv) + 1)) _ _ _ ls (by omega) (fun j hj => by rw [va_up_ne _ _ (by omega)]; exact m1 j hj) (fun j h1 h2 => by by_cases q : j = cp * dv + jj; rw [q, va_up_self, stf_at a c68, if_pos c85]; rw [va_up_ne _ _ q]; exact m2 j h1 (by omega)) (fun j h1 h2 => by rw [va_up_ne _ _ (by rw [Nat.succ_mul] at h1; omega)]; exact m3 j h1 h2) (by omega) hH fk fc fr (lv_sub hl [0, 1, 2, 3, 4, 5] rfl)
            exact L65 ((dv - 0) + 1) 0 x9 _ _ _ ls (by omega) (fun j hj => j5 j (by omega)) (fun j h1 h2 => absurd h2 (by omega)) (j6) (Nat.lt_succ_self _) hH fk fc fr (lv_sub hl [0, 1, 2, 3, 4, 5] rfl)
      exact L39 (n + 1) n x _ _ _ ls (by omega) (hxa) (fun j h1 h2 => absurd h2 (by omega)) (Nat.lt_succ_self _) hH fk fc fr (lv_sub hl [0, 1, 2] rfl)
    · refine lv_bipush (v := (-4)) hx hb dX3_stretchBy_29 (by decide) ?_
      refine RET _ _ _ _ _ _ dX3_stretchBy_31 rfl ?_ hH
      exact post3 (by unfold sp_stretch; rw [if_pos ((rng_iff (by omega)).mpr (by omega)), tN_nI (by omega), if_pos c26]) ⟨x, fk, fc, hxa, hn, hab⟩ fr
  · refine lv_bipush (v := (-2)) hx hb dX3_stretchBy_14 (by decide) ?_
    refine RET _ _ _ _ _ _ dX3_stretchBy_16 rfl ?_ hH
    exact post3 (by unfold sp_stretch; rw [if_neg c11]) ⟨x, fk, fc, hxa, hn, hab⟩ fr
set_option maxHeartbeats 4000000 in
set_option maxRecDepth 100000 in
theorem k_X3_gatherBy (l : Launch) (X : Cx) (ad : Nat → Nat) (hi : inj 48 ad) (g : PF) (k : Nat) (hk : k + 1 < 48) (n : Nat) (a : Nat → Nat) (hR : rRow X ad k n a g) (p0 : Int32) : Ki l yX3_gatherBy wsX3_gatherBy zr2 X 48 ad g [.ref (ad k), .int p0] (fun r g' => r = (sp_gather p0 n a).1 ∧ rRow X ad k (sp_gather p0 n a).2.1 (sp_gather p0 n a).2.2 g' ∧ fr2 k g g') := by
  refine Ki.of (cc := cX3_gatherBy) (maxL := 4) hi (by decide) rfl (Nat.le_of_ble_eq_true rfl) ?_
  intro p e s m below meth c Q E RET ls hl
  obtain ⟨C0, FX, hH⟩ := E
  have hx := C0.1
  have hb := C0.2.1
  have kl33 := C0.2.2.2.2 (.constantLong RX3 33 (lN 2)) (by decide +kernel)
  have kl37 := C0.2.2.2.2 (.constantLong RX3 37 (lN 20)) (by decide +kernel)
  have kiX3 : ∀ w ∈ u_ws RX3 TX3 2, w ∈ wsX3_gatherBy := (by decide +kernel)
  have kf11 : Cond.fieldLink RX3 11 "YarnMill$Row" "cells" "[I" ∈ wsX3_gatherBy := (by decide +kernel)
  have kf21 : Cond.fieldLink RX3 21 "YarnMill$Row" "size" "I" ∈ wsX3_gatherBy := (by decide +kernel)
  have kc32 := C0.2.2.2.2 (.constant RX3 32 (nI 1000000)) (by decide +kernel)
  have hl : lv_has ls 4 [(0, .ref (ad k)), (1, .int p0)] := hl
  have fr : ∀ j, j ≠ k → j ≠ (k + 1) → g j = g j := fun j _ _ => rfl
  obtain ⟨x, fk, fc, hxa, hn, hab⟩ := hR
  refine lv_iload_n hx hb dX3_gatherBy_0 rfl (lv_at hl 1 rfl) ?_
  refine lv_i2l hx hb dX3_gatherBy_1 rfl ?_
  refine lv_ldc2 hx hb C0.2.2.2.1 kl33 dX3_gatherBy_2 ?_
  refine lv_ldc2 hx hb C0.2.2.2.1 kl37 dX3_gatherBy_5 ?_
  refine rc_Ni (rest := []) C0 FX hH (k_X5_within_rng l X ad hi _ p0 2 20 (by omega) (by omega)) ⟨va_cnB 3 C0.2.2.2.2 gX3_gatherBy_X5_within_n17 rfl rfl rfl (FX.1.2 (RX3, 17, yX5_within) (by decide +kernel)) (C0.2.2.2.2 (.initialized RX5) (by decide +kernel)) (by decide +kernel) ⟨Nat.le_of_ble_eq_true rfl, Nat.le_of_ble_eq_true rfl⟩, C0.2.2.2.2 (.static yX5_within) (by decide +kernel), trivial⟩ rfl rfl hl.1 (Nat.le_of_ble_eq_true rfl) dX3_gatherBy_8 ⟨Nat.le_of_ble_eq_true rfl, Nat.le_of_ble_eq_true rfl⟩ (fun r8 g8c H locs h8 hH => ?_)
  obtain ⟨e8, rfl⟩ := h8
  rw [e8] at hH
  refine rb_ne hx hb 17 dX3_gatherBy_11 (by decide) (fun c11 => ?_) (fun c11 => ?_)
  · obtain ⟨gv, rfl, gv1, gv2, gv3⟩ := rng_nI c11
    refine lv_iconst (v := nI 0) hx hb dX3_gatherBy_17 (by decide) ?_
    refine lv_istore_n (lv' := [(2, .int (nI 0)), (0, .ref (ad k)), (1, .int (nI gv))]) hx hb dX3_gatherBy_18 rfl hl (by decide) rfl (fun ls hl => ?_)
    have L19 : ∀ (fu : Nat) (t : Nat) (q : Nat) (H : Heap) (locs : List Loc) (ls : Array Slot), (t ≤ n + gv) → (t = q * gv) → (q ≤ (n + gv - 1) / gv) → (∀ i, i < q → gsm n a gv i ≤ 1000000) → n - t < fu → WH X 48 ad (pA 48 ad s.heap.size) s g H locs → lv_has ls 4 [(2, .int (nI t)), (0, .ref (ad k)), (1, .int (nI gv))] → W p l e zr2 s m ([.ref (ad k), .int (nI gv)] : List Value).toArray below meth c H locs 0 0 Q (F0 m 19 ls []) := by
      intro fu
      induction fu with
      | zero =>
        intro t q H locs ls j4 j1 j2 j3 hm
        exact absurd hm (Nat.not_lt_zero _)
      | succ fu ih =>
        have ih19 := ih; clear ih
        intro t q H locs ls j4 j1 j2 j3 hm19 hH hl
        have hsg := sg_le (a := a) (f := t) (k := min (t + gv) n - t) (b := 1000000) (fun j hj => hab _ (by omega))
        refine lv_iload_n hx hb dX3_gatherBy_19 rfl (lv_at hl 0 rfl) ?_
        refine lv_aload_n hx hb dX3_gatherBy_20 rfl (lv_at hl 1 rfl) ?_
        refine rp_get C0 FX hH k (by omega) (ci := 3) (k := 0) fk rfl kiX3 (by decide) kf21 rfl dX3_gatherBy_21 ?_
        refine ni_cge hx hb 48 dX3_gatherBy_24 (by decide) (by omega) (by omega) (fun c24 => ?_) (fun c24 => ?_)
        · have hq9 : q = (n + gv - 1) / gv := Nat.le_antisymm j2 (Nat.le_of_not_lt (fun z => by have := (ceil_lt (by omega)).mp z; omega))
          have hFC : ∀ i, i < (n + gv - 1) / gv → gsm n a gv i ≤ 1000000 := fun i h => j3 i (by omega)
          refine lv_iconst (v := nI 0) hx hb dX3_gatherBy_48 (by decide) ?_
          refine lv_istore_n (lv' := [(2, .int (nI 0)), (0, .ref (ad k)), (1, .int (nI gv))]) hx hb dX3_gatherBy_49 rfl hl (by decide) rfl (fun ls hl => ?_)
          refine lv_iconst (v := nI 0) hx hb dX3_gatherBy_50 (by decide) ?_
          refine lv_istore_n (lv' := [(3, .int (nI 0)), (2, .int (nI 0)), (0, .ref (ad k)), (1, .int (nI gv))]) hx hb dX3_gatherBy_51 rfl hl (by decide) rfl (fun ls hl => ?_)
          have L52 : ∀ (fu : Nat) (gd : Nat) (t : Nat) (x9 : Nat → Nat) (g1 : PF) (H : Heap) (locs : List Loc) (ls : Array Slot), (t ≤ n + gv) → (gd ≤ n) → (t = gd * gv) → (gd ≤ (n + gv - 1) / gv) → (∀ j, t ≤ j → j < n → x9 j = a j) → (∀ j, j < gd → x9 j = gsm n a gv j) → (∀ j, j < n → x9 j ≤ 1000000) → n - t < fu → WH X 48 ad (pA 48 ad s.heap.size) s g1 H locs → g1 k = .inr (3, [.int (nI n), .ref (ad (k + 1))]) → g1 (k + 1) = arr X 400 x9 → (∀ j, j ≠ k → j ≠ (k + 1) → g1 j = g j) → lv_has ls 4 [(3, .int (nI t)), (2, .int (nI gd)), (0, .ref (ad k)), (1, .int (nI gv))] → W p l e zr2 s m ([.ref (ad k), .int (nI gv)] : List Value).toArray below meth c H locs 0 0 Q (F0 m 52 ls []) := by
            intro fu
            induction fu with
            | zero =>
              intro gd t x9 g1 H locs ls k4 k3 k1 k2 k5 k6 k9 hm
              exact absurd hm (Nat.not_lt_zero _)
            | succ fu ih =>
              have ih52 := ih; clear ih
              intro gd t x9 g1 H locs ls k4 k3 k1 k2 k5 k6 k9 hm52 hH fk fc fr hl
              have hgt := Nat.le_mul_of_pos_right gd (show 0 < gv by omega)
              refine lv_iload_n hx hb dX3_gatherBy_52 rfl (lv_at hl 0 rfl) ?_
              refine lv_aload_n hx hb dX3_gatherBy_53 rfl (lv_at hl 2 rfl) ?_
              refine rp_get C0 FX hH k (by omega) (ci := 3) (k := 0) fk rfl kiX3 (by decide) kf21 rfl dX3_gatherBy_54 ?_
              refine ni_cge hx hb 82 dX3_gatherBy_57 (by decide) (by omega) (by omega) (fun c57 => ?_) (fun c57 => ?_)
              · have hq8 : gd = (n + gv - 1) / gv := Nat.le_antisymm k2 (Nat.le_of_not_lt (fun z => by have := (ceil_lt (by omega)).mp z; omega))
                refine lv_aload_n hx hb dX3_gatherBy_82 rfl (lv_at hl 2 rfl) ?_
                refine lv_iload_n hx hb dX3_gatherBy_83 rfl (lv_at hl 1 rfl) ?_
                refine rp_put C0 FX hH k (by omega) (ci := 3) (k := 0) tyX3 tyX3_ok nmX3 fk rfl kiX3 (by decide) kf21 rfl rfl rfl (Nat.le_of_ble_eq_true rfl) dX3_gatherBy_84 (fun g2 H locs eq3 nq3 hH => ?_)
                have fk : g2 k = .inr (3, [.int (nI gd), .ref (ad (k + 1))]) := eq3
                have fc : g2 (k + 1) = arr X 400 x9 := (nq3 _ (by omega)).trans fc
                have fr : ∀ j, j ≠ k → j ≠ (k + 1) → g2 j = g j := fun j a0 a1 => (nq3 j (by omega)).trans (fr j a0 a1)
                refine lv_aload_n hx hb dX3_gatherBy_87 rfl (lv_at hl 2 rfl) ?_
                refine rp_get C0 FX hH k (by omega) (ci := 3) (k := 0) fk rfl kiX3 (by decide) kf21 rfl dX3_gatherBy_88 ?_
                refine RET _ _ _ _ _ _ dX3_gatherBy_91 rfl ?_ hH
                exact post3 (by unfold sp_gather; rw [if_pos ((rng_iff (by omega)).mpr (by omega)), tN_nI (by omega), if_pos hFC, ← hq8]) ⟨x9, fk, fc, k6, by omega, fun j hj => hFC j (by omega)⟩ fr
              · refine lv_aload_n hx hb dX3_gatherBy_60 rfl (lv_at hl 2 rfl) ?_
                refine rp_get C0 FX hH k (by omega) (ci := 3) (k := 1) fk rfl kiX3 (by decide) kf11 rfl dX3_gatherBy_61 ?_
                refine lv_iload_n hx hb dX3_gatherBy_64 rfl (lv_at hl 1 rfl) ?_
                refine lv_aload_n hx hb dX3_gatherBy_65 rfl (lv_at hl 2 rfl) ?_
                refine lv_iload_n hx hb dX3_gatherBy_66 rfl (lv_at hl 0 rfl) ?_
                refine lv_iload_n hx hb dX3_gatherBy_67 rfl (lv_at hl 3 rfl) ?_
                refine rc_Vi (rest := [.int (nI gd), .ref (ad (k + 1))]) C0 FX hH k (by omega) fk rfl (k_X3_sumOf l X ad hi _ k hk n x9 ⟨x9, fk, fc, fun j _ => rfl, hn, k9⟩ t gv (by omega) (by omega)) (cwV 2 C0.2.2.2.2 gX3_gatherBy_X3_sumOf rfl rfl rfl (by decide +kernel) ⟨Nat.le_of_ble_eq_true rfl, Nat.le_of_ble_eq_true rfl⟩) rfl rfl hl.1 (Nat.le_of_ble_eq_true rfl) dX3_gatherBy_68 ⟨Nat.le_of_ble_eq_true rfl, Nat.le_of_ble_eq_true rfl⟩ (fun r68 g68c H locs h68 hH => ?_)
                obtain ⟨e68, rfl⟩ := h68
                rw [e68] at hH
                rw [sg_cong (b := a) (fun j h1 h2 => k5 j h1 (by omega))]
                refine rp_iast C0 FX hH (k + 1) (by omega) fc gd (sg a t (min (t + gv) n - t)) (by omega) (by decide) dX3_gatherBy_71 (fun g4 H locs eq5 nq5 hH => ?_)
                have fc : g4 (k + 1) = arr X 400 (va_up x9 gd (sg a t (min (t + gv) n - t))) := eq5
                have fk : g4 k = .inr (3, [.int (nI n), .ref (ad (k + 1))]) := (nq5 _ (by omega)).trans fk
                have fr : ∀ j, j ≠ k → j ≠ (k + 1) → g4 j = g j := fun j a0 a1 => (nq5 j (by omega)).trans (fr j a0 a1)
                refine lv_iinc (v := nI (gd + 1)) (lv' := [(2, .int (nI (gd + 1))), (3, .int (nI t)), (0, .ref (ad k)), (1, .int (nI gv))]) hx hb dX3_gatherBy_72 hl (k := 1) rfl (ni_inc1 _) (by decide) rfl (fun ls hl => ?_)
                refine lv_iload_n hx hb dX3_gatherBy_75 rfl (lv_at hl 1 rfl) ?_
                refine lv_iload_n hx hb dX3_gatherBy_76 rfl (lv_at hl 3 rfl) ?_
                refine ni_iadd hx hb dX3_gatherBy_77 ?_
                refine lv_istore_n (lv' := [(3, .int (nI (t + gv))), (2, .int (nI (gd + 1))), (0, .ref (ad k)), (1, .int (nI gv))]) hx hb dX3_gatherBy_78 rfl hl (by decide) rfl (fun ls hl => ?_)
                refine lv_goto (tgt := 52) hx hb dX3_gatherBy_79 (by decide) ?_
                exact ih52 (gd + 1) (t + gv) (va_up x9 gd (sg a t (min (t + gv) n - t))) _ _ _ ls (by omega) (by omega) (by rw [Nat.succ_mul, k1]) ((ceil_lt (by omega)).mpr (by omega)) (up_ge k5 (by omega) (by omega)) (fun j h => by by_cases z : j = gd; subst z; rw [va_up_self]; unfold gsm; rw [← k1]; rw [va_up_ne _ _ z]; exact k6 j (by omega)) (up_le k9 (by have := hFC gd ((ceil_lt (by omega)).mpr (by omega)); unfold gsm at this; rw [← k1] at this; exact this)) (by omega) hH fk fc fr (lv_sub hl [0, 1, 2, 3] rfl)
          exact L52 ((n - 0) + 1) 0 0 x _ _ _ ls (by omega) (by omega) (by rw [Nat.zero_mul]) (Nat.zero_le _) (fun j _ h => hxa j h) (fun j h => absurd h (Nat.not_lt_zero _)) (fun j h => by rw [hxa j h]; exact hab j h) (Nat.lt_succ_self _) hH fk fc fr (lv_sub hl [0, 1, 2, 3] rfl)
        · refine lv_aload_n hx hb dX3_gatherBy_27 rfl (lv_at hl 1 rfl) ?_
          refine lv_iload_n hx hb dX3_gatherBy_28 rfl (lv_at hl 0 rfl) ?_
          refine lv_iload_n hx hb dX3_gatherBy_29 rfl (lv_at hl 2 rfl) ?_
          refine rc_Vi (rest := []) C0 FX hH k (by omega) fk rfl (k_X3_sumOf l X ad hi _ k hk n a ⟨x, fk, fc, hxa, hn, hab⟩ t gv (by omega) (by omega)) (cwV 2 C0.2.2.2.2 gX3_gatherBy_X3_sumOf rfl rfl rfl (by decide +kernel) ⟨Nat.le_of_ble_eq_true rfl, Nat.le_of_ble_eq_true rfl⟩) rfl rfl hl.1 (Nat.le_of_ble_eq_true rfl) dX3_gatherBy_30 ⟨Nat.le_of_ble_eq_true rfl, Nat.le_of_ble_eq_true rfl⟩ (fun r30 g30c H locs h30 hH => ?_)
          obtain ⟨e30, rfl⟩ := h30
          rw [e30] at hH
          refine lv_ldc hx hb C0.2.2.2.1 kc32 dX3_gatherBy_33 ?_
          refine ni_cle hx hb 41 dX3_gatherBy_35 (by decide) (by omega) (by omega) (fun c35 => ?_) (fun c35 => ?_)
          · refine lv_iload_n hx hb dX3_gatherBy_41 rfl (lv_at hl 0 rfl) ?_
            refine lv_iload_n hx hb dX3_gatherBy_42 rfl (lv_at hl 2 rfl) ?_
            refine ni_iadd hx hb dX3_gatherBy_43 ?_
            refine lv_istore_n (lv' := [(2, .int (nI (t + gv))), (0, .ref (ad k)), (1, .int (nI gv))]) hx hb dX3_gatherBy_44 rfl hl (by decide) rfl (fun ls hl => ?_)
            refine lv_goto (tgt := 19) hx hb dX3_gatherBy_45 (by decide) ?_
            exact ih19 (t + gv) (q + 1) _ _ ls (by omega) (by rw [Nat.succ_mul, j1]) ((ceil_lt (by omega)).mpr (by omega)) (fun i h => by rcases Nat.lt_succ_iff_lt_or_eq.mp h with z | z; exact j3 i z; subst z; unfold gsm; rw [← j1]; exact c35) (by omega) hH (lv_sub hl [0, 1, 2] rfl)
          · refine lv_bipush (v := (-6)) hx hb dX3_gatherBy_38 (by decide) ?_
            refine RET _ _ _ _ _ _ dX3_gatherBy_40 rfl ?_ hH
            exact post3 (by unfold sp_gather; rw [if_pos ((rng_iff (by omega)).mpr (by omega)), tN_nI (by omega), if_neg (fun z => by have z2 := z q ((ceil_lt (by omega)).mpr (by omega)); unfold gsm at z2; rw [← j1] at z2; omega)]) ⟨x, fk, fc, hxa, hn, hab⟩ fr
    exact L19 ((n - 0) + 1) 0 0 _ _ ls (by omega) (by rw [Nat.zero_mul]) (Nat.zero_le _) (fun i h => absurd h (Nat.not_lt_zero _)) (Nat.lt_succ_self _) hH (lv_sub hl [0, 1, 2] rfl)
  · refine lv_bipush (v := (-2)) hx hb dX3_gatherBy_14 (by decide) ?_
    refine RET _ _ _ _ _ _ dX3_gatherBy_16 rfl ?_ hH
    exact post3 (by unfold sp_gather; rw [if_neg c11]) ⟨x, fk, fc, hxa, hn, hab⟩ fr
set_option maxHeartbeats 4000000 in
set_option maxRecDepth 100000 in
theorem k_X3_addDrawn (l : Launch) (X : Cx) (ad : Nat → Nat) (hi : inj 48 ad) (g : PF) (k : Nat) (hk : k + 1 < 48) (n : Nat) (a : Nat → Nat) (hR : rRow X ad k n a g) (nn mm ww sd : Int32) : Ki l yX3_addDrawn wsX3_addDrawn zr1 X 48 ad g [.ref (ad k), .int nn, .int mm, .int ww, .int sd] (fun r g' => r = (sp_draw nn mm ww sd n a).1 ∧ rRow X ad k (sp_draw nn mm ww sd n a).2.1 (sp_draw nn mm ww sd n a).2.2 g' ∧ fr2 k g g') := by
  refine Ki.of (cc := cX3_addDrawn) (maxL := 7) hi (by decide) rfl (Nat.le_of_ble_eq_true rfl) ?_
  intro p e s m below meth c Q E RET ls hl
  obtain ⟨C0, FX, hH⟩ := E
  have hx := C0.1
  have hb := C0.2.1
  have kl25 := C0.2.2.2.2 (.constantLong RX3 25 (lN 100)) (by decide +kernel)
  have kl27 := C0.2.2.2.2 (.constantLong RX3 27 (lN 10000)) (by decide +kernel)
  have kiX3 : ∀ w ∈ u_ws RX3 TX3 2, w ∈ wsX3_addDrawn := (by decide +kernel)
  have kf11 : Cond.fieldLink RX3 11 "YarnMill$Row" "cells" "[I" ∈ wsX3_addDrawn := (by decide +kernel)
  have kf21 : Cond.fieldLink RX3 21 "YarnMill$Row" "size" "I" ∈ wsX3_addDrawn := (by decide +kernel)
  have kc29 := C0.2.2.2.2 (.constant RX3 29 (nI 1103515245)) (by decide +kernel)
  have kc30 := C0.2.2.2.2 (.constant RX3 30 (nI 2147483647)) (by decide +kernel)
  have kc31 := C0.2.2.2.2 (.constant RX3 31 (nI 65536)) (by decide +kernel)
  have hl : lv_has ls 7 [(0, .ref (ad k)), (1, .int nn), (2, .int mm), (3, .int ww), (4, .int sd)] := hl
  have fr : ∀ j, j ≠ k → j ≠ (k + 1) → g j = g j := fun j _ _ => rfl
  obtain ⟨x, fk, fc, hxa, hn, hab⟩ := hR
  refine lv_iload_n hx hb dX3_addDrawn_0 rfl (lv_at hl 1 rfl) ?_
  refine lv_i2l hx hb dX3_addDrawn_1 rfl ?_
  refine lv_lconst (v := lN 1) hx hb dX3_addDrawn_2 (by decide) ?_
  refine lv_ldc2 hx hb C0.2.2.2.1 kl25 dX3_addDrawn_3 ?_
  refine rc_Ni (rest := []) C0 FX hH (k_X5_within_rng l X ad hi _ nn 1 100 (by omega) (by omega)) ⟨va_cnB 3 C0.2.2.2.2 gX3_addDrawn_X5_within_n17 rfl rfl rfl (FX.1.2 (RX3, 17, yX5_within) (by decide +kernel)) (C0.2.2.2.2 (.initialized RX5) (by decide +kernel)) (by decide +kernel) ⟨Nat.le_of_ble_eq_true rfl, Nat.le_of_ble_eq_true rfl⟩, C0.2.2.2.2 (.static yX5_within) (by decide +kernel), trivial⟩ rfl rfl hl.1 (Nat.le_of_ble_eq_true rfl) dX3_addDrawn_6 ⟨Nat.le_of_ble_eq_true rfl, Nat.le_of_ble_eq_true rfl⟩ (fun r6 g6c H locs h6 hH => ?_)
  obtain ⟨e6, rfl⟩ := h6
  rw [e6] at hH
  refine rb_eq hx hb 40 dX3_addDrawn_9 (by decide) (fun c9 => ?_) (fun c9 => ?_)
  · refine lv_bipush (v := (-2)) hx hb dX3_addDrawn_40 (by decide) ?_
    refine RET _ _ _ _ _ _ dX3_addDrawn_42 rfl ?_ hH
    exact post3 (by unfold sp_draw; rw [if_neg (fun z => by first | exact absurd z.1 (by assumption) | exact absurd z.2.1 (by assumption) | exact absurd z.2.2.2 (by assumption) | (have z3 := z.2.2.1; rw [tN_nI (by omega)] at z3; exact absurd z3 (by assumption)))]) ⟨x, fk, fc, hxa, hn, hab⟩ fr
  · obtain ⟨nv, rfl, nv1, nv2, nv3⟩ := rng_nI c9
    refine lv_iload_n hx hb dX3_addDrawn_12 rfl (lv_at hl 2 rfl) ?_
    refine lv_i2l hx hb dX3_addDrawn_13 rfl ?_
    refine lv_lconst (v := lN 0) hx hb dX3_addDrawn_14 (by decide) ?_
    refine lv_ldc2 hx hb C0.2.2.2.1 kl27 dX3_addDrawn_15 ?_
    refine rc_Ni (rest := []) C0 FX hH (k_X5_within_rng l X ad hi _ mm 0 10000 (by omega) (by omega)) ⟨va_cnB 3 C0.2.2.2.2 gX3_addDrawn_X5_within_n17 rfl rfl rfl (FX.1.2 (RX3, 17, yX5_within) (by decide +kernel)) (C0.2.2.2.2 (.initialized RX5) (by decide +kernel)) (by decide +kernel) ⟨Nat.le_of_ble_eq_true rfl, Nat.le_of_ble_eq_true rfl⟩, C0.2.2.2.2 (.static yX5_within) (by decide +kernel), trivial⟩ rfl rfl hl.1 (Nat.le_of_ble_eq_true rfl) dX3_addDrawn_18 ⟨Nat.le_of_ble_eq_true rfl, Nat.le_of_ble_eq_true rfl⟩ (fun r18 g18c H locs h18 hH => ?_)
    obtain ⟨e18, rfl⟩ := h18
    rw [e18] at hH
    refine rb_eq hx hb 40 dX3_addDrawn_21 (by decide) (fun c21 => ?_) (fun c21 => ?_)
    · refine lv_bipush (v := (-2)) hx hb dX3_addDrawn_40 (by decide) ?_
      refine RET _ _ _ _ _ _ dX3_addDrawn_42 rfl ?_ hH
      exact post3 (by unfold sp_draw; rw [if_neg (fun z => by first | exact absurd z.1 (by assumption) | exact absurd z.2.1 (by assumption) | exact absurd z.2.2.2 (by assumption) | (have z3 := z.2.2.1; rw [tN_nI (by omega)] at z3; exact absurd z3 (by assumption)))]) ⟨x, fk, fc, hxa, hn, hab⟩ fr
    · obtain ⟨mv, rfl, mv1, mv2, mv3⟩ := rng_nI c21
      refine lv_iload_n hx hb dX3_addDrawn_24 rfl (lv_at hl 3 rfl) ?_
      refine lv_i2l hx hb dX3_addDrawn_25 rfl ?_
      refine lv_lconst (v := lN 0) hx hb dX3_addDrawn_26 (by decide) ?_
      refine lv_iload_n hx hb dX3_addDrawn_27 rfl (lv_at hl 2 rfl) ?_
      refine ni_i2l hx hb (by omega) dX3_addDrawn_28 ?_
      refine rc_Ni (rest := []) C0 FX hH (k_X5_within_rng l X ad hi _ ww 0 mv (by omega) (by omega)) ⟨va_cnB 3 C0.2.2.2.2 gX3_addDrawn_X5_within_n17 rfl rfl rfl (FX.1.2 (RX3, 17, yX5_within) (by decide +kernel)) (C0.2.2.2.2 (.initialized RX5) (by decide +kernel)) (by decide +kernel) ⟨Nat.le_of_ble_eq_true rfl, Nat.le_of_ble_eq_true rfl⟩, C0.2.2.2.2 (.static yX5_within) (by decide +kernel), trivial⟩ rfl rfl hl.1 (Nat.le_of_ble_eq_true rfl) dX3_addDrawn_29 ⟨Nat.le_of_ble_eq_true rfl, Nat.le_of_ble_eq_true rfl⟩ (fun r29 g29c H locs h29 hH => ?_)
      obtain ⟨e29, rfl⟩ := h29
      rw [e29] at hH
      refine rb_eq hx hb 40 dX3_addDrawn_32 (by decide) (fun c32 => ?_) (fun c32 => ?_)
      · refine lv_bipush (v := (-2)) hx hb dX3_addDrawn_40 (by decide) ?_
        refine RET _ _ _ _ _ _ dX3_addDrawn_42 rfl ?_ hH
        exact post3 (by unfold sp_draw; rw [if_neg (fun z => by first | exact absurd z.1 (by assumption) | exact absurd z.2.1 (by assumption) | exact absurd z.2.2.2 (by assumption) | (have z3 := z.2.2.1; rw [tN_nI (by omega)] at z3; exact absurd z3 (by assumption)))]) ⟨x, fk, fc, hxa, hn, hab⟩ fr
      · obtain ⟨wv, rfl, wv1, wv2, wv3⟩ := rng_nI c32
        refine lv_iload hx hb dX3_addDrawn_35 (lv_at hl 4 rfl) ?_
        refine lv_if_ge (tgt := 43) hx hb dX3_addDrawn_37 (by decide) (fun c37 => ?_) (fun c37 => ?_)
        · obtain ⟨sv, rfl, sv3⟩ := ge0_nI c37
          refine lv_aload_n hx hb dX3_addDrawn_43 rfl (lv_at hl 0 rfl) ?_
          refine rp_get C0 FX hH k (by omega) (ci := 3) (k := 0) fk rfl kiX3 (by decide) kf21 rfl dX3_addDrawn_44 ?_
          refine lv_iload_n hx hb dX3_addDrawn_47 rfl (lv_at hl 1 rfl) ?_
          refine ni_iadd hx hb dX3_addDrawn_48 ?_
          refine lv_sipush (v := nI 400) hx hb dX3_addDrawn_49 (by decide) ?_
          refine ni_cle hx hb 58 dX3_addDrawn_52 (by decide) (by omega) (by omega) (fun c52 => ?_) (fun c52 => ?_)
          · refine lv_iload hx hb dX3_addDrawn_58 (lv_at hl 4 rfl) ?_
            refine lv_istore (lv' := [(5, .int (nI sv)), (0, .ref (ad k)), (1, .int (nI nv)), (2, .int (nI mv)), (3, .int (nI wv)), (4, .int (nI sv))]) hx hb dX3_addDrawn_60 hl (by decide) rfl (fun ls hl => ?_)
            refine lv_iconst (v := nI 0) hx hb dX3_addDrawn_62 (by decide) ?_
            refine lv_istore (lv' := [(6, .int (nI 0)), (5, .int (nI sv)), (0, .ref (ad k)), (1, .int (nI nv)), (2, .int (nI mv)), (3, .int (nI wv)), (4, .int (nI sv))]) hx hb dX3_addDrawn_63 hl (by decide) rfl (fun ls hl => ?_)
            have L65 : ∀ (fu : Nat) (z : Nat) (i : Nat) (x9 : Nat → Nat) (g1 : PF) (H : Heap) (locs : List Loc) (ls : Array Slot), (i ≤ nv) → (z = lcg sv i) → (z < 2147483648) → (∀ j, j < n → x9 j = a j) → (∀ j, j < i → x9 (n + j) = dr mv wv sv j) → nv - i < fu → WH X 48 ad (pA 48 ad s.heap.size) s g1 H locs → g1 k = .inr (3, [.int (nI n), .ref (ad (k + 1))]) → g1 (k + 1) = arr X 400 x9 → (∀ j, j ≠ k → j ≠ (k + 1) → g1 j = g j) → lv_has ls 7 [(6, .int (nI i)), (5, .int (nI z)), (0, .ref (ad k)), (1, .int (nI nv)), (2, .int (nI mv)), (3, .int (nI wv)), (4, .int (nI sv))] → W p l e zr1 s m ([.ref (ad k), .int (nI nv), .int (nI mv), .int (nI wv), .int (nI sv)] : List Value).toArray below meth c H locs 0 0 Q (F0 m 65 ls []) := by
              intro fu
              induction fu with
              | zero =>
                intro z i x9 g1 H locs ls j1 j2 j3 j5 j6 hm
                exact absurd hm (Nat.not_lt_zero _)
              | succ fu ih =>
                have ih65 := ih; clear ih
                intro z i x9 g1 H locs ls j1 j2 j3 j5 j6 hm65 hH fk fc fr hl
                refine lv_iload hx hb dX3_addDrawn_65 (lv_at hl 0 rfl) ?_
                refine lv_iload_n hx hb dX3_addDrawn_67 rfl (lv_at hl 3 rfl) ?_
                refine ni_cge hx hb 118 dX3_addDrawn_68 (by decide) (by omega) (by omega) (fun c68 => ?_) (fun c68 => ?_)
                · refine lv_aload_n hx hb dX3_addDrawn_118 rfl (lv_at hl 2 rfl) ?_
                  refine lv_dup hx hb dX3_addDrawn_119 rfl ?_
                  refine rp_get C0 FX hH k (by omega) (ci := 3) (k := 0) fk rfl kiX3 (by decide) kf21 rfl dX3_addDrawn_120 ?_
                  refine lv_iload_n hx hb dX3_addDrawn_123 rfl (lv_at hl 3 rfl) ?_
                  refine ni_iadd hx hb dX3_addDrawn_124 ?_
                  refine rp_put C0 FX hH k (by omega) (ci := 3) (k := 0) tyX3 tyX3_ok nmX3 fk rfl kiX3 (by decide) kf21 rfl rfl rfl (Nat.le_of_ble_eq_true rfl) dX3_addDrawn_125 (fun g2 H locs eq3 nq3 hH => ?_)
                  have fk : g2 k = .inr (3, [.int (nI (n + nv)), .ref (ad (k + 1))]) := eq3
                  have fc : g2 (k + 1) = arr X 400 x9 := (nq3 _ (by omega)).trans fc
                  have fr : ∀ j, j ≠ k → j ≠ (k + 1) → g2 j = g j := fun j a0 a1 => (nq3 j (by omega)).trans (fr j a0 a1)
                  refine lv_aload_n hx hb dX3_addDrawn_128 rfl (lv_at hl 2 rfl) ?_
                  refine rp_get C0 FX hH k (by omega) (ci := 3) (k := 0) fk rfl kiX3 (by decide) kf21 rfl dX3_addDrawn_129 ?_
                  refine RET _ _ _ _ _ _ dX3_addDrawn_132 rfl ?_ hH
                  refine post3 (by unfold sp_draw; rw [if_pos ⟨(rng_iff (by omega)).mpr (by omega), (rng_iff (by omega)).mpr (by omega), (rng_iff (by omega)).mpr (by rw [tN_nI (by omega)]; omega), c37⟩, tN_nI (by omega), tN_nI (by omega), tN_nI (by omega), tN_nI (by omega), if_neg (by omega)]) ⟨x9, fk, fc, fun j hj => ?_, by omega, fun j hj => ?_⟩ fr
                  · rcases Nat.lt_or_ge j n with q | q
                    · rw [if_pos q]; exact j5 j q
                    · rw [if_neg (by omega), ← j6 (j - n) (by omega), show n + (j - n) = j by omega]
                  · rcases Nat.lt_or_ge j n with q | q
                    · rw [if_pos q]; exact hab j q
                    · rw [if_neg (by omega)]; unfold dr; have := Nat.mod_lt (lcg sv (j - n + 1) / 65536) (show 0 < 2 * wv + 1 by omega); omega
                · refine lv_iload hx hb dX3_addDrawn_71 (lv_at hl 1 rfl) ?_
                  refine lv_ldc hx hb C0.2.2.2.1 kc29 dX3_addDrawn_73 ?_
                  refine ni_imul hx hb dX3_addDrawn_75 ?_
                  refine lv_sipush (v := nI 12345) hx hb dX3_addDrawn_76 (by decide) ?_
                  refine ni_iadd hx hb dX3_addDrawn_79 ?_
                  refine lv_ldc hx hb C0.2.2.2.1 kc30 dX3_addDrawn_80 ?_
                  refine ni_mask31 hx hb dX3_addDrawn_82 ?_
                  refine lv_istore (lv' := [(5, .int (nI (((z * 1103515245) + 12345) % 2147483648))), (6, .int (nI i)), (0, .ref (ad k)), (1, .int (nI nv)), (2, .int (nI mv)), (3, .int (nI wv)), (4, .int (nI sv))]) hx hb dX3_addDrawn_83 hl (by decide) rfl (fun ls hl => ?_)
                  refine lv_aload_n hx hb dX3_addDrawn_85 rfl (lv_at hl 2 rfl) ?_
                  refine rp_get C0 FX hH k (by omega) (ci := 3) (k := 1) fk rfl kiX3 (by decide) kf11 rfl dX3_addDrawn_86 ?_
                  refine lv_aload_n hx hb dX3_addDrawn_89 rfl (lv_at hl 2 rfl) ?_
                  refine rp_get C0 FX hH k (by omega) (ci := 3) (k := 0) fk rfl kiX3 (by decide) kf21 rfl dX3_addDrawn_90 ?_
                  refine lv_iload hx hb dX3_addDrawn_93 (lv_at hl 1 rfl) ?_
                  refine ni_iadd hx hb dX3_addDrawn_95 ?_
                  refine lv_iload_n hx hb dX3_addDrawn_96 rfl (lv_at hl 4 rfl) ?_
                  refine lv_iload hx hb dX3_addDrawn_97 (lv_at hl 0 rfl) ?_
                  refine lv_ldc hx hb C0.2.2.2.1 kc31 dX3_addDrawn_99 ?_
                  refine ni_idiv hx hb (by omega) (by omega) (by omega) dX3_addDrawn_101 ?_
                  refine lv_iconst (v := nI 2) hx hb dX3_addDrawn_102 (by decide) ?_
                  refine lv_iload_n hx hb dX3_addDrawn_103 rfl (lv_at hl 5 rfl) ?_
                  refine ni_imul hx hb dX3_addDrawn_104 ?_
                  refine lv_iconst (v := nI 1) hx hb dX3_addDrawn_105 (by decide) ?_
                  refine ni_iadd hx hb dX3_addDrawn_106 ?_
                  refine ni_irem hx hb (by omega) (by omega) (by omega) dX3_addDrawn_107 ?_
                  refine ni_iadd hx hb dX3_addDrawn_108 ?_
                  refine lv_iload_n hx hb dX3_addDrawn_109 rfl (lv_at hl 5 rfl) ?_
                  refine ni_isub hx hb (by omega) dX3_addDrawn_110 ?_
                  refine rp_iast C0 FX hH (k + 1) (by omega) fc (n + i) ((mv + (((((z * 1103515245) + 12345) % 2147483648) / 65536) % ((2 * wv) + 1))) - wv) (by omega) (by decide) dX3_addDrawn_111 (fun g4 H locs eq5 nq5 hH => ?_)
                  have fc : g4 (k + 1) = arr X 400 (va_up x9 (n + i) ((mv + (((((z * 1103515245) + 12345) % 2147483648) / 65536) % ((2 * wv) + 1))) - wv)) := eq5
                  have fk : g4 k = .inr (3, [.int (nI n), .ref (ad (k + 1))]) := (nq5 _ (by omega)).trans fk
                  have fr : ∀ j, j ≠ k → j ≠ (k + 1) → g4 j = g j := fun j a0 a1 => (nq5 j (by omega)).trans (fr j a0 a1)
                  refine lv_iinc (v := nI (i + 1)) (lv' := [(6, .int (nI (i + 1))), (5, .int (nI (((z * 1103515245) + 12345) % 2147483648))), (0, .ref (ad k)), (1, .int (nI nv)), (2, .int (nI mv)), (3, .int (nI wv)), (4, .int (nI sv))]) hx hb dX3_addDrawn_112 hl (k := 1) rfl (ni_inc1 _) (by decide) rfl (fun ls hl => ?_)
                  refine lv_goto (tgt := 65) hx hb dX3_addDrawn_115 (by decide) ?_
                  exact ih65 (((z * 1103515245) + 12345) % 2147483648) (i + 1) (va_up x9 (n + i) ((mv + (((((z * 1103515245) + 12345) % 2147483648) / 65536) % ((2 * wv) + 1))) - wv)) _ _ _ ls (by omega) (by rw [j2]; rfl) (by omega) (fun j h => by rw [va_up_ne _ _ (by omega)]; exact j5 j h) (fun j h => by by_cases q : j = i; subst q; rw [va_up_self]; unfold dr; rw [j2]; rfl; rw [va_up_ne _ _ (by omega)]; exact j6 j (by omega)) (by omega) hH fk fc fr (lv_sub hl [0, 1, 2, 3, 4, 5, 6] rfl)
            exact L65 ((nv - 0) + 1) sv 0 x _ _ _ ls (by omega) (by rfl) (by omega) (hxa) (fun j h => absurd h (Nat.not_lt_zero _)) (Nat.lt_succ_self _) hH fk fc fr (lv_sub hl [0, 1, 2, 3, 4, 5, 6] rfl)
          · refine lv_bipush (v := (-4)) hx hb dX3_addDrawn_55 (by decide) ?_
            refine RET _ _ _ _ _ _ dX3_addDrawn_57 rfl ?_ hH
            exact post3 (by unfold sp_draw; rw [if_pos ⟨(rng_iff (by omega)).mpr (by omega), (rng_iff (by omega)).mpr (by omega), (rng_iff (by omega)).mpr (by rw [tN_nI (by omega)]; omega), c37⟩, tN_nI (by omega), if_pos (by omega)]) ⟨x, fk, fc, hxa, hn, hab⟩ fr
        · refine lv_bipush (v := (-2)) hx hb dX3_addDrawn_40 (by decide) ?_
          refine RET _ _ _ _ _ _ dX3_addDrawn_42 rfl ?_ hH
          exact post3 (by unfold sp_draw; rw [if_neg (fun z => by first | exact absurd z.1 (by assumption) | exact absurd z.2.1 (by assumption) | exact absurd z.2.2.2 (by assumption) | (have z3 := z.2.2.1; rw [tN_nI (by omega)] at z3; exact absurd z3 (by assumption)))]) ⟨x, fk, fc, hxa, hn, hab⟩ fr
