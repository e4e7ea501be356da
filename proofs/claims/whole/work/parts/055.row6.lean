set_option maxHeartbeats 4000000 in
set_option maxRecDepth 100000 in
theorem k_X3_faultBy (l : Launch) (X : Cx) (ad : Nat → Nat) (hi : inj 48 ad) (g : PF) (k : Nat) (hk : k + 1 < 48) (n : Nat) (a : Nat → Nat) (hR : rRow X ad k n a g) (p0 p1 : Int32) : Ki l yX3_faultBy wsX3_faultBy zr2 X 48 ad g [.ref (ad k), .int p0, .int p1] (fun r g' => r = (sp_fault p0 p1 n a).1 ∧ rRow X ad k (sp_fault p0 p1 n a).2.1 (sp_fault p0 p1 n a).2.2 g' ∧ fr2 k g g') := by
  refine Ki.of (cc := cX3_faultBy) (maxL := 8) hi (by decide) rfl (Nat.le_of_ble_eq_true rfl) ?_
  intro p e s m below meth c Q E RET ls hl
  obtain ⟨C0, FX, hH⟩ := E
  have hx := C0.1
  have hb := C0.2.1
  have kl33 := C0.2.2.2.2 (.constantLong RX3 33 (lN 2)) (by decide +kernel)
  have kl43 := C0.2.2.2.2 (.constantLong RX3 43 (lN 400)) (by decide +kernel)
  have kl45 := C0.2.2.2.2 (.constantLong RX3 45 (lN 1000)) (by decide +kernel)
  have kiX3 : ∀ w ∈ u_ws RX3 TX3 2, w ∈ wsX3_faultBy := (by decide +kernel)
  have kf11 : Cond.fieldLink RX3 11 "YarnMill$Row" "cells" "[I" ∈ wsX3_faultBy := (by decide +kernel)
  have kf21 : Cond.fieldLink RX3 21 "YarnMill$Row" "size" "I" ∈ wsX3_faultBy := (by decide +kernel)
  have kc32 := C0.2.2.2.2 (.constant RX3 32 (nI 1000000)) (by decide +kernel)
  have hl : lv_has ls 8 [(0, .ref (ad k)), (1, .int p0), (2, .int p1)] := hl
  have fr : ∀ j, j ≠ k → j ≠ (k + 1) → g j = g j := fun j _ _ => rfl
  obtain ⟨x, fk, fc, hxa, hn, hab⟩ := hR
  refine lv_iload_n hx hb dX3_faultBy_0 rfl (lv_at hl 1 rfl) ?_
  refine lv_i2l hx hb dX3_faultBy_1 rfl ?_
  refine lv_ldc2 hx hb C0.2.2.2.1 kl33 dX3_faultBy_2 ?_
  refine lv_ldc2 hx hb C0.2.2.2.1 kl43 dX3_faultBy_5 ?_
  refine rc_Ni (rest := []) C0 FX hH (k_X5_within_rng l X ad hi _ p0 2 400 (by omega) (by omega)) ⟨va_cnB 3 C0.2.2.2.2 gX3_faultBy_X5_within_n17 rfl rfl rfl (FX.1.2 (RX3, 17, yX5_within) (by decide +kernel)) (C0.2.2.2.2 (.initialized RX5) (by decide +kernel)) (by decide +kernel) ⟨Nat.le_of_ble_eq_true rfl, Nat.le_of_ble_eq_true rfl⟩, C0.2.2.2.2 (.static yX5_within) (by decide +kernel), trivial⟩ rfl rfl hl.1 (Nat.le_of_ble_eq_true rfl) dX3_faultBy_8 ⟨Nat.le_of_ble_eq_true rfl, Nat.le_of_ble_eq_true rfl⟩ (fun r8 g8c H locs h8 hH => ?_)
  obtain ⟨e8, rfl⟩ := h8
  rw [e8] at hH
  refine rb_eq hx hb 26 dX3_faultBy_11 (by decide) (fun c11 => ?_) (fun c11 => ?_)
  · refine lv_bipush (v := (-2)) hx hb dX3_faultBy_26 (by decide) ?_
    refine RET _ _ _ _ _ _ dX3_faultBy_28 rfl ?_ hH
    exact post3 (by unfold sp_fault; rw [if_neg (fun z => by first | exact absurd z.1 (by assumption) | exact absurd z.2 (by assumption))]) ⟨x, fk, fc, hxa, hn, hab⟩ fr
  · obtain ⟨w, rfl, w1, w2, w3⟩ := rng_nI c11
    refine lv_iload_n hx hb dX3_faultBy_14 rfl (lv_at hl 2 rfl) ?_
    refine lv_i2l hx hb dX3_faultBy_15 rfl ?_
    refine lv_lconst (v := lN 0) hx hb dX3_faultBy_16 (by decide) ?_
    refine lv_ldc2 hx hb C0.2.2.2.1 kl45 dX3_faultBy_17 ?_
    refine rc_Ni (rest := []) C0 FX hH (k_X5_within_rng l X ad hi _ p1 0 1000 (by omega) (by omega)) ⟨va_cnB 3 C0.2.2.2.2 gX3_faultBy_X5_within_n17 rfl rfl rfl (FX.1.2 (RX3, 17, yX5_within) (by decide +kernel)) (C0.2.2.2.2 (.initialized RX5) (by decide +kernel)) (by decide +kernel) ⟨Nat.le_of_ble_eq_true rfl, Nat.le_of_ble_eq_true rfl⟩, C0.2.2.2.2 (.static yX5_within) (by decide +kernel), trivial⟩ rfl rfl hl.1 (Nat.le_of_ble_eq_true rfl) dX3_faultBy_20 ⟨Nat.le_of_ble_eq_true rfl, Nat.le_of_ble_eq_true rfl⟩ (fun r20 g20c H locs h20 hH => ?_)
    obtain ⟨e20, rfl⟩ := h20
    rw [e20] at hH
    refine rb_ne hx hb 29 dX3_faultBy_23 (by decide) (fun c23 => ?_) (fun c23 => ?_)
    · obtain ⟨sz, rfl, sz1, sz2, sz3⟩ := rng_nI c23
      have hdm := Nat.div_mul_le_self n w
      refine lv_iload_n hx hb dX3_faultBy_29 rfl (lv_at hl 1 rfl) ?_
      refine lv_iconst (v := nI 2) hx hb dX3_faultBy_30 (by decide) ?_
      refine ni_idiv hx hb (by omega) (by omega) (by omega) dX3_faultBy_31 ?_
      refine lv_istore_n (lv' := [(3, .int (nI (w / 2))), (0, .ref (ad k)), (1, .int (nI w)), (2, .int (nI sz))]) hx hb dX3_faultBy_32 rfl hl (by decide) rfl (fun ls hl => ?_)
      refine lv_iconst (v := nI 0) hx hb dX3_faultBy_33 (by decide) ?_
      refine lv_istore (lv' := [(4, .int (nI 0)), (3, .int (nI (w / 2))), (0, .ref (ad k)), (1, .int (nI w)), (2, .int (nI sz))]) hx hb dX3_faultBy_34 hl (by decide) rfl (fun ls hl => ?_)
      have L36 : ∀ (fu : Nat) (t : Nat) (q : Nat) (H : Heap) (locs : List Loc) (ls : Array Slot), (t = q * w) → (t ≤ n) → (q ≤ n / w) → (∀ r, r < q → ∀ i, i < w / 2 → a (r * w + i + w / 2) + gvn a sz (r * w + i) ≤ 1000000) → n - t < fu → WH X 48 ad (pA 48 ad s.heap.size) s g H locs → lv_has ls 8 [(4, .int (nI t)), (3, .int (nI (w / 2))), (0, .ref (ad k)), (1, .int (nI w)), (2, .int (nI sz))] → W p l e zr2 s m ([.ref (ad k), .int (nI w), .int (nI sz)] : List Value).toArray below meth c H locs 0 0 Q (F0 m 36 ls []) := by
        intro fu
        induction fu with
        | zero =>
          intro t q H locs ls j1 j4 j2 j3 hm
          exact absurd hm (Nat.not_lt_zero _)
        | succ fu ih =>
          have ih36 := ih; clear ih
          intro t q H locs ls j1 j4 j2 j3 hm36 hH hl
          refine lv_iload hx hb dX3_faultBy_36 (lv_at hl 0 rfl) ?_
          refine lv_iload_n hx hb dX3_faultBy_38 rfl (lv_at hl 3 rfl) ?_
          refine ni_iadd hx hb dX3_faultBy_39 ?_
          refine lv_aload_n hx hb dX3_faultBy_40 rfl (lv_at hl 2 rfl) ?_
          refine rp_get C0 FX hH k (by omega) (ci := 3) (k := 0) fk rfl kiX3 (by decide) kf21 rfl dX3_faultBy_41 ?_
          refine ni_cgt hx hb 100 dX3_faultBy_44 (by decide) (by omega) (by omega) (fun c44 => ?_) (fun c44 => ?_)
          · have hqe : q = n / w := Nat.le_antisymm j2 (Nat.le_of_not_lt (fun z => by have z2 := (Nat.le_div_iff_mul_le (show 0 < w by omega)).mp (show q + 1 ≤ n / w from z); rw [Nat.succ_mul] at z2; omega))
            have hFC : fltC n a w sz := fun r h i hi => j3 r (by omega) i hi
            refine lv_iconst (v := nI 0) hx hb dX3_faultBy_100 (by decide) ?_
            refine lv_istore (lv' := [(4, .int (nI 0)), (3, .int (nI (w / 2))), (0, .ref (ad k)), (1, .int (nI w)), (2, .int (nI sz))]) hx hb dX3_faultBy_101 hl (by decide) rfl (fun ls hl => ?_)
            refine lv_iconst (v := nI 0) hx hb dX3_faultBy_103 (by decide) ?_
            refine lv_istore (lv' := [(5, .int (nI 0)), (4, .int (nI 0)), (3, .int (nI (w / 2))), (0, .ref (ad k)), (1, .int (nI w)), (2, .int (nI sz))]) hx hb dX3_faultBy_104 hl (by decide) rfl (fun ls hl => ?_)
            have L106 : ∀ (fu : Nat) (T : Nat) (t : Nat) (q : Nat) (x9 : Nat → Nat) (g1 : PF) (H : Heap) (locs : List Loc) (ls : Array Slot), (t = q * w) → (t ≤ n) → (q ≤ n / w) → (T = fltS n a w sz q) → (∀ j, j < n → x9 j = if j < t then flt n a w sz j else a j) → n - t < fu → WH X 48 ad (pA 48 ad s.heap.size) s g1 H locs → g1 k = .inr (3, [.int (nI n), .ref (ad (k + 1))]) → g1 (k + 1) = arr X 400 x9 → (∀ j, j ≠ k → j ≠ (k + 1) → g1 j = g j) → lv_has ls 8 [(5, .int (nI t)), (4, .int (nI T)), (3, .int (nI (w / 2))), (0, .ref (ad k)), (1, .int (nI w)), (2, .int (nI sz))] → W p l e zr2 s m ([.ref (ad k), .int (nI w), .int (nI sz)] : List Value).toArray below meth c H locs 0 0 Q (F0 m 106 ls []) := by
              intro fu
              induction fu with
              | zero =>
                intro T t q x9 g1 H locs ls j1 j4 j2 j3 j5 hm
                exact absurd hm (Nat.not_lt_zero _)
              | succ fu ih =>
                have ih106 := ih; clear ih
                intro T t q x9 g1 H locs ls j1 j4 j2 j3 j5 hm106 hH fk fc fr hl
                refine lv_iload hx hb dX3_faultBy_106 (lv_at hl 0 rfl) ?_
                refine lv_iload_n hx hb dX3_faultBy_108 rfl (lv_at hl 4 rfl) ?_
                refine ni_iadd hx hb dX3_faultBy_109 ?_
                refine lv_aload_n hx hb dX3_faultBy_110 rfl (lv_at hl 3 rfl) ?_
                refine rp_get C0 FX hH k (by omega) (ci := 3) (k := 0) fk rfl kiX3 (by decide) kf21 rfl dX3_faultBy_111 ?_
                refine ni_cgt hx hb 187 dX3_faultBy_114 (by decide) (by omega) (by omega) (fun c114 => ?_) (fun c114 => ?_)
                · have hqe2 : q = n / w := Nat.le_antisymm j2 (Nat.le_of_not_lt (fun z => by have z2 := (Nat.le_div_iff_mul_le (show 0 < w by omega)).mp (show q + 1 ≤ n / w from z); rw [Nat.succ_mul] at z2; omega))
                  refine lv_iload hx hb dX3_faultBy_187 (lv_at hl 1 rfl) ?_
                  refine RET _ _ _ _ _ _ dX3_faultBy_189 rfl ?_ hH
                  exact post3 (by unfold sp_fault; rw [if_pos ⟨(rng_iff (by omega)).mpr (by omega), (rng_iff (by omega)).mpr (by omega)⟩, tN_nI (by omega), tN_nI (by omega), if_pos hFC, j3, hqe2]) ⟨x9, fk, fc, fun j hj => by rw [j5 j hj]; split; rfl; exact (flt_out (by omega) (by rw [← hqe2]; omega)).symm, hn, flt_le (by omega) hFC hab⟩ fr
                · have hq1 : q + 1 ≤ n / w := (Nat.le_div_iff_mul_le (by omega)).mpr (by rw [Nat.succ_mul]; omega)
                  refine lv_iload hx hb dX3_faultBy_117 (lv_at hl 0 rfl) ?_
                  refine lv_istore (lv' := [(6, .int (nI t)), (5, .int (nI t)), (4, .int (nI T)), (3, .int (nI (w / 2))), (0, .ref (ad k)), (1, .int (nI w)), (2, .int (nI sz))]) hx hb dX3_faultBy_119 hl (by decide) rfl (fun ls hl => ?_)
                  have L121 : ∀ (fu : Nat) (T : Nat) (u : Nat) (x8 : Nat → Nat) (g2 : PF) (H : Heap) (locs : List Loc) (ls : Array Slot), (t ≤ u) → (u ≤ t + w / 2) → (T = fltS n a w sz q + sm (fun i => gvn a sz (q * w + i)) (u - t)) → (∀ j, j < n → x8 j = if j < t then flt n a w sz j else if j < u ∨ (t + w / 2 ≤ j ∧ j < u + w / 2) then flt n a w sz j else a j) → t + w / 2 - u < fu → WH X 48 ad (pA 48 ad s.heap.size) s g2 H locs → g2 k = .inr (3, [.int (nI n), .ref (ad (k + 1))]) → g2 (k + 1) = arr X 400 x8 → (∀ j, j ≠ k → j ≠ (k + 1) → g2 j = g j) → lv_has ls 8 [(6, .int (nI u)), (5, .int (nI t)), (4, .int (nI T)), (3, .int (nI (w / 2))), (0, .ref (ad k)), (1, .int (nI w)), (2, .int (nI sz))] → W p l e zr2 s m ([.ref (ad k), .int (nI w), .int (nI sz)] : List Value).toArray below meth c H locs 0 0 Q (F0 m 121 ls []) := by
                    intro fu
                    induction fu with
                    | zero =>
                      intro T u x8 g2 H locs ls m1 m2 m4 m5 hm
                      exact absurd hm (Nat.not_lt_zero _)
                    | succ fu ih =>
                      have ih121 := ih; clear ih
                      intro T u x8 g2 H locs ls m1 m2 m4 m5 hm121 hH fk fc fr hl
                      refine lv_iload hx hb dX3_faultBy_121 (lv_at hl 0 rfl) ?_
                      refine lv_iload hx hb dX3_faultBy_123 (lv_at hl 1 rfl) ?_
                      refine lv_iload_n hx hb dX3_faultBy_125 rfl (lv_at hl 3 rfl) ?_
                      refine ni_iadd hx hb dX3_faultBy_126 ?_
                      refine ni_cge hx hb 178 dX3_faultBy_127 (by decide) (by omega) (by omega) (fun c127 => ?_) (fun c127 => ?_)
                      · refine lv_iload hx hb dX3_faultBy_178 (lv_at hl 1 rfl) ?_
                        refine lv_iload_n hx hb dX3_faultBy_180 rfl (lv_at hl 5 rfl) ?_
                        refine ni_iadd hx hb dX3_faultBy_181 ?_
                        refine lv_istore (lv' := [(5, .int (nI (t + w))), (6, .int (nI u)), (4, .int (nI T)), (3, .int (nI (w / 2))), (0, .ref (ad k)), (1, .int (nI w)), (2, .int (nI sz))]) hx hb dX3_faultBy_182 hl (by decide) rfl (fun ls hl => ?_)
                        refine lv_goto (tgt := 106) hx hb dX3_faultBy_184 (by decide) ?_
                        exact ih106 T (t + w) (q + 1) x8 _ _ _ ls (by rw [Nat.succ_mul, j1]) (by omega) (hq1) (by rw [m4, show u - t = w / 2 by omega]; rfl) (flt_next j1 (by omega) m5) (by omega) hH fk fc fr (lv_sub hl [0, 2, 3, 4, 5, 6] rfl)
                      · have hxu : x8 u = a u := by rw [m5 u (by omega), if_neg (by omega), if_neg (by omega)]
                        have hxv : x8 (u + w / 2) = a (u + w / 2) := by rw [m5 (u + w / 2) (by omega), if_neg (by omega), if_neg (by omega)]
                        have hxu9 : ∀ j, j = u → x8 j = a j := fun j h => by rw [h]; exact hxu
                        have hb8 : ∀ j, j < n → x8 j ≤ 1000000 := fun j hj => by rw [m5 j hj]; split; exact flt_le (by omega) hFC hab j hj; split; exact flt_le (by omega) hFC hab j hj; exact hab j hj
                        have hgu : a u * sz / 1000 ≤ a u := gvn_le (a := a) (j := u) sz2
                        refine lv_aload_n hx hb dX3_faultBy_130 rfl (lv_at hl 4 rfl) ?_
                        refine lv_iload hx hb dX3_faultBy_131 (lv_at hl 0 rfl) ?_
                        refine lv_iload_n hx hb dX3_faultBy_133 rfl (lv_at hl 6 rfl) ?_
                        refine rc_Vi (rest := []) C0 FX hH k (by omega) fk rfl (k_X3_given l X ad hi _ k hk n x8 ⟨x8, fk, fc, fun j _ => rfl, hn, hb8⟩ u sz (by omega) (by omega)) (cwV 2 C0.2.2.2.2 gX3_faultBy_X3_given rfl rfl rfl (by decide +kernel) ⟨Nat.le_of_ble_eq_true rfl, Nat.le_of_ble_eq_true rfl⟩) rfl rfl hl.1 (Nat.le_of_ble_eq_true rfl) dX3_faultBy_134 ⟨Nat.le_of_ble_eq_true rfl, Nat.le_of_ble_eq_true rfl⟩ (fun r134 g134c H locs h134 hH => ?_)
                        obtain ⟨e134, rfl⟩ := h134
                        rw [e134] at hH
                        rw [hxu]
                        refine lv_istore (lv' := [(7, .int (nI (a u * sz / 1000))), (6, .int (nI u)), (5, .int (nI t)), (4, .int (nI T)), (3, .int (nI (w / 2))), (0, .ref (ad k)), (1, .int (nI w)), (2, .int (nI sz))]) hx hb dX3_faultBy_137 hl (by decide) rfl (fun ls hl => ?_)
                        refine lv_aload_n hx hb dX3_faultBy_139 rfl (lv_at hl 5 rfl) ?_
                        refine rp_get C0 FX hH k (by omega) (ci := 3) (k := 1) fk rfl kiX3 (by decide) kf11 rfl dX3_faultBy_140 ?_
                        refine lv_iload hx hb dX3_faultBy_143 (lv_at hl 1 rfl) ?_
                        refine lv_dup2_11 hx hb dX3_faultBy_145 rfl rfl ?_
                        refine rp_iald C0 FX hH (k + 1) (by omega) (v := a u) fc u (by omega) (by decide) (hxu9 _ rfl) dX3_faultBy_146 ?_
                        refine lv_iload hx hb dX3_faultBy_147 (lv_at hl 0 rfl) ?_
                        refine ni_isub hx hb (by omega) dX3_faultBy_149 ?_
                        refine rp_iast C0 FX hH (k + 1) (by omega) fc u ((a u) - (a u * sz / 1000)) (by omega) (by decide) dX3_faultBy_150 (fun g3 H locs eq4 nq4 hH => ?_)
                        have fc : g3 (k + 1) = arr X 400 (va_up x8 u ((a u) - (a u * sz / 1000))) := eq4
                        have fk : g3 k = .inr (3, [.int (nI n), .ref (ad (k + 1))]) := (nq4 _ (by omega)).trans fk
                        have fr : ∀ j, j ≠ k → j ≠ (k + 1) → g3 j = g j := fun j a0 a1 => (nq4 j (by omega)).trans (fr j a0 a1)
                        have hy150 : ∀ j, j = u + w / 2 → (va_up x8 u ((a u) - (a u * sz / 1000))) j = a j := fun j h => by rw [h, va_up_ne _ _ (by omega)]; exact hxv
                        refine lv_aload_n hx hb dX3_faultBy_151 rfl (lv_at hl 5 rfl) ?_
                        refine rp_get C0 FX hH k (by omega) (ci := 3) (k := 1) fk rfl kiX3 (by decide) kf11 rfl dX3_faultBy_152 ?_
                        refine lv_iload hx hb dX3_faultBy_155 (lv_at hl 1 rfl) ?_
                        refine lv_iload_n hx hb dX3_faultBy_157 rfl (lv_at hl 4 rfl) ?_
                        refine ni_iadd hx hb dX3_faultBy_158 ?_
                        refine lv_dup2_11 hx hb dX3_faultBy_159 rfl rfl ?_
                        refine rp_iald C0 FX hH (k + 1) (by omega) (v := a (u + (w / 2))) fc (u + (w / 2)) (by omega) (by decide) (hy150 _ rfl) dX3_faultBy_160 ?_
                        refine lv_iload hx hb dX3_faultBy_161 (lv_at hl 0 rfl) ?_
                        refine ni_iadd hx hb dX3_faultBy_163 ?_
                        refine rp_iast C0 FX hH (k + 1) (by omega) fc (u + (w / 2)) ((a (u + (w / 2))) + (a u * sz / 1000)) (by omega) (by decide) dX3_faultBy_164 (fun g5 H locs eq6 nq6 hH => ?_)
                        have fc : g5 (k + 1) = arr X 400 (va_up (va_up x8 u ((a u) - (a u * sz / 1000))) (u + (w / 2)) ((a (u + (w / 2))) + (a u * sz / 1000))) := eq6
                        have fk : g5 k = .inr (3, [.int (nI n), .ref (ad (k + 1))]) := (nq6 _ (by omega)).trans fk
                        have fr : ∀ j, j ≠ k → j ≠ (k + 1) → g5 j = g j := fun j a0 a1 => (nq6 j (by omega)).trans (fr j a0 a1)
                        refine lv_iload hx hb dX3_faultBy_165 (lv_at hl 3 rfl) ?_
                        refine lv_iload hx hb dX3_faultBy_167 (lv_at hl 0 rfl) ?_
                        refine ni_iadd hx hb dX3_faultBy_169 ?_
                        refine lv_istore (lv' := [(4, .int (nI (T + (a u * sz / 1000)))), (7, .int (nI (a u * sz / 1000))), (6, .int (nI u)), (5, .int (nI t)), (3, .int (nI (w / 2))), (0, .ref (ad k)), (1, .int (nI w)), (2, .int (nI sz))]) hx hb dX3_faultBy_170 hl (by decide) rfl (fun ls hl => ?_)
                        refine lv_iinc (v := nI (u + 1)) (lv' := [(6, .int (nI (u + 1))), (4, .int (nI (T + (a u * sz / 1000)))), (7, .int (nI (a u * sz / 1000))), (5, .int (nI t)), (3, .int (nI (w / 2))), (0, .ref (ad k)), (1, .int (nI w)), (2, .int (nI sz))]) hx hb dX3_faultBy_172 hl (k := 2) rfl (ni_inc1 _) (by decide) rfl (fun ls hl => ?_)
                        refine lv_goto (tgt := 121) hx hb dX3_faultBy_175 (by decide) ?_
                        exact ih121 (T + (a u * sz / 1000)) (u + 1) (va_up (va_up x8 u ((a u) - (a u * sz / 1000))) (u + (w / 2)) ((a (u + (w / 2))) + (a u * sz / 1000))) _ _ _ ls (by omega) (by omega) (by rw [m4, sm_up m1, show q * w + (u - t) = u by omega, Nat.add_assoc]; rfl) (flt_step j1 hq1 m1 c127 m5) (by omega) hH fk fc fr (lv_sub hl [0, 3, 1, 4, 5, 6, 7] rfl)
                  exact L121 ((t + w / 2 - t) + 1) T t x9 _ _ _ ls (by omega) (by omega) (by rw [j3, Nat.sub_self]; rfl) (fun j h => by rw [j5 j h]; by_cases z : j < t; rw [if_pos z, if_pos z]; rw [if_neg z, if_neg z, if_neg (by omega)]) (Nat.lt_succ_self _) hH fk fc fr (lv_sub hl [0, 1, 2, 3, 4, 5, 6] rfl)
            exact L106 ((n - 0) + 1) 0 0 0 x _ _ _ ls (by rw [Nat.zero_mul]) (by omega) (Nat.zero_le _) (by rfl) (fun j h => by rw [if_neg (by omega)]; exact hxa j h) (Nat.lt_succ_self _) hH fk fc fr (lv_sub hl [0, 1, 2, 3, 4, 5] rfl)
          · have hq1 : q + 1 ≤ n / w := (Nat.le_div_iff_mul_le (by omega)).mpr (by rw [Nat.succ_mul]; omega)
            refine lv_iload hx hb dX3_faultBy_47 (lv_at hl 0 rfl) ?_
            refine lv_istore (lv' := [(5, .int (nI t)), (4, .int (nI t)), (3, .int (nI (w / 2))), (0, .ref (ad k)), (1, .int (nI w)), (2, .int (nI sz))]) hx hb dX3_faultBy_49 hl (by decide) rfl (fun ls hl => ?_)
            have L51 : ∀ (fu : Nat) (u : Nat) (H : Heap) (locs : List Loc) (ls : Array Slot), (t ≤ u) → (u ≤ t + w / 2) → (∀ i, i < u - t → a (t + i + w / 2) + gvn a sz (t + i) ≤ 1000000) → t + w / 2 - u < fu → WH X 48 ad (pA 48 ad s.heap.size) s g H locs → lv_has ls 8 [(5, .int (nI u)), (4, .int (nI t)), (3, .int (nI (w / 2))), (0, .ref (ad k)), (1, .int (nI w)), (2, .int (nI sz))] → W p l e zr2 s m ([.ref (ad k), .int (nI w), .int (nI sz)] : List Value).toArray below meth c H locs 0 0 Q (F0 m 51 ls []) := by
              intro fu
              induction fu with
              | zero =>
                intro u H locs ls m1 m2 m3 hm
                exact absurd hm (Nat.not_lt_zero _)
              | succ fu ih =>
                have ih51 := ih; clear ih
                intro u H locs ls m1 m2 m3 hm51 hH hl
                have hqu := hab u
                have hqv := hab (u + w / 2)
                refine lv_iload hx hb dX3_faultBy_51 (lv_at hl 0 rfl) ?_
                refine lv_iload hx hb dX3_faultBy_53 (lv_at hl 1 rfl) ?_
                refine lv_iload_n hx hb dX3_faultBy_55 rfl (lv_at hl 2 rfl) ?_
                refine ni_iadd hx hb dX3_faultBy_56 ?_
                refine ni_cge hx hb 91 dX3_faultBy_57 (by decide) (by omega) (by omega) (fun c57 => ?_) (fun c57 => ?_)
                · refine lv_iload hx hb dX3_faultBy_91 (lv_at hl 1 rfl) ?_
                  refine lv_iload_n hx hb dX3_faultBy_93 rfl (lv_at hl 4 rfl) ?_
                  refine ni_iadd hx hb dX3_faultBy_94 ?_
                  refine lv_istore (lv' := [(4, .int (nI (t + w))), (5, .int (nI u)), (3, .int (nI (w / 2))), (0, .ref (ad k)), (1, .int (nI w)), (2, .int (nI sz))]) hx hb dX3_faultBy_95 hl (by decide) rfl (fun ls hl => ?_)
                  refine lv_goto (tgt := 36) hx hb dX3_faultBy_97 (by decide) ?_
                  exact ih36 (t + w) (q + 1) _ _ ls (by rw [Nat.succ_mul, j1]) (by omega) (hq1) (fun r h i hi => by rcases Nat.lt_succ_iff_lt_or_eq.mp h with z | z; exact j3 r z i hi; subst z; rw [← j1]; exact m3 i (by omega)) (by omega) hH (lv_sub hl [0, 2, 3, 4, 5] rfl)
                · refine lv_aload_n hx hb dX3_faultBy_60 rfl (lv_at hl 3 rfl) ?_
                  refine rp_get C0 FX hH k (by omega) (ci := 3) (k := 1) fk rfl kiX3 (by decide) kf11 rfl dX3_faultBy_61 ?_
                  refine lv_iload hx hb dX3_faultBy_64 (lv_at hl 0 rfl) ?_
                  refine lv_iload_n hx hb dX3_faultBy_66 rfl (lv_at hl 2 rfl) ?_
                  refine ni_iadd hx hb dX3_faultBy_67 ?_
                  refine rp_iald C0 FX hH (k + 1) (by omega) (v := a (u + (w / 2))) fc (u + (w / 2)) (by omega) (by decide) (hxa _ (by omega)) dX3_faultBy_68 ?_
                  refine lv_aload_n hx hb dX3_faultBy_69 rfl (lv_at hl 3 rfl) ?_
                  refine lv_iload hx hb dX3_faultBy_70 (lv_at hl 0 rfl) ?_
                  refine lv_iload_n hx hb dX3_faultBy_72 rfl (lv_at hl 5 rfl) ?_
                  refine rc_Vi (rest := [.int (nI (a (u + (w / 2))))]) C0 FX hH k (by omega) fk rfl (k_X3_given l X ad hi _ k hk n a ⟨x, fk, fc, hxa, hn, hab⟩ u sz (by omega) (by omega)) (cwV 2 C0.2.2.2.2 gX3_faultBy_X3_given rfl rfl rfl (by decide +kernel) ⟨Nat.le_of_ble_eq_true rfl, Nat.le_of_ble_eq_true rfl⟩) rfl rfl hl.1 (Nat.le_of_ble_eq_true rfl) dX3_faultBy_73 ⟨Nat.le_of_ble_eq_true rfl, Nat.le_of_ble_eq_true rfl⟩ (fun r73 g73c H locs h73 hH => ?_)
                  obtain ⟨e73, rfl⟩ := h73
                  rw [e73] at hH
                  refine ni_iadd hx hb dX3_faultBy_76 ?_
                  refine lv_ldc hx hb C0.2.2.2.1 kc32 dX3_faultBy_77 ?_
                  refine ni_cle hx hb 85 dX3_faultBy_79 (by decide) (by have h1 : a u * sz / 1000 ≤ a u := gvn_le (a := a) (j := u) sz2; have h2 := hqu (by omega); have h3 := hqv (by omega); omega) (by omega) (fun c79 => ?_) (fun c79 => ?_)
                  · refine lv_iinc (v := nI (u + 1)) (lv' := [(5, .int (nI (u + 1))), (4, .int (nI t)), (3, .int (nI (w / 2))), (0, .ref (ad k)), (1, .int (nI w)), (2, .int (nI sz))]) hx hb dX3_faultBy_85 hl (k := 0) rfl (ni_inc1 _) (by decide) rfl (fun ls hl => ?_)
                    refine lv_goto (tgt := 51) hx hb dX3_faultBy_88 (by decide) ?_
                    exact ih51 (u + 1) _ _ ls (by omega) (by omega) (fun i h => by by_cases z : i = u - t; subst z; rw [show t + (u - t) = u by omega]; exact c79; exact m3 i (by omega)) (by omega) hH (lv_sub hl [0, 1, 2, 3, 4, 5] rfl)
                  · refine lv_bipush (v := (-6)) hx hb dX3_faultBy_82 (by decide) ?_
                    refine RET _ _ _ _ _ _ dX3_faultBy_84 rfl ?_ hH
                    exact post3 (by unfold sp_fault; rw [if_pos ⟨(rng_iff (by omega)).mpr (by omega), (rng_iff (by omega)).mpr (by omega)⟩, tN_nI (by omega), tN_nI (by omega), if_neg (fun z => by have z2 := z q hq1 (u - t) (by omega); rw [show q * w + (u - t) = u by omega] at z2; unfold gvn at z2; omega)]) ⟨x, fk, fc, hxa, hn, hab⟩ fr
            exact L51 ((t + w / 2 - t) + 1) t _ _ ls (by omega) (by omega) (fun i h => absurd h (by omega)) (Nat.lt_succ_self _) hH (lv_sub hl [0, 1, 2, 3, 4, 5] rfl)
      exact L36 ((n - 0) + 1) 0 0 _ _ ls (by rw [Nat.zero_mul]) (by omega) (Nat.zero_le _) (fun r h => absurd h (Nat.not_lt_zero _)) (Nat.lt_succ_self _) hH (lv_sub hl [0, 1, 2, 3, 4] rfl)
    · refine lv_bipush (v := (-2)) hx hb dX3_faultBy_26 (by decide) ?_
      refine RET _ _ _ _ _ _ dX3_faultBy_28 rfl ?_ hH
      exact post3 (by unfold sp_fault; rw [if_neg (fun z => by first | exact absurd z.1 (by assumption) | exact absurd z.2 (by assumption))]) ⟨x, fk, fc, hxa, hn, hab⟩ fr
