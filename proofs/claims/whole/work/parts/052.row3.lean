set_option maxHeartbeats 4000000 in
set_option maxRecDepth 100000 in
theorem k_X3_placeFrom (l : Launch) (X : Cx) (ad : Nat → Nat) (hi : inj 48 ad) (g : PF) (k : Nat) (hk : k + 1 < 48) (n : Nat) (a : Nat → Nat) (hR : rRow X ad k n a g) (f B C lq : Nat) (hf : f ≤ n) (hB : B < 2 ^ 62) (hC : C < 2 ^ 62) (hlq : lq < 2 ^ 31) : Ki l yX3_placeFrom wsX3_placeFrom zr1 X 48 ad g [.ref (ad k), .int (nI f), .long (lN B), .long (lN C), .int (nI lq)] (fun r g' => g' = g ∧ r = nI (plc n a B C lq f)) := by
  refine Ki.of (cc := cX3_placeFrom) (maxL := 9) hi (by decide) rfl (Nat.le_of_ble_eq_true rfl) ?_
  intro p e s m below meth c Q E RET ls hl
  obtain ⟨C0, FX, hH⟩ := E
  have hx := C0.1
  have hb := C0.2.1
  have hl : lv_has ls 9 [(0, .ref (ad k)), (1, .int (nI f)), (2, .long (lN B)), (4, .long (lN C)), (6, .int (nI lq))] := hl
  obtain ⟨x, fk, fc, hxa, hn, hab⟩ := hR
  have hr1 := run_le 1 n a B f
  have hr0 := run_le 0 n a C f
  refine lv_aload_n hx hb dX3_placeFrom_0 rfl (lv_at hl 0 rfl) ?_
  refine lv_iload_n hx hb dX3_placeFrom_1 rfl (lv_at hl 1 rfl) ?_
  refine lv_lload_n hx hb dX3_placeFrom_2 rfl (lv_at hl 2 rfl) ?_
  refine lv_iconst (v := nI 1) hx hb dX3_placeFrom_3 (by decide) ?_
  refine rc_Vi (rest := []) C0 FX hH k (by omega) fk rfl (k_X3_runFrom l X ad hi _ k hk n a ⟨x, fk, fc, hxa, hn, hab⟩ f B 1 (by omega) (by omega) (by omega)) (cwV 3 C0.2.2.2.2 gX3_placeFrom_X3_runFrom rfl rfl rfl (by decide +kernel) ⟨Nat.le_of_ble_eq_true rfl, Nat.le_of_ble_eq_true rfl⟩) rfl rfl hl.1 (Nat.le_of_ble_eq_true rfl) dX3_placeFrom_4 ⟨Nat.le_of_ble_eq_true rfl, Nat.le_of_ble_eq_true rfl⟩ (fun r4 g4c H locs h4 hH => ?_)
  obtain ⟨e4, rfl⟩ := h4
  rw [e4] at hH
  refine lv_istore (lv' := [(7, .int (nI (run 1 n a B f))), (0, .ref (ad k)), (1, .int (nI f)), (2, .long (lN B)), (4, .long (lN C)), (6, .int (nI lq))]) hx hb dX3_placeFrom_7 hl (by decide) rfl (fun ls hl => ?_)
  refine lv_iload hx hb dX3_placeFrom_9 (lv_at hl 0 rfl) ?_
  refine lv_iload hx hb dX3_placeFrom_11 (lv_at hl 5 rfl) ?_
  refine ni_clt hx hb 19 dX3_placeFrom_13 (by decide) (by omega) (by omega) (fun c13 => ?_) (fun c13 => ?_)
  · refine lv_aload_n hx hb dX3_placeFrom_19 rfl (lv_at hl 1 rfl) ?_
    refine lv_iload_n hx hb dX3_placeFrom_20 rfl (lv_at hl 2 rfl) ?_
    refine lv_lload hx hb dX3_placeFrom_21 (lv_at hl 4 rfl) ?_
    refine lv_iconst (v := nI 0) hx hb dX3_placeFrom_23 (by decide) ?_
    refine rc_Vi (rest := []) C0 FX hH k (by omega) fk rfl (k_X3_runFrom l X ad hi _ k hk n a ⟨x, fk, fc, hxa, hn, hab⟩ f C 0 (by omega) (by omega) (by omega)) (cwV 3 C0.2.2.2.2 gX3_placeFrom_X3_runFrom rfl rfl rfl (by decide +kernel) ⟨Nat.le_of_ble_eq_true rfl, Nat.le_of_ble_eq_true rfl⟩) rfl rfl hl.1 (Nat.le_of_ble_eq_true rfl) dX3_placeFrom_24 ⟨Nat.le_of_ble_eq_true rfl, Nat.le_of_ble_eq_true rfl⟩ (fun r24 g24c H locs h24 hH => ?_)
    obtain ⟨e24, rfl⟩ := h24
    rw [e24] at hH
    refine lv_istore (lv' := [(8, .int (nI (run 0 n a C f))), (7, .int (nI (run 1 n a B f))), (0, .ref (ad k)), (1, .int (nI f)), (2, .long (lN B)), (4, .long (lN C)), (6, .int (nI lq))]) hx hb dX3_placeFrom_27 hl (by decide) rfl (fun ls hl => ?_)
    refine lv_iload hx hb dX3_placeFrom_29 (lv_at hl 0 rfl) ?_
    refine lv_iload hx hb dX3_placeFrom_31 (lv_at hl 6 rfl) ?_
    refine ni_clt hx hb 41 dX3_placeFrom_33 (by decide) (by omega) (by omega) (fun c33 => ?_) (fun c33 => ?_)
    · refine lv_iconst (v := nI 0) hx hb dX3_placeFrom_41 (by decide) ?_
      refine RET _ _ _ _ _ _ dX3_placeFrom_42 rfl ?_ hH
      refine ⟨rfl, ?_⟩
      unfold plc
      first | rw [if_pos (by omega)] | rw [if_neg (by omega), if_pos (by omega)] | rw [if_neg (by omega), if_neg (by omega)]
    · refine lv_iload hx hb dX3_placeFrom_36 (lv_at hl 0 rfl) ?_
      refine lv_goto (tgt := 42) hx hb dX3_placeFrom_38 (by decide) ?_
      refine RET _ _ _ _ _ _ dX3_placeFrom_42 rfl ?_ hH
      refine ⟨rfl, ?_⟩
      unfold plc
      first | rw [if_pos (by omega)] | rw [if_neg (by omega), if_pos (by omega)] | rw [if_neg (by omega), if_neg (by omega)]
  · refine lv_iload hx hb dX3_placeFrom_16 (lv_at hl 0 rfl) ?_
    refine RET _ _ _ _ _ _ dX3_placeFrom_18 rfl ?_ hH
    refine ⟨rfl, ?_⟩
    unfold plc
    first | rw [if_pos (by omega)] | rw [if_neg (by omega), if_pos (by omega)] | rw [if_neg (by omega), if_neg (by omega)]
set_option maxHeartbeats 4000000 in
set_option maxRecDepth 100000 in
theorem k_X3_waveAt (l : Launch) (X : Cx) (ad : Nat → Nat) (hi : inj 48 ad) (g : PF) (k : Nat) (hk : k + 1 < 48) (n : Nat) (a : Nat → Nat) (hR : rRow X ad k n a g) (p0 : Int32) : Kl l yX3_waveAt wsX3_waveAt zr1 X 48 ad g [.ref (ad k), .int p0] (fun r g' => g' = g ∧ r = sp_wave p0 n a) := by
  refine Kl.of (cc := cX3_waveAt) (maxL := 11) hi (by decide) rfl (Nat.le_of_ble_eq_true rfl) ?_
  intro p e s m below meth c Q E RET ls hl
  obtain ⟨C0, FX, hH⟩ := E
  have hx := C0.1
  have hb := C0.2.1
  have kl33 := C0.2.2.2.2 (.constantLong RX3 33 (lN 2)) (by decide +kernel)
  have kl54 := C0.2.2.2.2 (.constantLong RX3 54 (-1)) (by decide +kernel)
  have kl56 := C0.2.2.2.2 (.constantLong RX3 56 (lN 200)) (by decide +kernel)
  have kiX3 : ∀ w ∈ u_ws RX3 TX3 2, w ∈ wsX3_waveAt := (by decide +kernel)
  have kf11 : Cond.fieldLink RX3 11 "YarnMill$Row" "cells" "[I" ∈ wsX3_waveAt := (by decide +kernel)
  have kf21 : Cond.fieldLink RX3 21 "YarnMill$Row" "size" "I" ∈ wsX3_waveAt := (by decide +kernel)
  have hl : lv_has ls 11 [(0, .ref (ad k)), (1, .int p0)] := hl
  obtain ⟨x, fk, fc, hxa, hn, hab⟩ := hR
  refine lv_iload_n hx hb dX3_waveAt_0 rfl (lv_at hl 1 rfl) ?_
  refine lv_i2l hx hb dX3_waveAt_1 rfl ?_
  refine lv_ldc2 hx hb C0.2.2.2.1 kl33 dX3_waveAt_2 ?_
  refine lv_ldc2 hx hb C0.2.2.2.1 kl56 dX3_waveAt_5 ?_
  refine rc_Ni (rest := []) C0 FX hH (k_X5_within_rng l X ad hi _ p0 2 200 (by omega) (by omega)) ⟨va_cnB 3 C0.2.2.2.2 gX3_waveAt_X5_within_n17 rfl rfl rfl (FX.1.2 (RX3, 17, yX5_within) (by decide +kernel)) (C0.2.2.2.2 (.initialized RX5) (by decide +kernel)) (by decide +kernel) ⟨Nat.le_of_ble_eq_true rfl, Nat.le_of_ble_eq_true rfl⟩, C0.2.2.2.2 (.static yX5_within) (by decide +kernel), trivial⟩ rfl rfl hl.1 (Nat.le_of_ble_eq_true rfl) dX3_waveAt_8 ⟨Nat.le_of_ble_eq_true rfl, Nat.le_of_ble_eq_true rfl⟩ (fun r8 g8c H locs h8 hH => ?_)
  obtain ⟨e8, rfl⟩ := h8
  rw [e8] at hH
  refine rb_ne hx hb 18 dX3_waveAt_11 (by decide) (fun c11 => ?_) (fun c11 => ?_)
  · obtain ⟨w, rfl, w1, w2, w3⟩ := rng_nI c11
    have hdm := Nat.div_mul_le_self n w
    have hdv := Nat.div_le_self n w
    refine lv_aload_n hx hb dX3_waveAt_18 rfl (lv_at hl 0 rfl) ?_
    refine rp_get C0 FX hH k (by omega) (ci := 3) (k := 0) fk rfl kiX3 (by decide) kf21 rfl dX3_waveAt_19 ?_
    refine lv_iload_n hx hb dX3_waveAt_22 rfl (lv_at hl 1 rfl) ?_
    refine ni_idiv hx hb (by omega) (by omega) (by omega) dX3_waveAt_23 ?_
    refine lv_iload_n hx hb dX3_waveAt_24 rfl (lv_at hl 1 rfl) ?_
    refine ni_imul hx hb dX3_waveAt_25 ?_
    refine lv_istore_n (lv' := [(2, .int (nI ((n / w) * w))), (0, .ref (ad k)), (1, .int (nI w))]) hx hb dX3_waveAt_26 rfl hl (by decide) rfl (fun ls hl => ?_)
    refine lv_lconst (v := lN 0) hx hb dX3_waveAt_27 (by decide) ?_
    refine lv_lstore_n (lv' := [(3, .long (lN 0)), (2, .int (nI ((n / w) * w))), (0, .ref (ad k)), (1, .int (nI w))]) hx hb dX3_waveAt_28 rfl hl (by decide) rfl (fun ls hl => ?_)
    refine lv_lconst (v := lN 0) hx hb dX3_waveAt_29 (by decide) ?_
    refine lv_lstore (lv' := [(5, .long (lN 0)), (3, .long (lN 0)), (2, .int (nI ((n / w) * w))), (0, .ref (ad k)), (1, .int (nI w))]) hx hb dX3_waveAt_30 hl (by decide) rfl (fun ls hl => ?_)
    refine lv_iconst (v := nI 0) hx hb dX3_waveAt_32 (by decide) ?_
    refine lv_istore (lv' := [(7, .int (nI 0)), (5, .long (lN 0)), (3, .long (lN 0)), (2, .int (nI ((n / w) * w))), (0, .ref (ad k)), (1, .int (nI w))]) hx hb dX3_waveAt_33 hl (by decide) rfl (fun ls hl => ?_)
    have L35 : ∀ (fu : Nat) (S : Nat) (V : Nat) (i : Nat) (ls : Array Slot), i ≤ w → S = wS n a w i → V = wQ n a w i → w - i < fu → lv_has ls 11 [(7, .int (nI i)), (5, .long (lN V)), (3, .long (lN S)), (2, .int (nI ((n / w) * w))), (0, .ref (ad k)), (1, .int (nI w))] → W p l e zr1 s m ([.ref (ad k), .int (nI w)] : List Value).toArray below meth c H locs 0 0 Q (F0 m 35 ls []) := by
      intro fu
      induction fu with
      | zero =>
        intro S V i  ls i2 i3 i4 hm
        exact absurd hm (Nat.not_lt_zero _)
      | succ fu ih =>
        have ih35 := ih; clear ih
        intro S V i  ls i2 i3 i4 hm35  hl
        refine lv_iload hx hb dX3_waveAt_35 (lv_at hl 0 rfl) ?_
        refine lv_iload_n hx hb dX3_waveAt_37 rfl (lv_at hl 5 rfl) ?_
        refine ni_cge hx hb 97 dX3_waveAt_38 (by decide) (by omega) (by omega) (fun c38 => ?_) (fun c38 => ?_)
        · refine lv_iload_n hx hb dX3_waveAt_97 rfl (lv_at hl 5 rfl) ?_
          refine ni_i2l hx hb (by omega) dX3_waveAt_98 ?_
          refine lv_lload hx hb dX3_waveAt_99 (lv_at hl 1 rfl) ?_
          refine ni_lmul hx hb dX3_waveAt_101 ?_
          refine lv_lload_n hx hb dX3_waveAt_102 rfl (lv_at hl 2 rfl) ?_
          refine lv_lload_n hx hb dX3_waveAt_103 rfl (lv_at hl 2 rfl) ?_
          refine ni_lmul hx hb dX3_waveAt_104 ?_
          refine ni_lsub hx hb (by rw [i3, i4, show i = w by omega]; exact wS_sq n a w) dX3_waveAt_105 ?_
          refine RET _ _ _ _ _ _ dX3_waveAt_106 ?_ hH
          exact ⟨rfl, by unfold sp_wave wv; rw [if_pos ((rng_iff (by omega)).mpr (by omega)), tN_nI (by omega), i3, i4, show i = w by omega]⟩
        · refine lv_lconst (v := lN 0) hx hb dX3_waveAt_41 (by decide) ?_
          refine lv_lstore (lv' := [(8, .long (lN 0)), (7, .int (nI i)), (5, .long (lN V)), (3, .long (lN S)), (2, .int (nI ((n / w) * w))), (0, .ref (ad k)), (1, .int (nI w))]) hx hb dX3_waveAt_42 hl (by decide) rfl (fun ls hl => ?_)
          refine lv_iload hx hb dX3_waveAt_44 (lv_at hl 1 rfl) ?_
          refine lv_istore (lv' := [(10, .int (nI i)), (8, .long (lN 0)), (7, .int (nI i)), (5, .long (lN V)), (3, .long (lN S)), (2, .int (nI ((n / w) * w))), (0, .ref (ad k)), (1, .int (nI w))]) hx hb dX3_waveAt_46 hl (by decide) rfl (fun ls hl => ?_)
          have L48 : ∀ (fu : Nat) (Z : Nat) (t : Nat) (q : Nat) (ls : Array Slot), t = i + q * w → q ≤ n / w → Z = zs a w i q → n / w - q < fu → lv_has ls 11 [(10, .int (nI t)), (8, .long (lN Z)), (7, .int (nI i)), (5, .long (lN V)), (3, .long (lN S)), (2, .int (nI ((n / w) * w))), (0, .ref (ad k)), (1, .int (nI w))] → W p l e zr1 s m ([.ref (ad k), .int (nI w)] : List Value).toArray below meth c H locs 0 0 Q (F0 m 48 ls []) := by
            intro fu
            induction fu with
            | zero =>
              intro Z t q  ls j1 j2 j3 hm
              exact absurd hm (Nat.not_lt_zero _)
            | succ fu ih =>
              have ih48 := ih; clear ih
              intro Z t q  ls j1 j2 j3 hm48  hl
              have hqw := Nat.mul_le_mul_right w j2
              refine lv_iload hx hb dX3_waveAt_48 (lv_at hl 0 rfl) ?_
              refine lv_iload_n hx hb dX3_waveAt_50 rfl (lv_at hl 5 rfl) ?_
              refine ni_cge hx hb 76 dX3_waveAt_51 (by decide) (by omega) (by omega) (fun c51 => ?_) (fun c51 => ?_)
              · have hqe : q = n / w := Nat.le_antisymm j2 (Nat.le_of_not_lt (fun z => by have h5 := Nat.mul_le_mul_right w (show q + 1 ≤ n / w from z); rw [Nat.succ_mul] at h5; omega))
                refine lv_lload_n hx hb dX3_waveAt_76 rfl (lv_at hl 4 rfl) ?_
                refine lv_lload hx hb dX3_waveAt_77 (lv_at hl 1 rfl) ?_
                refine ni_ladd hx hb dX3_waveAt_79 ?_
                refine lv_lstore_n (lv' := [(3, .long (lN (S + Z))), (10, .int (nI t)), (8, .long (lN Z)), (7, .int (nI i)), (5, .long (lN V)), (2, .int (nI ((n / w) * w))), (0, .ref (ad k)), (1, .int (nI w))]) hx hb dX3_waveAt_80 rfl hl (by decide) rfl (fun ls hl => ?_)
                refine lv_lload hx hb dX3_waveAt_81 (lv_at hl 4 rfl) ?_
                refine lv_lload hx hb dX3_waveAt_83 (lv_at hl 2 rfl) ?_
                refine lv_lload hx hb dX3_waveAt_85 (lv_at hl 2 rfl) ?_
                refine ni_lmul hx hb dX3_waveAt_87 ?_
                refine ni_ladd hx hb dX3_waveAt_88 ?_
                refine lv_lstore (lv' := [(5, .long (lN (V + (Z * Z)))), (3, .long (lN (S + Z))), (10, .int (nI t)), (8, .long (lN Z)), (7, .int (nI i)), (2, .int (nI ((n / w) * w))), (0, .ref (ad k)), (1, .int (nI w))]) hx hb dX3_waveAt_89 hl (by decide) rfl (fun ls hl => ?_)
                refine lv_iinc (v := nI (i + 1)) (lv' := [(7, .int (nI (i + 1))), (5, .long (lN (V + (Z * Z)))), (3, .long (lN (S + Z))), (10, .int (nI t)), (8, .long (lN Z)), (2, .int (nI ((n / w) * w))), (0, .ref (ad k)), (1, .int (nI w))]) hx hb dX3_waveAt_91 hl (k := 4) rfl (ni_inc1 _) (by decide) rfl (fun ls hl => ?_)
                refine lv_goto (tgt := 35) hx hb dX3_waveAt_94 (by decide) ?_
                exact ih35 (S + Z) (V + (Z * Z)) (i + 1) ls (by omega) (by rw [i3, j3, hqe]; rfl) (by rw [i4, j3, hqe]; rfl) (by omega) (lv_sub hl [0, 1, 2, 5, 6, 7] rfl)
              · have hq1 : q < n / w := Nat.lt_of_not_le (fun z => by have := Nat.mul_le_mul_right w z; omega)
                have hq := hab t (by omega)
                refine lv_lload hx hb dX3_waveAt_54 (lv_at hl 1 rfl) ?_
                refine lv_aload_n hx hb dX3_waveAt_56 rfl (lv_at hl 6 rfl) ?_
                refine rp_get C0 FX hH k (by omega) (ci := 3) (k := 1) fk rfl kiX3 (by decide) kf11 rfl dX3_waveAt_57 ?_
                refine lv_iload hx hb dX3_waveAt_60 (lv_at hl 0 rfl) ?_
                refine rp_iald C0 FX hH (k + 1) (by omega) (v := a t) fc t (by omega) (by decide) (hxa _ (by omega)) dX3_waveAt_62 ?_
                refine ni_i2l hx hb (by omega) dX3_waveAt_63 ?_
                refine ni_ladd hx hb dX3_waveAt_64 ?_
                refine lv_lstore (lv' := [(8, .long (lN (Z + (a t)))), (10, .int (nI t)), (7, .int (nI i)), (5, .long (lN V)), (3, .long (lN S)), (2, .int (nI ((n / w) * w))), (0, .ref (ad k)), (1, .int (nI w))]) hx hb dX3_waveAt_65 hl (by decide) rfl (fun ls hl => ?_)
                refine lv_iload hx hb dX3_waveAt_67 (lv_at hl 1 rfl) ?_
                refine lv_iload_n hx hb dX3_waveAt_69 rfl (lv_at hl 7 rfl) ?_
                refine ni_iadd hx hb dX3_waveAt_70 ?_
                refine lv_istore (lv' := [(10, .int (nI (t + w))), (8, .long (lN (Z + (a t)))), (7, .int (nI i)), (5, .long (lN V)), (3, .long (lN S)), (2, .int (nI ((n / w) * w))), (0, .ref (ad k)), (1, .int (nI w))]) hx hb dX3_waveAt_71 hl (by decide) rfl (fun ls hl => ?_)
                refine lv_goto (tgt := 48) hx hb dX3_waveAt_73 (by decide) ?_
                exact ih48 (Z + (a t)) (t + w) (q + 1) ls (by rw [Nat.succ_mul]; omega) (by omega) (by rw [j3, j1]; rfl) (by omega) (lv_sub hl [0, 1, 2, 3, 4, 5, 6, 7] rfl)
          exact L48 ((n / w - 0) + 1) 0 i 0 ls (by rw [Nat.zero_mul]; rfl) (Nat.zero_le _) (by rfl) (Nat.lt_succ_self _) (lv_sub hl [0, 1, 2, 3, 4, 5, 6, 7] rfl)
    exact L35 ((w - 0) + 1) 0 0 0 ls (by omega) (by rfl) (by rfl) (Nat.lt_succ_self _) (lv_sub hl [0, 1, 2, 3, 4, 5] rfl)
  · refine lv_ldc2 hx hb C0.2.2.2.1 kl54 dX3_waveAt_14 ?_
    refine RET _ _ _ _ _ _ dX3_waveAt_17 ?_ hH
    exact ⟨rfl, by unfold sp_wave; rw [if_neg c11]⟩
theorem k_X3_waveAt_nat (l : Launch) (X : Cx) (ad : Nat → Nat) (hi : inj 48 ad) (g : PF) (k : Nat) (hk : k + 1 < 48) (n : Nat) (a : Nat → Nat) (hR : rRow X ad k n a g) (w : Nat) (h1 : 2 ≤ w) (h2 : w ≤ 200) : Kl l yX3_waveAt wsX3_waveAt zr1 X 48 ad g [.ref (ad k), .int (nI w)] (fun r g' => g' = g ∧ r = lN (wv w n a)) := by
  have h := k_X3_waveAt l X ad hi g k hk n a hR (nI w)
  rw [show sp_wave (nI w) n a = lN (wv w n a) from by unfold sp_wave; rw [if_pos ((rng_iff (by omega)).mpr (by omega)), tN_nI (by omega)]] at h
  exact h
set_option maxHeartbeats 4000000 in
set_option maxRecDepth 100000 in
theorem k_X3_greatestUpTo (l : Launch) (X : Cx) (ad : Nat → Nat) (hi : inj 48 ad) (g : PF) (k : Nat) (hk : k + 1 < 48) (n : Nat) (a : Nat → Nat) (hR : rRow X ad k n a g) (p0 : Int32) : Ki l yX3_greatestUpTo wsX3_greatestUpTo zr2 X 48 ad g [.ref (ad k), .int p0] (fun r g' => g' = g ∧ r = sp_greatest p0 n a) := by
  refine Ki.of (cc := cX3_greatestUpTo) (maxL := 12) hi (by decide) rfl (Nat.le_of_ble_eq_true rfl) ?_
  intro p e s m below meth c Q E RET ls hl
  obtain ⟨C0, FX, hH⟩ := E
  have hx := C0.1
  have hb := C0.2.1
  have kl33 := C0.2.2.2.2 (.constantLong RX3 33 (lN 2)) (by decide +kernel)
  have kl56 := C0.2.2.2.2 (.constantLong RX3 56 (lN 200)) (by decide +kernel)
  have kiX3 : ∀ w ∈ u_ws RX3 TX3 2, w ∈ wsX3_greatestUpTo := (by decide +kernel)
  have kf21 : Cond.fieldLink RX3 21 "YarnMill$Row" "size" "I" ∈ wsX3_greatestUpTo := (by decide +kernel)
  have hl : lv_has ls 12 [(0, .ref (ad k)), (1, .int p0)] := hl
  obtain ⟨x, fk, fc, hxa, hn, hab⟩ := hR
  refine lv_iload_n hx hb dX3_greatestUpTo_0 rfl (lv_at hl 1 rfl) ?_
  refine lv_i2l hx hb dX3_greatestUpTo_1 rfl ?_
  refine lv_ldc2 hx hb C0.2.2.2.1 kl33 dX3_greatestUpTo_2 ?_
  refine lv_ldc2 hx hb C0.2.2.2.1 kl56 dX3_greatestUpTo_5 ?_
  refine rc_Ni (rest := []) C0 FX hH (k_X5_within_rng l X ad hi _ p0 2 200 (by omega) (by omega)) ⟨va_cnB 3 C0.2.2.2.2 gX3_greatestUpTo_X5_within_n17 rfl rfl rfl (FX.1.2 (RX3, 17, yX5_within) (by decide +kernel)) (C0.2.2.2.2 (.initialized RX5) (by decide +kernel)) (by decide +kernel) ⟨Nat.le_of_ble_eq_true rfl, Nat.le_of_ble_eq_true rfl⟩, C0.2.2.2.2 (.static yX5_within) (by decide +kernel), trivial⟩ rfl rfl hl.1 (Nat.le_of_ble_eq_true rfl) dX3_greatestUpTo_8 ⟨Nat.le_of_ble_eq_true rfl, Nat.le_of_ble_eq_true rfl⟩ (fun r8 g8c H locs h8 hH => ?_)
  obtain ⟨e8, rfl⟩ := h8
  rw [e8] at hH
  refine rb_ne hx hb 17 dX3_greatestUpTo_11 (by decide) (fun c11 => ?_) (fun c11 => ?_)
  · obtain ⟨mo, rfl, mo1, mo2, mo3⟩ := rng_nI c11
    refine lv_iconst (v := (-1)) hx hb dX3_greatestUpTo_17 (by decide) ?_
    refine lv_istore_n (lv' := [(2, .int ((-1))), (0, .ref (ad k)), (1, .int (nI mo))]) hx hb dX3_greatestUpTo_18 rfl hl (by decide) rfl (fun ls hl => ?_)
    refine lv_lconst (v := lN 0) hx hb dX3_greatestUpTo_19 (by decide) ?_
    refine lv_lstore_n (lv' := [(3, .long (lN 0)), (2, .int ((-1))), (0, .ref (ad k)), (1, .int (nI mo))]) hx hb dX3_greatestUpTo_20 rfl hl (by decide) rfl (fun ls hl => ?_)
    refine lv_lconst (v := lN 1) hx hb dX3_greatestUpTo_21 (by decide) ?_
    refine lv_lstore (lv' := [(5, .long (lN 1)), (3, .long (lN 0)), (2, .int ((-1))), (0, .ref (ad k)), (1, .int (nI mo))]) hx hb dX3_greatestUpTo_22 hl (by decide) rfl (fun ls hl => ?_)
    refine lv_iconst (v := nI 2) hx hb dX3_greatestUpTo_24 (by decide) ?_
    refine lv_istore (lv' := [(7, .int (nI 2)), (5, .long (lN 1)), (3, .long (lN 0)), (2, .int ((-1))), (0, .ref (ad k)), (1, .int (nI mo))]) hx hb dX3_greatestUpTo_25 hl (by decide) rfl (fun ls hl => ?_)
    have L27 : ∀ (fu : Nat) (Bv : Int32) (bw : Nat) (bb : Nat) (w : Nat) (b : Nat) (H : Heap) (locs : List Loc) (ls : Array Slot), 2 ≤ w → w ≤ max 2 (min mo (n / 2) + 1) → Bv = bst b → (b, bw, bb) = gr n a (w - 2) → 202 - w < fu → WH X 48 ad (pA 48 ad s.heap.size) s g H locs → lv_has ls 12 [(7, .int (nI w)), (5, .long (lN bb)), (3, .long (lN bw)), (2, .int Bv), (0, .ref (ad k)), (1, .int (nI mo))] → W p l e zr2 s m ([.ref (ad k), .int (nI mo)] : List Value).toArray below meth c H locs 0 0 Q (F0 m 27 ls []) := by
      intro fu
      induction fu with
      | zero =>
        intro Bv bw bb w b H locs ls i1 i2 i3 i4 hm
        exact absurd hm (Nat.not_lt_zero _)
      | succ fu ih =>
        have ih27 := ih; clear ih
        intro Bv bw bb w b H locs ls i1 i2 i3 i4 hm27 hH hl
        have hG := gr_in hn hab (w - 2) (by omega)
        rw [← i4] at hG
        have hGa := hG.1
        have hGb := hG.2.1
        have hGc := hG.2.2.1
        have hGd := hG.2.2.2
        simp only at hGa hGb hGc hGd
        refine lv_iload hx hb dX3_greatestUpTo_27 (lv_at hl 0 rfl) ?_
        refine lv_iload_n hx hb dX3_greatestUpTo_29 rfl (lv_at hl 5 rfl) ?_
        refine ni_cgt hx hb 103 dX3_greatestUpTo_30 (by decide) (by omega) (by omega) (fun c30 => ?_) (fun c30 => ?_)
        · refine lv_iload_n hx hb dX3_greatestUpTo_103 rfl (lv_at hl 3 rfl) ?_
          refine RET _ _ _ _ _ _ dX3_greatestUpTo_104 rfl ?_ hH
          refine ⟨rfl, ?_⟩
          unfold sp_greatest
          rw [if_pos ((rng_iff (by omega)).mpr (by omega)), tN_nI (by omega), show min mo (n / 2) - 1 = w - 2 by omega, ← i4, i3]
        · refine lv_iconst (v := nI 2) hx hb dX3_greatestUpTo_33 (by decide) ?_
          refine lv_iload hx hb dX3_greatestUpTo_34 (lv_at hl 0 rfl) ?_
          refine ni_imul hx hb dX3_greatestUpTo_36 ?_
          refine lv_aload_n hx hb dX3_greatestUpTo_37 rfl (lv_at hl 4 rfl) ?_
          refine rp_get C0 FX hH k (by omega) (ci := 3) (k := 0) fk rfl kiX3 (by decide) kf21 rfl dX3_greatestUpTo_38 ?_
          refine ni_cgt hx hb 103 dX3_greatestUpTo_41 (by decide) (by omega) (by omega) (fun c41 => ?_) (fun c41 => ?_)
          · refine lv_iload_n hx hb dX3_greatestUpTo_103 rfl (lv_at hl 3 rfl) ?_
            refine RET _ _ _ _ _ _ dX3_greatestUpTo_104 rfl ?_ hH
            refine ⟨rfl, ?_⟩
            unfold sp_greatest
            rw [if_pos ((rng_iff (by omega)).mpr (by omega)), tN_nI (by omega), show min mo (n / 2) - 1 = w - 2 by omega, ← i4, i3]
          · have hwv := wv_le (w := w) hn hab
            have hby := by3_in hn i1 (by omega) (show w ≤ n by omega)
            have hw2 : w + 1 - 2 = (w - 2) + 1 := by omega
            have hw3 : w - 2 + 2 = w := by omega
            have hdm := Nat.div_mul_le_self n w
            unfold by3 at hby
            refine lv_aload_n hx hb dX3_greatestUpTo_44 rfl (lv_at hl 4 rfl) ?_
            refine lv_iload hx hb dX3_greatestUpTo_45 (lv_at hl 0 rfl) ?_
            refine rc_Vl (rest := []) C0 FX hH k (by omega) fk rfl (k_X3_waveAt_nat l X ad hi _ k hk n a ⟨x, fk, fc, hxa, hn, hab⟩ w (by omega) (by omega)) (cwV 1 C0.2.2.2.2 gX3_greatestUpTo_X3_waveAt rfl rfl rfl (by decide +kernel) ⟨Nat.le_of_ble_eq_true rfl, Nat.le_of_ble_eq_true rfl⟩) rfl rfl hl.1 (Nat.le_of_ble_eq_true rfl) dX3_greatestUpTo_47 ⟨Nat.le_of_ble_eq_true rfl, Nat.le_of_ble_eq_true rfl⟩ (fun r47 g47c H locs h47 hH => ?_)
            obtain ⟨e47, rfl⟩ := h47
            rw [e47] at hH
            refine lv_lstore (lv' := [(8, .long (lN (wv w n a))), (7, .int (nI w)), (5, .long (lN bb)), (3, .long (lN bw)), (2, .int Bv), (0, .ref (ad k)), (1, .int (nI mo))]) hx hb dX3_greatestUpTo_50 hl (by decide) rfl (fun ls hl => ?_)
            refine lv_aload_n hx hb dX3_greatestUpTo_52 rfl (lv_at hl 5 rfl) ?_
            refine rp_get C0 FX hH k (by omega) (ci := 3) (k := 0) fk rfl kiX3 (by decide) kf21 rfl dX3_greatestUpTo_53 ?_
            refine lv_iload hx hb dX3_greatestUpTo_56 (lv_at hl 1 rfl) ?_
            refine ni_idiv hx hb (by omega) (by omega) (by omega) dX3_greatestUpTo_58 ?_
            refine lv_iload hx hb dX3_greatestUpTo_59 (lv_at hl 1 rfl) ?_
            refine ni_imul hx hb dX3_greatestUpTo_61 ?_
            refine ni_i2l hx hb (by omega) dX3_greatestUpTo_62 ?_
            refine lv_iload hx hb dX3_greatestUpTo_63 (lv_at hl 1 rfl) ?_
            refine ni_i2l hx hb (by omega) dX3_greatestUpTo_65 ?_
            refine ni_lmul hx hb dX3_greatestUpTo_66 ?_
            refine lv_lstore (lv' := [(10, .long (lN (((n / w) * w) * w))), (8, .long (lN (wv w n a))), (7, .int (nI w)), (5, .long (lN bb)), (3, .long (lN bw)), (2, .int Bv), (0, .ref (ad k)), (1, .int (nI mo))]) hx hb dX3_greatestUpTo_67 hl (by decide) rfl (fun ls hl => ?_)
            refine lv_iload_n hx hb dX3_greatestUpTo_69 rfl (lv_at hl 5 rfl) ?_
            refine lv_iconst (v := (-1)) hx hb dX3_greatestUpTo_70 (by decide) ?_
            refine lv_icmp_eq (tgt := 87) hx hb dX3_greatestUpTo_71 (by decide) (fun c71 => ?_) (fun c71 => ?_)
            · refine lv_iload hx hb dX3_greatestUpTo_87 (lv_at hl 2 rfl) ?_
              refine lv_istore_n (lv' := [(2, .int (nI w)), (10, .long (lN (((n / w) * w) * w))), (8, .long (lN (wv w n a))), (7, .int (nI w)), (5, .long (lN bb)), (3, .long (lN bw)), (0, .ref (ad k)), (1, .int (nI mo))]) hx hb dX3_greatestUpTo_89 rfl hl (by decide) rfl (fun ls hl => ?_)
              refine lv_lload hx hb dX3_greatestUpTo_90 (lv_at hl 2 rfl) ?_
              refine lv_lstore_n (lv' := [(3, .long (lN (wv w n a))), (2, .int (nI w)), (10, .long (lN (((n / w) * w) * w))), (8, .long (lN (wv w n a))), (7, .int (nI w)), (5, .long (lN bb)), (0, .ref (ad k)), (1, .int (nI mo))]) hx hb dX3_greatestUpTo_92 rfl hl (by decide) rfl (fun ls hl => ?_)
              refine lv_lload hx hb dX3_greatestUpTo_93 (lv_at hl 2 rfl) ?_
              refine lv_lstore (lv' := [(5, .long (lN (((n / w) * w) * w))), (3, .long (lN (wv w n a))), (2, .int (nI w)), (10, .long (lN (((n / w) * w) * w))), (8, .long (lN (wv w n a))), (7, .int (nI w)), (0, .ref (ad k)), (1, .int (nI mo))]) hx hb dX3_greatestUpTo_95 hl (by decide) rfl (fun ls hl => ?_)
              refine lv_iinc (v := nI (w + 1)) (lv' := [(7, .int (nI (w + 1))), (5, .long (lN (((n / w) * w) * w))), (3, .long (lN (wv w n a))), (2, .int (nI w)), (10, .long (lN (((n / w) * w) * w))), (8, .long (lN (wv w n a))), (0, .ref (ad k)), (1, .int (nI mo))]) hx hb dX3_greatestUpTo_97 hl (k := 5) rfl (ni_inc1 _) (by decide) rfl (fun ls hl => ?_)
              refine lv_goto (tgt := 27) hx hb dX3_greatestUpTo_100 (by decide) ?_
              exact ih27 (nI w) (wv w n a) (((n / w) * w) * w) (w + 1) w _ _ ls (by omega) (by omega) (by unfold bst; rw [if_neg (by omega)]) (by rw [hw2]; show _ = ite _ _ _; rw [← i4]; rw [if_pos (by rw [hw3]; first | exact Or.inr c84 | exact Or.inl ((bst_0 (by omega)).mp (i3 ▸ c71)))]; rw [hw3]; rfl) (by omega) hH (lv_sub hl [0, 1, 2, 3, 6, 7] rfl)
            · refine lv_lload hx hb dX3_greatestUpTo_74 (lv_at hl 1 rfl) ?_
              refine lv_lload hx hb dX3_greatestUpTo_76 (lv_at hl 0 rfl) ?_
              refine lv_lload_n hx hb dX3_greatestUpTo_78 rfl (lv_at hl 4 rfl) ?_
              refine lv_lload hx hb dX3_greatestUpTo_79 (lv_at hl 3 rfl) ?_
              refine rc_Si (rest := []) C0 FX hH (k_X3_isGreater l X ad hi _ (wv w n a) (((n / w) * w) * w) bw bb (by omega) (by omega) hby.1 hby.2 (by omega) (by omega)) (va_cwS 4 C0.2.2.2.2 gX3_greatestUpTo_X3_isGreater rfl rfl rfl (by decide +kernel) ⟨Nat.le_of_ble_eq_true rfl, Nat.le_of_ble_eq_true rfl⟩) rfl rfl hl.1 (Nat.le_of_ble_eq_true rfl) dX3_greatestUpTo_81 ⟨Nat.le_of_ble_eq_true rfl, Nat.le_of_ble_eq_true rfl⟩ (fun r81 g81c H locs h81 hH => ?_)
              obtain ⟨e81, rfl⟩ := h81
              rw [e81] at hH
              refine rb_eq hx hb 97 dX3_greatestUpTo_84 (by decide) (fun c84 => ?_) (fun c84 => ?_)
              · refine lv_iinc (v := nI (w + 1)) (lv' := [(7, .int (nI (w + 1))), (10, .long (lN (((n / w) * w) * w))), (8, .long (lN (wv w n a))), (5, .long (lN bb)), (3, .long (lN bw)), (2, .int Bv), (0, .ref (ad k)), (1, .int (nI mo))]) hx hb dX3_greatestUpTo_97 hl (k := 2) rfl (ni_inc1 _) (by decide) rfl (fun ls hl => ?_)
                refine lv_goto (tgt := 27) hx hb dX3_greatestUpTo_100 (by decide) ?_
                exact ih27 Bv bw bb (w + 1) b _ _ ls (by omega) (by omega) (i3) (by rw [hw2]; show _ = ite _ _ _; rw [← i4]; rw [if_neg (by rw [hw3]; exact fun z => z.elim (fun z => c71 (by have z : b = 0 := z; rw [i3, z]; rfl)) c84)]) (by omega) hH (lv_sub hl [0, 3, 4, 5, 6, 7] rfl)
              · refine lv_iload hx hb dX3_greatestUpTo_87 (lv_at hl 2 rfl) ?_
                refine lv_istore_n (lv' := [(2, .int (nI w)), (10, .long (lN (((n / w) * w) * w))), (8, .long (lN (wv w n a))), (7, .int (nI w)), (5, .long (lN bb)), (3, .long (lN bw)), (0, .ref (ad k)), (1, .int (nI mo))]) hx hb dX3_greatestUpTo_89 rfl hl (by decide) rfl (fun ls hl => ?_)
                refine lv_lload hx hb dX3_greatestUpTo_90 (lv_at hl 2 rfl) ?_
                refine lv_lstore_n (lv' := [(3, .long (lN (wv w n a))), (2, .int (nI w)), (10, .long (lN (((n / w) * w) * w))), (8, .long (lN (wv w n a))), (7, .int (nI w)), (5, .long (lN bb)), (0, .ref (ad k)), (1, .int (nI mo))]) hx hb dX3_greatestUpTo_92 rfl hl (by decide) rfl (fun ls hl => ?_)
                refine lv_lload hx hb dX3_greatestUpTo_93 (lv_at hl 2 rfl) ?_
                refine lv_lstore (lv' := [(5, .long (lN (((n / w) * w) * w))), (3, .long (lN (wv w n a))), (2, .int (nI w)), (10, .long (lN (((n / w) * w) * w))), (8, .long (lN (wv w n a))), (7, .int (nI w)), (0, .ref (ad k)), (1, .int (nI mo))]) hx hb dX3_greatestUpTo_95 hl (by decide) rfl (fun ls hl => ?_)
                refine lv_iinc (v := nI (w + 1)) (lv' := [(7, .int (nI (w + 1))), (5, .long (lN (((n / w) * w) * w))), (3, .long (lN (wv w n a))), (2, .int (nI w)), (10, .long (lN (((n / w) * w) * w))), (8, .long (lN (wv w n a))), (0, .ref (ad k)), (1, .int (nI mo))]) hx hb dX3_greatestUpTo_97 hl (k := 5) rfl (ni_inc1 _) (by decide) rfl (fun ls hl => ?_)
                refine lv_goto (tgt := 27) hx hb dX3_greatestUpTo_100 (by decide) ?_
                exact ih27 (nI w) (wv w n a) (((n / w) * w) * w) (w + 1) w _ _ ls (by omega) (by omega) (by unfold bst; rw [if_neg (by omega)]) (by rw [hw2]; show _ = ite _ _ _; rw [← i4]; rw [if_pos (by rw [hw3]; first | exact Or.inr c84 | exact Or.inl ((bst_0 (by omega)).mp (i3 ▸ c71)))]; rw [hw3]; rfl) (by omega) hH (lv_sub hl [0, 1, 2, 3, 6, 7] rfl)
    exact L27 ((202 - 2) + 1) ((-1)) 0 1 2 0 _ _ ls (by omega) (by omega) (by rfl) (by rfl) (Nat.lt_succ_self _) hH (lv_sub hl [0, 1, 2, 3, 4, 5] rfl)
  · refine lv_bipush (v := (-2)) hx hb dX3_greatestUpTo_14 (by decide) ?_
    refine RET _ _ _ _ _ _ dX3_greatestUpTo_16 rfl ?_ hH
    exact ⟨rfl, by unfold sp_greatest; rw [if_neg c11]⟩
