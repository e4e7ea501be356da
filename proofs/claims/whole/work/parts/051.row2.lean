set_option maxHeartbeats 4000000 in
set_option maxRecDepth 100000 in
theorem k_X3_given (l : Launch) (X : Cx) (ad : Nat → Nat) (hi : inj 48 ad) (g : PF) (k : Nat) (hk : k + 1 < 48) (n : Nat) (a : Nat → Nat) (hR : rRow X ad k n a g) (i sz : Nat) (hin : i < n) (hsz : sz ≤ 1000) : Ki l yX3_given wsX3_given zr0 X 48 ad g [.ref (ad k), .int (nI i), .int (nI sz)] (fun r g' => g' = g ∧ r = nI (a i * sz / 1000)) := by
  refine Ki.of (cc := cX3_given) (maxL := 3) hi (by decide) rfl (Nat.le_of_ble_eq_true rfl) ?_
  intro p e s m below meth c Q E RET ls hl
  obtain ⟨C0, FX, hH⟩ := E
  have hx := C0.1
  have hb := C0.2.1
  have kl45 := C0.2.2.2.2 (.constantLong RX3 45 (lN 1000)) (by decide +kernel)
  have kiX3 : ∀ w ∈ u_ws RX3 TX3 2, w ∈ wsX3_given := (by decide +kernel)
  have kf11 : Cond.fieldLink RX3 11 "YarnMill$Row" "cells" "[I" ∈ wsX3_given := (by decide +kernel)
  have hl : lv_has ls 3 [(0, .ref (ad k)), (1, .int (nI i)), (2, .int (nI sz))] := hl
  obtain ⟨x, fk, fc, hxa, hn, hab⟩ := hR
  have hq := hab i hin
  refine lv_aload_n hx hb dX3_given_0 rfl (lv_at hl 0 rfl) ?_
  refine rp_get C0 FX hH k (by omega) (ci := 3) (k := 1) fk rfl kiX3 (by decide) kf11 rfl dX3_given_1 ?_
  refine lv_iload_n hx hb dX3_given_4 rfl (lv_at hl 1 rfl) ?_
  refine rp_iald C0 FX hH (k + 1) (by omega) (v := a i) fc i (by omega) (by decide) (hxa _ (by omega)) dX3_given_5 ?_
  refine ni_i2l hx hb (by omega) dX3_given_6 ?_
  refine lv_iload_n hx hb dX3_given_7 rfl (lv_at hl 2 rfl) ?_
  refine ni_i2l hx hb (by omega) dX3_given_8 ?_
  refine ni_lmul hx hb dX3_given_9 ?_
  refine lv_ldc2 hx hb C0.2.2.2.1 kl45 dX3_given_10 ?_
  refine ni_ldiv hx hb (by have := Nat.mul_le_mul hq hsz; omega) (by omega) (by omega) dX3_given_13 ?_
  refine ni_l2i hx hb dX3_given_14 ?_
  refine RET _ _ _ _ _ _ dX3_given_15 rfl ?_ hH
  exact ⟨rfl, rfl⟩
set_option maxHeartbeats 4000000 in
set_option maxRecDepth 100000 in
theorem k_X3_mean (l : Launch) (X : Cx) (ad : Nat → Nat) (hi : inj 48 ad) (g : PF) (k : Nat) (hk : k + 1 < 48) (n : Nat) (a : Nat → Nat) (hR : rRow X ad k n a g)  : Kl l yX3_mean wsX3_mean zr1 X 48 ad g [.ref (ad k)] (fun r g' => g' = g ∧ r = lN (sp_mean n a)) := by
  refine Kl.of (cc := cX3_mean) (maxL := 1) hi (by decide) rfl (Nat.le_of_ble_eq_true rfl) ?_
  intro p e s m below meth c Q E RET ls hl
  obtain ⟨C0, FX, hH⟩ := E
  have hx := C0.1
  have hb := C0.2.1
  have kiX3 : ∀ w ∈ u_ws RX3 TX3 2, w ∈ wsX3_mean := (by decide +kernel)
  have kf21 : Cond.fieldLink RX3 21 "YarnMill$Row" "size" "I" ∈ wsX3_mean := (by decide +kernel)
  have hl : lv_has ls 1 [(0, .ref (ad k))] := hl
  obtain ⟨x, fk, fc, hxa, hn, hab⟩ := hR
  have hS9 : sm a n ≤ n * 1000000 := sm_le hab
  refine lv_aload_n hx hb dX3_mean_0 rfl (lv_at hl 0 rfl) ?_
  refine rp_get C0 FX hH k (by omega) (ci := 3) (k := 0) fk rfl kiX3 (by decide) kf21 rfl dX3_mean_1 ?_
  refine ni_le0 hx hb 25 dX3_mean_4 (by decide) (by omega) (fun c4 => ?_) (fun c4 => ?_)
  · refine lv_lconst (v := lN 0) hx hb dX3_mean_25 (by decide) ?_
    refine RET _ _ _ _ _ _ dX3_mean_26 ?_ hH
    refine ⟨rfl, ?_⟩
    unfold sp_mean
    rw [c4]; simp [sm]
  · refine lv_aload_n hx hb dX3_mean_7 rfl (lv_at hl 0 rfl) ?_
    refine lv_iconst (v := nI 0) hx hb dX3_mean_8 (by decide) ?_
    refine lv_aload_n hx hb dX3_mean_9 rfl (lv_at hl 0 rfl) ?_
    refine rp_get C0 FX hH k (by omega) (ci := 3) (k := 0) fk rfl kiX3 (by decide) kf21 rfl dX3_mean_10 ?_
    refine rc_Vi (rest := []) C0 FX hH k (by omega) fk rfl (k_X3_sumOf l X ad hi _ k hk n a ⟨x, fk, fc, hxa, hn, hab⟩ 0 n (by omega) (by omega)) (cwV 2 C0.2.2.2.2 gX3_mean_X3_sumOf rfl rfl rfl (by decide +kernel) ⟨Nat.le_of_ble_eq_true rfl, Nat.le_of_ble_eq_true rfl⟩) rfl rfl hl.1 (Nat.le_of_ble_eq_true rfl) dX3_mean_13 ⟨Nat.le_of_ble_eq_true rfl, Nat.le_of_ble_eq_true rfl⟩ (fun r13 g13c H locs h13 hH => ?_)
    obtain ⟨e13, rfl⟩ := h13
    rw [e13] at hH
    rw [show sg a 0 (min (0 + n) n - 0) = sm a n from by rw [show min (0 + n) n - 0 = n by omega, sg_0]]
    refine lv_aload_n hx hb dX3_mean_16 rfl (lv_at hl 0 rfl) ?_
    refine rp_get C0 FX hH k (by omega) (ci := 3) (k := 0) fk rfl kiX3 (by decide) kf21 rfl dX3_mean_17 ?_
    refine ni_idiv hx hb (by omega) (by omega) (by omega) dX3_mean_20 ?_
    refine ni_i2l hx hb (by have := Nat.div_le_self (sm a n) n; omega) dX3_mean_21 ?_
    refine lv_goto (tgt := 26) hx hb dX3_mean_22 (by decide) ?_
    refine RET _ _ _ _ _ _ dX3_mean_26 ?_ hH
    refine ⟨rfl, ?_⟩
    rfl
set_option maxHeartbeats 4000000 in
set_option maxRecDepth 100000 in
theorem k_X3_unevenness (l : Launch) (X : Cx) (ad : Nat → Nat) (hi : inj 48 ad) (g : PF) (k : Nat) (hk : k + 1 < 48) (n : Nat) (a : Nat → Nat) (hR : rRow X ad k n a g)  : Kl l yX3_unevenness wsX3_unevenness zr1 X 48 ad g [.ref (ad k)] (fun r g' => g' = g ∧ r = sp_unev n a) := by
  refine Kl.of (cc := cX3_unevenness) (maxL := 5) hi (by decide) rfl (Nat.le_of_ble_eq_true rfl) ?_
  intro p e s m below meth c Q E RET ls hl
  obtain ⟨C0, FX, hH⟩ := E
  have hx := C0.1
  have hb := C0.2.1
  have kiX3 : ∀ w ∈ u_ws RX3 TX3 2, w ∈ wsX3_unevenness := (by decide +kernel)
  have kf11 : Cond.fieldLink RX3 11 "YarnMill$Row" "cells" "[I" ∈ wsX3_unevenness := (by decide +kernel)
  have kf21 : Cond.fieldLink RX3 21 "YarnMill$Row" "size" "I" ∈ wsX3_unevenness := (by decide +kernel)
  have hl : lv_has ls 5 [(0, .ref (ad k))] := hl
  obtain ⟨x, fk, fc, hxa, hn, hab⟩ := hR
  have hS9 : sm a n ≤ n * 1000000 := sm_le hab
  refine lv_lconst (v := lN 0) hx hb dX3_unevenness_0 (by decide) ?_
  refine lv_lstore_n (lv' := [(1, .long (lN 0)), (0, .ref (ad k))]) hx hb dX3_unevenness_1 rfl hl (by decide) rfl (fun ls hl => ?_)
  refine lv_iconst (v := nI 0) hx hb dX3_unevenness_2 (by decide) ?_
  refine lv_istore_n (lv' := [(3, .int (nI 0)), (1, .long (lN 0)), (0, .ref (ad k))]) hx hb dX3_unevenness_3 rfl hl (by decide) rfl (fun ls hl => ?_)
  have L4 : ∀ (fu : Nat) (S : Nat) (i : Nat) (ls : Array Slot), i ≤ n → S = sm (fun j => a j * a j) i → n - i < fu → lv_has ls 5 [(3, .int (nI i)), (1, .long (lN S)), (0, .ref (ad k))] → W p l e zr1 s m ([.ref (ad k)] : List Value).toArray below meth c s.heap [] 0 0 Q (F0 m 4 ls []) := by
    intro fu
    induction fu with
    | zero =>
      intro S i  ls i2 i3 hm
      exact absurd hm (Nat.not_lt_zero _)
    | succ fu ih =>
      have ih4 := ih; clear ih
      intro S i  ls i2 i3 hm4  hl
      have hq := hab i
      refine lv_iload_n hx hb dX3_unevenness_4 rfl (lv_at hl 0 rfl) ?_
      refine lv_aload_n hx hb dX3_unevenness_5 rfl (lv_at hl 2 rfl) ?_
      refine rp_get C0 FX hH k (by omega) (ci := 3) (k := 0) fk rfl kiX3 (by decide) kf21 rfl dX3_unevenness_6 ?_
      refine ni_cge hx hb 36 dX3_unevenness_9 (by decide) (by omega) (by omega) (fun c9 => ?_) (fun c9 => ?_)
      · refine lv_aload_n hx hb dX3_unevenness_36 rfl (lv_at hl 2 rfl) ?_
        refine lv_iconst (v := nI 0) hx hb dX3_unevenness_37 (by decide) ?_
        refine lv_aload_n hx hb dX3_unevenness_38 rfl (lv_at hl 2 rfl) ?_
        refine rp_get C0 FX hH k (by omega) (ci := 3) (k := 0) fk rfl kiX3 (by decide) kf21 rfl dX3_unevenness_39 ?_
        refine rc_Vi (rest := []) C0 FX hH k (by omega) fk rfl (k_X3_sumOf l X ad hi _ k hk n a ⟨x, fk, fc, hxa, hn, hab⟩ 0 n (by omega) (by omega)) (cwV 2 C0.2.2.2.2 gX3_unevenness_X3_sumOf rfl rfl rfl (by decide +kernel) ⟨Nat.le_of_ble_eq_true rfl, Nat.le_of_ble_eq_true rfl⟩) rfl rfl hl.1 (Nat.le_of_ble_eq_true rfl) dX3_unevenness_42 ⟨Nat.le_of_ble_eq_true rfl, Nat.le_of_ble_eq_true rfl⟩ (fun r42 g42c H locs h42 hH => ?_)
        obtain ⟨e42, rfl⟩ := h42
        rw [e42] at hH
        rw [show sg a 0 (min (0 + n) n - 0) = sm a n from by rw [show min (0 + n) n - 0 = n by omega, sg_0]]
        refine ni_i2l hx hb (by omega) dX3_unevenness_45 ?_
        refine lv_lstore_n (lv' := [(3, .long (lN (sm a n))), (1, .long (lN S)), (0, .ref (ad k))]) hx hb dX3_unevenness_46 rfl hl (by decide) rfl (fun ls hl => ?_)
        refine lv_aload_n hx hb dX3_unevenness_47 rfl (lv_at hl 2 rfl) ?_
        refine rp_get C0 FX hH k (by omega) (ci := 3) (k := 0) fk rfl kiX3 (by decide) kf21 rfl dX3_unevenness_48 ?_
        refine ni_i2l hx hb (by omega) dX3_unevenness_51 ?_
        refine lv_lload_n hx hb dX3_unevenness_52 rfl (lv_at hl 1 rfl) ?_
        refine ni_lmul hx hb dX3_unevenness_53 ?_
        refine lv_lload_n hx hb dX3_unevenness_54 rfl (lv_at hl 0 rfl) ?_
        refine lv_lload_n hx hb dX3_unevenness_55 rfl (lv_at hl 0 rfl) ?_
        refine ni_lmul hx hb dX3_unevenness_56 ?_
        refine lv_lsub hx hb dX3_unevenness_57 ?_
        refine RET _ _ _ _ _ _ dX3_unevenness_58 ?_ hH
        refine ⟨rfl, ?_⟩
        rw [i3, show i = n by omega]; rfl
      · refine lv_lload_n hx hb dX3_unevenness_12 rfl (lv_at hl 1 rfl) ?_
        refine lv_aload_n hx hb dX3_unevenness_13 rfl (lv_at hl 2 rfl) ?_
        refine rp_get C0 FX hH k (by omega) (ci := 3) (k := 1) fk rfl kiX3 (by decide) kf11 rfl dX3_unevenness_14 ?_
        refine lv_iload_n hx hb dX3_unevenness_17 rfl (lv_at hl 0 rfl) ?_
        refine rp_iald C0 FX hH (k + 1) (by omega) (v := a i) fc i (by omega) (by decide) (hxa _ (by omega)) dX3_unevenness_18 ?_
        refine ni_i2l hx hb (by have := hq c9; omega) dX3_unevenness_19 ?_
        refine lv_aload_n hx hb dX3_unevenness_20 rfl (lv_at hl 2 rfl) ?_
        refine rp_get C0 FX hH k (by omega) (ci := 3) (k := 1) fk rfl kiX3 (by decide) kf11 rfl dX3_unevenness_21 ?_
        refine lv_iload_n hx hb dX3_unevenness_24 rfl (lv_at hl 0 rfl) ?_
        refine rp_iald C0 FX hH (k + 1) (by omega) (v := a i) fc i (by omega) (by decide) (hxa _ (by omega)) dX3_unevenness_25 ?_
        refine ni_i2l hx hb (by have := hq c9; omega) dX3_unevenness_26 ?_
        refine ni_lmul hx hb dX3_unevenness_27 ?_
        refine ni_ladd hx hb dX3_unevenness_28 ?_
        refine lv_lstore_n (lv' := [(1, .long (lN (S + ((a i) * (a i))))), (3, .int (nI i)), (0, .ref (ad k))]) hx hb dX3_unevenness_29 rfl hl (by decide) rfl (fun ls hl => ?_)
        refine lv_iinc (v := nI (i + 1)) (lv' := [(3, .int (nI (i + 1))), (1, .long (lN (S + ((a i) * (a i))))), (0, .ref (ad k))]) hx hb dX3_unevenness_30 hl (k := 1) rfl (ni_inc1 _) (by decide) rfl (fun ls hl => ?_)
        refine lv_goto (tgt := 4) hx hb dX3_unevenness_33 (by decide) ?_
        exact ih4 (S + ((a i) * (a i))) (i + 1) ls (by omega) (by rw [i3]; rfl) (by omega) (lv_sub hl [0, 1, 2] rfl)
  exact L4 ((n - 0) + 1) 0 0 ls (by omega) (by rfl) (Nat.lt_succ_self _) (lv_sub hl [0, 1, 2] rfl)
set_option maxHeartbeats 4000000 in
set_option maxRecDepth 100000 in
theorem k_X3_measure (l : Launch) (X : Cx) (ad : Nat → Nat) (hi : inj 48 ad) (g : PF) (k : Nat) (hk : k + 1 < 48) (n : Nat) (a : Nat → Nat) (hR : rRow X ad k n a g) (p0 : Int32) : Kl l yX3_measure wsX3_measure zr2 X 48 ad g [.ref (ad k), .int p0] (fun r g' => g' = g ∧ r = sp_about p0 n a) := by
  refine Kl.of (cc := cX3_measure) (maxL := 2) hi (by decide) rfl (Nat.le_of_ble_eq_true rfl) ?_
  intro p e s m below meth c Q E RET ls hl
  obtain ⟨C0, FX, hH⟩ := E
  have hx := C0.1
  have hb := C0.2.1
  have kl54 := C0.2.2.2.2 (.constantLong RX3 54 (-1)) (by decide +kernel)
  have kiX3 : ∀ w ∈ u_ws RX3 TX3 2, w ∈ wsX3_measure := (by decide +kernel)
  have kf21 : Cond.fieldLink RX3 21 "YarnMill$Row" "size" "I" ∈ wsX3_measure := (by decide +kernel)
  have hl : lv_has ls 2 [(0, .ref (ad k)), (1, .int p0)] := hl
  obtain ⟨x, fk, fc, hxa, hn, hab⟩ := hR
  have hS9 : sm a n ≤ n * 1000000 := sm_le hab
  refine lv_iload_n hx hb dX3_measure_0 rfl (lv_at hl 1 rfl) ?_
  by_cases t1_0 : p0 = nI 0
  · subst t1_0
    have hl : lv_has ls 2 [(0, .ref (ad k)), (1, .int (nI 0))] := hl
    refine lv_tableIn (x := nI 0) (tgt := 28) hx hb dX3_measure_1 (by decide) (by decide) rfl (by decide) ?_
    refine lv_aload_n hx hb dX3_measure_28 rfl (lv_at hl 0 rfl) ?_
    refine rp_get C0 FX hH k (by omega) (ci := 3) (k := 0) fk rfl kiX3 (by decide) kf21 rfl dX3_measure_29 ?_
    refine ni_i2l hx hb (by omega) dX3_measure_32 ?_
    refine RET _ _ _ _ _ _ dX3_measure_33 ?_ hH
    exact ⟨rfl, by unfold sp_about; rw [if_pos rfl]⟩
  by_cases t1_1 : p0 = nI 1
  · subst t1_1
    have hl : lv_has ls 2 [(0, .ref (ad k)), (1, .int (nI 1))] := hl
    refine lv_tableIn (x := nI 1) (tgt := 34) hx hb dX3_measure_1 (by decide) (by decide) rfl (by decide) ?_
    refine lv_aload_n hx hb dX3_measure_34 rfl (lv_at hl 0 rfl) ?_
    refine lv_iconst (v := nI 0) hx hb dX3_measure_35 (by decide) ?_
    refine lv_aload_n hx hb dX3_measure_36 rfl (lv_at hl 0 rfl) ?_
    refine rp_get C0 FX hH k (by omega) (ci := 3) (k := 0) fk rfl kiX3 (by decide) kf21 rfl dX3_measure_37 ?_
    refine rc_Vi (rest := []) C0 FX hH k (by omega) fk rfl (k_X3_sumOf l X ad hi _ k hk n a ⟨x, fk, fc, hxa, hn, hab⟩ 0 n (by omega) (by omega)) (cwV 2 C0.2.2.2.2 gX3_measure_X3_sumOf rfl rfl rfl (by decide +kernel) ⟨Nat.le_of_ble_eq_true rfl, Nat.le_of_ble_eq_true rfl⟩) rfl rfl hl.1 (Nat.le_of_ble_eq_true rfl) dX3_measure_40 ⟨Nat.le_of_ble_eq_true rfl, Nat.le_of_ble_eq_true rfl⟩ (fun r40 g40c H locs h40 hH => ?_)
    obtain ⟨e40, rfl⟩ := h40
    rw [e40] at hH
    rw [show sg a 0 (min (0 + n) n - 0) = sm a n from by rw [show min (0 + n) n - 0 = n by omega, sg_0]]
    refine ni_i2l hx hb (by omega) dX3_measure_43 ?_
    refine RET _ _ _ _ _ _ dX3_measure_44 ?_ hH
    exact ⟨rfl, by unfold sp_about; rw [if_neg (by decide), if_pos rfl]⟩
  by_cases t1_2 : p0 = nI 2
  · subst t1_2
    have hl : lv_has ls 2 [(0, .ref (ad k)), (1, .int (nI 2))] := hl
    refine lv_tableIn (x := nI 2) (tgt := 45) hx hb dX3_measure_1 (by decide) (by decide) rfl (by decide) ?_
    refine lv_aload_n hx hb dX3_measure_45 rfl (lv_at hl 0 rfl) ?_
    refine rc_Vl (rest := []) C0 FX hH k (by omega) fk rfl (k_X3_unevenness l X ad hi _ k hk n a ⟨x, fk, fc, hxa, hn, hab⟩ ) (cwV 0 C0.2.2.2.2 gX3_measure_X3_unevenness rfl rfl rfl (by decide +kernel) ⟨Nat.le_of_ble_eq_true rfl, Nat.le_of_ble_eq_true rfl⟩) rfl rfl hl.1 (Nat.le_of_ble_eq_true rfl) dX3_measure_46 ⟨Nat.le_of_ble_eq_true rfl, Nat.le_of_ble_eq_true rfl⟩ (fun r46 g46c H locs h46 hH => ?_)
    obtain ⟨e46, rfl⟩ := h46
    rw [e46] at hH
    refine RET _ _ _ _ _ _ dX3_measure_49 ?_ hH
    exact ⟨rfl, by unfold sp_about; rw [if_neg (by decide), if_neg (by decide), if_pos rfl]⟩
  refine lv_tableOut (tgt := 50) hx hb dX3_measure_1 (tb_out t1_0 t1_1 t1_2) (by decide) ?_
  refine lv_ldc2 hx hb C0.2.2.2.1 kl54 dX3_measure_50 ?_
  refine RET _ _ _ _ _ _ dX3_measure_53 ?_ hH
  exact ⟨rfl, by unfold sp_about; rw [if_neg t1_0, if_neg t1_1, if_neg t1_2]⟩
set_option maxHeartbeats 4000000 in
set_option maxRecDepth 100000 in
theorem k_X3_mixInto (l : Launch) (X : Cx) (ad : Nat → Nat) (hi : inj 48 ad) (g : PF) (k : Nat) (hk : k + 1 < 48) (n : Nat) (a : Nat → Nat) (hR : rRow X ad k n a g) (h0 : Int64) : Kl l yX3_mixInto wsX3_mixInto zr0 X 48 ad g [.ref (ad k), .long h0] (fun r g' => g' = g ∧ r = mx h0 a n) := by
  refine Kl.of (cc := cX3_mixInto) (maxL := 6) hi (by decide) rfl (Nat.le_of_ble_eq_true rfl) ?_
  intro p e s m below meth c Q E RET ls hl
  obtain ⟨C0, FX, hH⟩ := E
  have hx := C0.1
  have hb := C0.2.1
  have kl86 := C0.2.2.2.2 (.constantLong RX3 86 (lN 31)) (by decide +kernel)
  have kiX3 : ∀ w ∈ u_ws RX3 TX3 2, w ∈ wsX3_mixInto := (by decide +kernel)
  have kf11 : Cond.fieldLink RX3 11 "YarnMill$Row" "cells" "[I" ∈ wsX3_mixInto := (by decide +kernel)
  have kf21 : Cond.fieldLink RX3 21 "YarnMill$Row" "size" "I" ∈ wsX3_mixInto := (by decide +kernel)
  have hl : lv_has ls 6 [(0, .ref (ad k)), (1, .long h0)] := hl
  obtain ⟨x, fk, fc, hxa, hn, hab⟩ := hR
  refine lv_lload_n hx hb dX3_mixInto_0 rfl (lv_at hl 1 rfl) ?_
  refine lv_lstore_n (lv' := [(3, .long h0), (0, .ref (ad k)), (1, .long h0)]) hx hb dX3_mixInto_1 rfl hl (by decide) rfl (fun ls hl => ?_)
  refine lv_iconst (v := nI 0) hx hb dX3_mixInto_2 (by decide) ?_
  refine lv_istore (lv' := [(5, .int (nI 0)), (3, .long h0), (0, .ref (ad k)), (1, .long h0)]) hx hb dX3_mixInto_3 hl (by decide) rfl (fun ls hl => ?_)
  have L5 : ∀ (fu : Nat) (hh : Int64) (i : Nat) (ls : Array Slot), i ≤ n → hh = mx h0 a i → n - i < fu → lv_has ls 6 [(5, .int (nI i)), (3, .long hh), (0, .ref (ad k)), (1, .long h0)] → W p l e zr0 s m ([.ref (ad k), .long h0] : List Value).toArray below meth c s.heap [] 0 0 Q (F0 m 5 ls []) := by
    intro fu
    induction fu with
    | zero =>
      intro hh i  ls i2 i3 hm
      exact absurd hm (Nat.not_lt_zero _)
    | succ fu ih =>
      have ih5 := ih; clear ih
      intro hh i  ls i2 i3 hm5  hl
      have hq := hab i
      refine lv_iload hx hb dX3_mixInto_5 (lv_at hl 0 rfl) ?_
      refine lv_aload_n hx hb dX3_mixInto_7 rfl (lv_at hl 2 rfl) ?_
      refine rp_get C0 FX hH k (by omega) (ci := 3) (k := 0) fk rfl kiX3 (by decide) kf21 rfl dX3_mixInto_8 ?_
      refine ni_cge hx hb 35 dX3_mixInto_11 (by decide) (by omega) (by omega) (fun c11 => ?_) (fun c11 => ?_)
      · refine lv_lload_n hx hb dX3_mixInto_35 rfl (lv_at hl 1 rfl) ?_
        refine RET _ _ _ _ _ _ dX3_mixInto_36 ?_ hH
        exact ⟨rfl, by rw [i3, show i = n by omega]⟩
      · refine lv_ldc2 hx hb C0.2.2.2.1 kl86 dX3_mixInto_14 ?_
        refine lv_lload_n hx hb dX3_mixInto_17 rfl (lv_at hl 1 rfl) ?_
        refine lv_lmul hx hb dX3_mixInto_18 ?_
        refine lv_aload_n hx hb dX3_mixInto_19 rfl (lv_at hl 2 rfl) ?_
        refine rp_get C0 FX hH k (by omega) (ci := 3) (k := 1) fk rfl kiX3 (by decide) kf11 rfl dX3_mixInto_20 ?_
        refine lv_iload hx hb dX3_mixInto_23 (lv_at hl 0 rfl) ?_
        refine rp_iald C0 FX hH (k + 1) (by omega) (v := a i) fc i (by omega) (by decide) (hxa _ (by omega)) dX3_mixInto_25 ?_
        refine ni_i2l hx hb (by have := hq c11; omega) dX3_mixInto_26 ?_
        refine lv_ladd hx hb dX3_mixInto_27 ?_
        refine lv_lstore_n (lv' := [(3, .long (((lN 31) * hh) + (lN (a i)))), (5, .int (nI i)), (0, .ref (ad k)), (1, .long h0)]) hx hb dX3_mixInto_28 rfl hl (by decide) rfl (fun ls hl => ?_)
        refine lv_iinc (v := nI (i + 1)) (lv' := [(5, .int (nI (i + 1))), (3, .long (((lN 31) * hh) + (lN (a i)))), (0, .ref (ad k)), (1, .long h0)]) hx hb dX3_mixInto_29 hl (k := 1) rfl (ni_inc1 _) (by decide) rfl (fun ls hl => ?_)
        refine lv_goto (tgt := 5) hx hb dX3_mixInto_32 (by decide) ?_
        exact ih5 (((lN 31) * hh) + (lN (a i))) (i + 1) ls (by omega) (by rw [i3]; rfl) (by omega) (lv_sub hl [0, 1, 2, 3] rfl)
  exact L5 ((n - 0) + 1) h0 0 ls (by omega) (by rfl) (Nat.lt_succ_self _) (lv_sub hl [0, 1, 2, 3] rfl)
set_option maxHeartbeats 4000000 in
set_option maxRecDepth 100000 in
theorem k_X3_isLaw (l : Launch) (X : Cx) (ad : Nat → Nat) (hi : inj 48 ad) (g : PF) (th tn lq : Int32) : Ki l yX3_isLaw wsX3_isLaw zr1 X 48 ad g [.int th, .int tn, .int lq] (fun r g' => g' = g ∧ r = bI (lawP th tn lq)) := by
  refine Ki.of (cc := cX3_isLaw) (maxL := 3) hi (by decide) rfl (Nat.le_of_ble_eq_true rfl) ?_
  intro p e s m below meth c Q E RET ls hl
  obtain ⟨C0, FX, hH⟩ := E
  have hx := C0.1
  have hb := C0.2.1
  have kl25 := C0.2.2.2.2 (.constantLong RX3 25 (lN 100)) (by decide +kernel)
  have kl45 := C0.2.2.2.2 (.constantLong RX3 45 (lN 1000)) (by decide +kernel)
  have kl91 := C0.2.2.2.2 (.constantLong RX3 91 (lN 50)) (by decide +kernel)
  have hl : lv_has ls 3 [(0, .int th), (1, .int tn), (2, .int lq)] := hl
  refine lv_iload_n hx hb dX3_isLaw_0 rfl (lv_at hl 0 rfl) ?_
  refine lv_i2l hx hb dX3_isLaw_1 rfl ?_
  refine lv_lconst (v := lN 1) hx hb dX3_isLaw_2 (by decide) ?_
  refine lv_ldc2 hx hb C0.2.2.2.1 kl45 dX3_isLaw_3 ?_
  refine rc_Ni (rest := []) C0 FX hH (k_X5_within_rng l X ad hi _ th 1 1000 (by omega) (by omega)) ⟨va_cnB 3 C0.2.2.2.2 gX3_isLaw_X5_within_n17 rfl rfl rfl (FX.1.2 (RX3, 17, yX5_within) (by decide +kernel)) (C0.2.2.2.2 (.initialized RX5) (by decide +kernel)) (by decide +kernel) ⟨Nat.le_of_ble_eq_true rfl, Nat.le_of_ble_eq_true rfl⟩, C0.2.2.2.2 (.static yX5_within) (by decide +kernel), trivial⟩ rfl rfl hl.1 (Nat.le_of_ble_eq_true rfl) dX3_isLaw_6 ⟨Nat.le_of_ble_eq_true rfl, Nat.le_of_ble_eq_true rfl⟩ (fun r6 g6c H locs h6 hH => ?_)
  obtain ⟨e6, rfl⟩ := h6
  rw [e6] at hH
  refine rb_eq hx hb 40 dX3_isLaw_9 (by decide) (fun c9 => ?_) (fun c9 => ?_)
  · refine lv_iconst (v := nI 0) hx hb dX3_isLaw_40 (by decide) ?_
    refine RET _ _ _ _ _ _ dX3_isLaw_41 (by decide) ?_ hH
    refine ⟨rfl, ?_⟩
    exact (bI_f (fun z => by first | exact absurd z.1 (by assumption) | exact absurd z.2.1 (by assumption) | exact absurd z.2.2 (by assumption))).symm
  · refine lv_iload_n hx hb dX3_isLaw_12 rfl (lv_at hl 1 rfl) ?_
    refine lv_i2l hx hb dX3_isLaw_13 rfl ?_
    refine lv_lconst (v := lN 0) hx hb dX3_isLaw_14 (by decide) ?_
    refine lv_ldc2 hx hb C0.2.2.2.1 kl25 dX3_isLaw_15 ?_
    refine rc_Ni (rest := []) C0 FX hH (k_X5_within_rng l X ad hi _ tn 0 100 (by omega) (by omega)) ⟨va_cnB 3 C0.2.2.2.2 gX3_isLaw_X5_within_n17 rfl rfl rfl (FX.1.2 (RX3, 17, yX5_within) (by decide +kernel)) (C0.2.2.2.2 (.initialized RX5) (by decide +kernel)) (by decide +kernel) ⟨Nat.le_of_ble_eq_true rfl, Nat.le_of_ble_eq_true rfl⟩, C0.2.2.2.2 (.static yX5_within) (by decide +kernel), trivial⟩ rfl rfl hl.1 (Nat.le_of_ble_eq_true rfl) dX3_isLaw_18 ⟨Nat.le_of_ble_eq_true rfl, Nat.le_of_ble_eq_true rfl⟩ (fun r18 g18c H locs h18 hH => ?_)
    obtain ⟨e18, rfl⟩ := h18
    rw [e18] at hH
    refine rb_eq hx hb 40 dX3_isLaw_21 (by decide) (fun c21 => ?_) (fun c21 => ?_)
    · refine lv_iconst (v := nI 0) hx hb dX3_isLaw_40 (by decide) ?_
      refine RET _ _ _ _ _ _ dX3_isLaw_41 (by decide) ?_ hH
      refine ⟨rfl, ?_⟩
      exact (bI_f (fun z => by first | exact absurd z.1 (by assumption) | exact absurd z.2.1 (by assumption) | exact absurd z.2.2 (by assumption))).symm
    · refine lv_iload_n hx hb dX3_isLaw_24 rfl (lv_at hl 2 rfl) ?_
      refine lv_i2l hx hb dX3_isLaw_25 rfl ?_
      refine lv_lconst (v := lN 1) hx hb dX3_isLaw_26 (by decide) ?_
      refine lv_ldc2 hx hb C0.2.2.2.1 kl91 dX3_isLaw_27 ?_
      refine rc_Ni (rest := []) C0 FX hH (k_X5_within_rng l X ad hi _ lq 1 50 (by omega) (by omega)) ⟨va_cnB 3 C0.2.2.2.2 gX3_isLaw_X5_within_n17 rfl rfl rfl (FX.1.2 (RX3, 17, yX5_within) (by decide +kernel)) (C0.2.2.2.2 (.initialized RX5) (by decide +kernel)) (by decide +kernel) ⟨Nat.le_of_ble_eq_true rfl, Nat.le_of_ble_eq_true rfl⟩, C0.2.2.2.2 (.static yX5_within) (by decide +kernel), trivial⟩ rfl rfl hl.1 (Nat.le_of_ble_eq_true rfl) dX3_isLaw_30 ⟨Nat.le_of_ble_eq_true rfl, Nat.le_of_ble_eq_true rfl⟩ (fun r30 g30c H locs h30 hH => ?_)
      obtain ⟨e30, rfl⟩ := h30
      rw [e30] at hH
      refine rb_eq hx hb 40 dX3_isLaw_33 (by decide) (fun c33 => ?_) (fun c33 => ?_)
      · refine lv_iconst (v := nI 0) hx hb dX3_isLaw_40 (by decide) ?_
        refine RET _ _ _ _ _ _ dX3_isLaw_41 (by decide) ?_ hH
        refine ⟨rfl, ?_⟩
        exact (bI_f (fun z => by first | exact absurd z.1 (by assumption) | exact absurd z.2.1 (by assumption) | exact absurd z.2.2 (by assumption))).symm
      · refine lv_iconst (v := nI 1) hx hb dX3_isLaw_36 (by decide) ?_
        refine lv_goto (tgt := 41) hx hb dX3_isLaw_37 (by decide) ?_
        refine RET _ _ _ _ _ _ dX3_isLaw_41 (by decide) ?_ hH
        refine ⟨rfl, ?_⟩
        exact (bI_t ⟨c9, c21, c33⟩).symm
set_option maxHeartbeats 4000000 in
set_option maxRecDepth 100000 in
theorem k_X3_isGreater (l : Launch) (X : Cx) (ad : Nat → Nat) (hi : inj 48 ad) (g : PF) (u b v d : Nat) (hu : u < 2 ^ 62) (hv : v < 2 ^ 62) (hb0 : 0 < b) (hb1 : b ≤ 80000) (hd0 : 0 < d) (hd1 : d ≤ 80000) : Ki l yX3_isGreater wsX3_isGreater zr0 X 48 ad g [.long (lN u), .long (lN b), .long (lN v), .long (lN d)] (fun r g' => g' = g ∧ r = bI (v * b < u * d)) := by
  refine Ki.of (cc := cX3_isGreater) (maxL := 8) hi (by decide) rfl (Nat.le_of_ble_eq_true rfl) ?_
  intro p e s m below meth c Q E RET ls hl
  obtain ⟨C0, FX, hH⟩ := E
  have hx := C0.1
  have hb := C0.2.1
  have hl : lv_has ls 8 [(0, .long (lN u)), (2, .long (lN b)), (4, .long (lN v)), (6, .long (lN d))] := hl
  refine lv_lload_n hx hb dX3_isGreater_0 rfl (lv_at hl 1 rfl) ?_
  refine lv_lconst (v := lN 0) hx hb dX3_isGreater_1 (by decide) ?_
  refine nl_le hx hb 13 dX3_isGreater_2 dX3_isGreater_3 (by decide) (by omega) (by omega) (fun c2 => ?_) (fun c2 => ?_)
  · refine lv_iconst (v := nI 0) hx hb dX3_isGreater_13 (by decide) ?_
    refine RET _ _ _ _ _ _ dX3_isGreater_14 (by decide) ?_ hH
    exact absurd (show 0 < b ∧ 0 < d from ⟨hb0, hd0⟩) (by omega)
  · refine lv_lload hx hb dX3_isGreater_6 (lv_at hl 3 rfl) ?_
    refine lv_lconst (v := lN 0) hx hb dX3_isGreater_8 (by decide) ?_
    refine nl_gt hx hb 15 dX3_isGreater_9 dX3_isGreater_10 (by decide) (by omega) (by omega) (fun c9 => ?_) (fun c9 => ?_)
    · refine lv_lload_n hx hb dX3_isGreater_15 rfl (lv_at hl 0 rfl) ?_
      refine lv_lload_n hx hb dX3_isGreater_16 rfl (lv_at hl 1 rfl) ?_
      refine ni_ldiv hx hb (by omega) (by omega) (by omega) dX3_isGreater_17 ?_
      refine lv_lload hx hb dX3_isGreater_18 (lv_at hl 2 rfl) ?_
      refine lv_lload hx hb dX3_isGreater_20 (lv_at hl 3 rfl) ?_
      refine ni_ldiv hx hb (by omega) (by omega) (by omega) dX3_isGreater_22 ?_
      refine nl_eq hx hb 45 dX3_isGreater_23 dX3_isGreater_24 (by decide) (by have := Nat.div_le_self u b; omega) (by have := Nat.div_le_self v d; omega) (fun c23 => ?_) (fun c23 => ?_)
      · refine lv_lload_n hx hb dX3_isGreater_45 rfl (lv_at hl 0 rfl) ?_
        refine lv_lload_n hx hb dX3_isGreater_46 rfl (lv_at hl 1 rfl) ?_
        refine ni_lrem hx hb (by omega) (by omega) (by omega) dX3_isGreater_47 ?_
        refine lv_lload hx hb dX3_isGreater_48 (lv_at hl 3 rfl) ?_
        refine ni_lmul hx hb dX3_isGreater_50 ?_
        refine lv_lload hx hb dX3_isGreater_51 (lv_at hl 2 rfl) ?_
        refine lv_lload hx hb dX3_isGreater_53 (lv_at hl 3 rfl) ?_
        refine ni_lrem hx hb (by omega) (by omega) (by omega) dX3_isGreater_55 ?_
        refine lv_lload_n hx hb dX3_isGreater_56 rfl (lv_at hl 1 rfl) ?_
        refine ni_lmul hx hb dX3_isGreater_57 ?_
        refine nl_le hx hb 66 dX3_isGreater_58 dX3_isGreater_59 (by decide) (by have h1 := Nat.mod_lt u hb0; have h2 := Nat.mul_le_mul (show u % b ≤ 80000 by omega) hd1; omega) (by have h1 := Nat.mod_lt v hd0; have h2 := Nat.mul_le_mul (show v % d ≤ 80000 by omega) hb1; omega) (fun c58 => ?_) (fun c58 => ?_)
        · refine lv_iconst (v := nI 0) hx hb dX3_isGreater_66 (by decide) ?_
          refine RET _ _ _ _ _ _ dX3_isGreater_67 (by decide) ?_ hH
          refine ⟨rfl, ?_⟩
          rw [bI_f (fun z => by have z2 := (div_cmp hb0 hd0).mpr z; rw [if_pos c23] at z2; omega)]
        · refine lv_iconst (v := nI 1) hx hb dX3_isGreater_62 (by decide) ?_
          refine lv_goto (tgt := 67) hx hb dX3_isGreater_63 (by decide) ?_
          refine RET _ _ _ _ _ _ dX3_isGreater_67 (by decide) ?_ hH
          refine ⟨rfl, ?_⟩
          rw [bI_t ((div_cmp hb0 hd0).mp (by rw [if_pos c23]; exact c58))]
      · refine lv_lload_n hx hb dX3_isGreater_27 rfl (lv_at hl 0 rfl) ?_
        refine lv_lload_n hx hb dX3_isGreater_28 rfl (lv_at hl 1 rfl) ?_
        refine ni_ldiv hx hb (by omega) (by omega) (by omega) dX3_isGreater_29 ?_
        refine lv_lload hx hb dX3_isGreater_30 (lv_at hl 2 rfl) ?_
        refine lv_lload hx hb dX3_isGreater_32 (lv_at hl 3 rfl) ?_
        refine ni_ldiv hx hb (by omega) (by omega) (by omega) dX3_isGreater_34 ?_
        refine nl_le hx hb 43 dX3_isGreater_35 dX3_isGreater_36 (by decide) (by have := Nat.div_le_self u b; omega) (by have := Nat.div_le_self v d; omega) (fun c35 => ?_) (fun c35 => ?_)
        · refine lv_iconst (v := nI 0) hx hb dX3_isGreater_43 (by decide) ?_
          refine RET _ _ _ _ _ _ dX3_isGreater_44 (by decide) ?_ hH
          refine ⟨rfl, ?_⟩
          rw [bI_f (fun z => by have z2 := (div_cmp hb0 hd0).mpr z; rw [if_neg c23] at z2; omega)]
        · refine lv_iconst (v := nI 1) hx hb dX3_isGreater_39 (by decide) ?_
          refine lv_goto (tgt := 44) hx hb dX3_isGreater_40 (by decide) ?_
          refine RET _ _ _ _ _ _ dX3_isGreater_44 (by decide) ?_ hH
          refine ⟨rfl, ?_⟩
          rw [bI_t ((div_cmp hb0 hd0).mp (by rw [if_neg c23]; exact c35))]
    · refine lv_iconst (v := nI 0) hx hb dX3_isGreater_13 (by decide) ?_
      refine RET _ _ _ _ _ _ dX3_isGreater_14 (by decide) ?_ hH
      exact absurd (show 0 < b ∧ 0 < d from ⟨hb0, hd0⟩) (by omega)
set_option maxHeartbeats 4000000 in
set_option maxRecDepth 100000 in
theorem k_X3_runFrom (l : Launch) (X : Cx) (ad : Nat → Nat) (hi : inj 48 ad) (g : PF) (k : Nat) (hk : k + 1 < 48) (n : Nat) (a : Nat → Nat) (hR : rRow X ad k n a g) (f B t : Nat) (hf : f ≤ n) (hB : B < 2 ^ 62) (ht : t ≤ 1) : Ki l yX3_runFrom wsX3_runFrom zr0 X 48 ad g [.ref (ad k), .int (nI f), .long (lN B), .int (nI t)] (fun r g' => g' = g ∧ r = nI (run t n a B f)) := by
  refine Ki.of (cc := cX3_runFrom) (maxL := 6) hi (by decide) rfl (Nat.le_of_ble_eq_true rfl) ?_
  intro p e s m below meth c Q E RET ls hl
  obtain ⟨C0, FX, hH⟩ := E
  have hx := C0.1
  have hb := C0.2.1
  have kl25 := C0.2.2.2.2 (.constantLong RX3 25 (lN 100)) (by decide +kernel)
  have kiX3 : ∀ w ∈ u_ws RX3 TX3 2, w ∈ wsX3_runFrom := (by decide +kernel)
  have kf11 : Cond.fieldLink RX3 11 "YarnMill$Row" "cells" "[I" ∈ wsX3_runFrom := (by decide +kernel)
  have kf21 : Cond.fieldLink RX3 21 "YarnMill$Row" "size" "I" ∈ wsX3_runFrom := (by decide +kernel)
  have hl : lv_has ls 6 [(0, .ref (ad k)), (1, .int (nI f)), (2, .long (lN B)), (4, .int (nI t))] := hl
  obtain ⟨x, fk, fc, hxa, hn, hab⟩ := hR
  refine lv_iload_n hx hb dX3_runFrom_0 rfl (lv_at hl 1 rfl) ?_
  refine lv_istore (lv' := [(5, .int (nI f)), (0, .ref (ad k)), (1, .int (nI f)), (2, .long (lN B)), (4, .int (nI t))]) hx hb dX3_runFrom_1 hl (by decide) rfl (fun ls hl => ?_)
  have L3 : ∀ (fu : Nat) (i : Nat) (ls : Array Slot), f ≤ i → i ≤ n → run t n a B f = (i - f) + run t n a B i → n - i < fu → lv_has ls 6 [(5, .int (nI i)), (0, .ref (ad k)), (1, .int (nI f)), (2, .long (lN B)), (4, .int (nI t))] → W p l e zr0 s m ([.ref (ad k), .int (nI f), .long (lN B), .int (nI t)] : List Value).toArray below meth c s.heap [] 0 0 Q (F0 m 3 ls []) := by
    intro fu
    induction fu with
    | zero =>
      intro i  ls i1 i2 i3 hm
      exact absurd hm (Nat.not_lt_zero _)
    | succ fu ih =>
      have ih3 := ih; clear ih
      intro i  ls i1 i2 i3 hm3  hl
      have hq := hab i
      refine lv_iload hx hb dX3_runFrom_3 (lv_at hl 0 rfl) ?_
      refine lv_aload_n hx hb dX3_runFrom_5 rfl (lv_at hl 1 rfl) ?_
      refine rp_get C0 FX hH k (by omega) (ci := 3) (k := 0) fk rfl kiX3 (by decide) kf21 rfl dX3_runFrom_6 ?_
      refine ni_cge hx hb 60 dX3_runFrom_9 (by decide) (by omega) (by omega) (fun c9 => ?_) (fun c9 => ?_)
      · refine lv_iload hx hb dX3_runFrom_60 (lv_at hl 0 rfl) ?_
        refine lv_iload_n hx hb dX3_runFrom_62 rfl (lv_at hl 2 rfl) ?_
        refine ni_isub hx hb (by omega) dX3_runFrom_63 ?_
        refine RET _ _ _ _ _ _ dX3_runFrom_64 rfl ?_ hH
        refine ⟨rfl, ?_⟩
        rw [i3, show run t n a B i = 0 from by first | exact rn_end (by omega) | exact rn_no (fun z => by have z : qt t a B i := z; unfold qt at z; first | (rw [if_pos (by omega)] at z; omega) | (rw [if_neg (by omega)] at z; omega))]
        rfl
      · refine lv_iload hx hb dX3_runFrom_12 (lv_at hl 4 rfl) ?_
        refine ni_eq0 hx hb 37 dX3_runFrom_14 (by decide) (by omega) (fun c14 => ?_) (fun c14 => ?_)
        · refine lv_aload_n hx hb dX3_runFrom_37 rfl (lv_at hl 1 rfl) ?_
          refine rp_get C0 FX hH k (by omega) (ci := 3) (k := 1) fk rfl kiX3 (by decide) kf11 rfl dX3_runFrom_38 ?_
          refine lv_iload hx hb dX3_runFrom_41 (lv_at hl 0 rfl) ?_
          refine rp_iald C0 FX hH (k + 1) (by omega) (v := a i) fc i (by omega) (by decide) (hxa _ (by omega)) dX3_runFrom_43 ?_
          refine ni_i2l hx hb (by have := hq c9; omega) dX3_runFrom_44 ?_
          refine lv_ldc2 hx hb C0.2.2.2.1 kl25 dX3_runFrom_45 ?_
          refine ni_lmul hx hb dX3_runFrom_48 ?_
          refine lv_lload_n hx hb dX3_runFrom_49 rfl (lv_at hl 3 rfl) ?_
          refine nl_gt hx hb 60 dX3_runFrom_50 dX3_runFrom_51 (by decide) (by have := hq c9; omega) (by omega) (fun c50 => ?_) (fun c50 => ?_)
          · refine lv_iload hx hb dX3_runFrom_60 (lv_at hl 0 rfl) ?_
            refine lv_iload_n hx hb dX3_runFrom_62 rfl (lv_at hl 2 rfl) ?_
            refine ni_isub hx hb (by omega) dX3_runFrom_63 ?_
            refine RET _ _ _ _ _ _ dX3_runFrom_64 rfl ?_ hH
            refine ⟨rfl, ?_⟩
            rw [i3, show run t n a B i = 0 from by first | exact rn_end (by omega) | exact rn_no (fun z => by have z : qt t a B i := z; unfold qt at z; first | (rw [if_pos (by omega)] at z; omega) | (rw [if_neg (by omega)] at z; omega))]
            rfl
          · refine lv_iinc (v := nI (i + 1)) (lv' := [(5, .int (nI (i + 1))), (0, .ref (ad k)), (1, .int (nI f)), (2, .long (lN B)), (4, .int (nI t))]) hx hb dX3_runFrom_54 hl (k := 0) rfl (ni_inc1 _) (by decide) rfl (fun ls hl => ?_)
            refine lv_goto (tgt := 3) hx hb dX3_runFrom_57 (by decide) ?_
            exact ih3 (i + 1) ls (by omega) (by omega) (by have hy : run t n a B i = run t n a B (i + 1) + 1 := rn_yes (q := qt t a B) (by omega) (by show qt t a B i; unfold qt; first | (rw [if_pos (by omega)]; omega) | (rw [if_neg (by omega)]; omega)); omega) (by omega) (lv_sub hl [0, 1, 2, 3, 4] rfl)
        · refine lv_aload_n hx hb dX3_runFrom_17 rfl (lv_at hl 1 rfl) ?_
          refine rp_get C0 FX hH k (by omega) (ci := 3) (k := 1) fk rfl kiX3 (by decide) kf11 rfl dX3_runFrom_18 ?_
          refine lv_iload hx hb dX3_runFrom_21 (lv_at hl 0 rfl) ?_
          refine rp_iald C0 FX hH (k + 1) (by omega) (v := a i) fc i (by omega) (by decide) (hxa _ (by omega)) dX3_runFrom_23 ?_
          refine ni_i2l hx hb (by have := hq c9; omega) dX3_runFrom_24 ?_
          refine lv_ldc2 hx hb C0.2.2.2.1 kl25 dX3_runFrom_25 ?_
          refine ni_lmul hx hb dX3_runFrom_28 ?_
          refine lv_lload_n hx hb dX3_runFrom_29 rfl (lv_at hl 3 rfl) ?_
          refine nl_lt hx hb 60 dX3_runFrom_30 dX3_runFrom_31 (by decide) (by have := hq c9; omega) (by omega) (fun c30 => ?_) (fun c30 => ?_)
          · refine lv_iload hx hb dX3_runFrom_60 (lv_at hl 0 rfl) ?_
            refine lv_iload_n hx hb dX3_runFrom_62 rfl (lv_at hl 2 rfl) ?_
            refine ni_isub hx hb (by omega) dX3_runFrom_63 ?_
            refine RET _ _ _ _ _ _ dX3_runFrom_64 rfl ?_ hH
            refine ⟨rfl, ?_⟩
            rw [i3, show run t n a B i = 0 from by first | exact rn_end (by omega) | exact rn_no (fun z => by have z : qt t a B i := z; unfold qt at z; first | (rw [if_pos (by omega)] at z; omega) | (rw [if_neg (by omega)] at z; omega))]
            rfl
          · refine lv_goto (tgt := 54) hx hb dX3_runFrom_34 (by decide) ?_
            refine lv_iinc (v := nI (i + 1)) (lv' := [(5, .int (nI (i + 1))), (0, .ref (ad k)), (1, .int (nI f)), (2, .long (lN B)), (4, .int (nI t))]) hx hb dX3_runFrom_54 hl (k := 0) rfl (ni_inc1 _) (by decide) rfl (fun ls hl => ?_)
            refine lv_goto (tgt := 3) hx hb dX3_runFrom_57 (by decide) ?_
            exact ih3 (i + 1) ls (by omega) (by omega) (by have hy : run t n a B i = run t n a B (i + 1) + 1 := rn_yes (q := qt t a B) (by omega) (by show qt t a B i; unfold qt; first | (rw [if_pos (by omega)]; omega) | (rw [if_neg (by omega)]; omega)); omega) (by omega) (lv_sub hl [0, 1, 2, 3, 4] rfl)
  exact L3 ((n - f) + 1) f ls (by omega) (by omega) (by omega) (Nat.lt_succ_self _) (lv_sub hl [0, 1, 2, 3, 4] rfl)
