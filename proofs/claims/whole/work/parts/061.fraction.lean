set_option maxHeartbeats 4000000 in
set_option maxRecDepth 100000 in
theorem k_X0_commonDivisor (l : Launch) (X : Cx) (ad : Nat → Nat) (hi : inj 48 ad) (g : PF) (u v : Nat) (hu : u < 2 ^ 63) (hv : v < 2 ^ 63) : Kl l yX0_commonDivisor wsX0_commonDivisor zr0 X 48 ad g [.long (lN u), .long (lN v)] (fun r g' => g' = g ∧ r = lN (Nat.gcd u v)) := by
  refine Kl.of (cc := cX0_commonDivisor) (maxL := 11) hi (by decide) rfl (Nat.le_of_ble_eq_true rfl) ?_
  intro p e s m below meth c Q E RET ls hl
  obtain ⟨C0, FX, hH⟩ := E
  have hx := C0.1
  have hb := C0.2.1
  have hl : lv_has ls 11 [(0, .long (lN u)), (2, .long (lN v))] := hl
  refine lv_lload_n hx hb dX0_commonDivisor_0 rfl (lv_at hl 0 rfl) ?_
  refine lv_lstore (lv' := [(4, .long (lN u)), (0, .long (lN u)), (2, .long (lN v))]) hx hb dX0_commonDivisor_1 hl (by decide) rfl (fun ls hl => ?_)
  refine lv_lload_n hx hb dX0_commonDivisor_3 rfl (lv_at hl 2 rfl) ?_
  refine lv_lstore (lv' := [(6, .long (lN v)), (4, .long (lN u)), (0, .long (lN u)), (2, .long (lN v))]) hx hb dX0_commonDivisor_4 hl (by decide) rfl (fun ls hl => ?_)
  refine lv_iconst (v := nI 0) hx hb dX0_commonDivisor_6 (by decide) ?_
  refine lv_istore (lv' := [(8, .int (nI 0)), (6, .long (lN v)), (4, .long (lN u)), (0, .long (lN u)), (2, .long (lN v))]) hx hb dX0_commonDivisor_7 hl (by decide) rfl (fun ls hl => ?_)
  have L9 : ∀ (fu : Nat) (x : Nat) (y : Nat) (i : Nat) (ls : Array Slot), (i ≤ 100) → (Nat.gcd x y = Nat.gcd u v) → (x < 2 ^ 63 ∧ y < 2 ^ 63) → (i = 0 ∨ euc (100 - i) x y) → 101 - i < fu → lv_has ls 11 [(8, .int (nI i)), (6, .long (lN y)), (4, .long (lN x)), (0, .long (lN u)), (2, .long (lN v))] → W p l e zr0 s m ([.long (lN u), .long (lN v)] : List Value).toArray below meth c s.heap [] 0 0 Q (F0 m 9 ls []) := by
    intro fu
    induction fu with
    | zero =>
      intro x y i  ls i1 i2 i3 i4 hm
      exact absurd hm (Nat.not_lt_zero _)
    | succ fu ih =>
      have ih9 := ih; clear ih
      intro x y i  ls i1 i2 i3 i4 hm9  hl
      refine lv_iload hx hb dX0_commonDivisor_9 (lv_at hl 0 rfl) ?_
      refine lv_bipush (v := nI 100) hx hb dX0_commonDivisor_11 (by decide) ?_
      refine ni_cge hx hb 44 dX0_commonDivisor_13 (by decide) (by omega) (by omega) (fun c13 => ?_) (fun c13 => ?_)
      · refine lv_lload hx hb dX0_commonDivisor_44 (lv_at hl 2 rfl) ?_
        refine RET _ _ _ _ _ _ dX0_commonDivisor_46 ?_ hH
        refine ⟨rfl, ?_⟩
        rcases i4 with z | z
        · omega
        · rw [show 100 - i = 0 by omega] at z; exact absurd z euc_0
      · refine lv_lload hx hb dX0_commonDivisor_16 (lv_at hl 1 rfl) ?_
        refine lv_lconst (v := lN 0) hx hb dX0_commonDivisor_18 (by decide) ?_
        refine nl_eq hx hb 44 dX0_commonDivisor_19 dX0_commonDivisor_20 (by decide) i3.2 (by omega) (fun c19 => ?_) (fun c19 => ?_)
        · refine lv_lload hx hb dX0_commonDivisor_44 (lv_at hl 2 rfl) ?_
          refine RET _ _ _ _ _ _ dX0_commonDivisor_46 ?_ hH
          refine ⟨rfl, ?_⟩
          rw [← i2, c19, Nat.gcd_zero_right]
        · have c19 : 0 < y := by omega
          refine lv_lload hx hb dX0_commonDivisor_23 (lv_at hl 2 rfl) ?_
          refine lv_lload hx hb dX0_commonDivisor_25 (lv_at hl 1 rfl) ?_
          refine ni_lrem hx hb i3.1 (by omega) i3.2 dX0_commonDivisor_27 ?_
          refine lv_lstore (lv' := [(9, .long (lN (x % y))), (8, .int (nI i)), (6, .long (lN y)), (4, .long (lN x)), (0, .long (lN u)), (2, .long (lN v))]) hx hb dX0_commonDivisor_28 hl (by decide) rfl (fun ls hl => ?_)
          refine lv_lload hx hb dX0_commonDivisor_30 (lv_at hl 2 rfl) ?_
          refine lv_lstore (lv' := [(4, .long (lN y)), (9, .long (lN (x % y))), (8, .int (nI i)), (6, .long (lN y)), (0, .long (lN u)), (2, .long (lN v))]) hx hb dX0_commonDivisor_32 hl (by decide) rfl (fun ls hl => ?_)
          refine lv_lload hx hb dX0_commonDivisor_34 (lv_at hl 1 rfl) ?_
          refine lv_lstore (lv' := [(6, .long (lN (x % y))), (4, .long (lN y)), (9, .long (lN (x % y))), (8, .int (nI i)), (0, .long (lN u)), (2, .long (lN v))]) hx hb dX0_commonDivisor_36 hl (by decide) rfl (fun ls hl => ?_)
          refine lv_iinc (v := nI (i + 1)) (lv' := [(8, .int (nI (i + 1))), (6, .long (lN (x % y))), (4, .long (lN y)), (9, .long (lN (x % y))), (0, .long (lN u)), (2, .long (lN v))]) hx hb dX0_commonDivisor_38 hl (k := 3) rfl (ni_inc1 _) (by decide) rfl (fun ls hl => ?_)
          refine lv_goto (tgt := 9) hx hb dX0_commonDivisor_41 (by decide) ?_
          exact ih9 y (x % y) (i + 1) ls (by omega) (by rw [← i2]; rw [Nat.gcd_comm x y, Nat.gcd_rec y x]; exact Nat.gcd_comm _ _) (⟨i3.2, by have := Nat.mod_lt x c19; omega⟩) (Or.inr (by rcases i4 with z | z; subst z; exact ⟨Nat.mod_lt x c19, Or.inl (by have h1 := Nat.mod_lt x c19; have h3 := fbp_98; show _ < (fbp 99).1; omega)⟩; rw [show 100 - i = (100 - (i + 1)) + 1 by omega] at z; exact euc_step z c19)) (by omega) (lv_sub hl [0, 1, 2, 4, 5] rfl)
  exact L9 ((101 - 0) + 1) u v 0 ls (by omega) (by rfl) (⟨hu, hv⟩) (Or.inl rfl) (Nat.lt_succ_self _) (lv_sub hl [0, 1, 2, 3, 4] rfl)
set_option maxHeartbeats 4000000 in
set_option maxRecDepth 100000 in
theorem k_X0_reduce (l : Launch) (X : Cx) (ad : Nat → Nat) (hi : inj 48 ad) (g : PF) (k : Nat) (hk : k < 48) (a b : Nat) (hF : frac ad k a b g) (ha : 0 < a) (hb0 : 0 < b) (ha2 : a < 2 ^ 63) (hb2 : b < 2 ^ 63) : Kv l yX0_reduce wsX0_reduce zr1 X 48 ad g [.ref (ad k)] (fun g' => frac ad k (lt2 a b).1 (lt2 a b).2 g' ∧ fr1 k g g') := by
  refine Kv.of (cc := cX0_reduce) (maxL := 3) hi (by decide) rfl (Nat.le_of_ble_eq_true rfl) ?_
  intro p e s m below meth c Q E RET ls hl
  obtain ⟨C0, FX, hH⟩ := E
  have hx := C0.1
  have hb := C0.2.1
  have kiX0 : ∀ w ∈ u_ws RX0 TX0 2, w ∈ wsX0_reduce := (by decide +kernel)
  have kf13 : Cond.fieldLink RX0 13 "YarnMill$Fraction" "below" "J" ∈ wsX0_reduce := (by decide +kernel)
  have kf7 : Cond.fieldLink RX0 7 "YarnMill$Fraction" "above" "J" ∈ wsX0_reduce := (by decide +kernel)
  have hl : lv_has ls 3 [(0, .ref (ad k))] := hl
  have fr : ∀ j, j ≠ k → g j = g j := fun j _ => rfl
  have fk : g k = .inr (0, [.long (lN a), .long (lN b)]) := hF
  have hgp := Nat.gcd_pos_of_pos_left b ha
  have hgl := Nat.gcd_le_left b ha
  refine lv_aload_n hx hb dX0_reduce_0 rfl (lv_at hl 0 rfl) ?_
  refine rp_get C0 FX hH k (by omega) (ci := 0) (k := 0) fk rfl kiX0 (by decide) kf7 rfl dX0_reduce_1 ?_
  refine lv_aload_n hx hb dX0_reduce_4 rfl (lv_at hl 0 rfl) ?_
  refine rp_get C0 FX hH k (by omega) (ci := 0) (k := 1) fk rfl kiX0 (by decide) kf13 rfl dX0_reduce_5 ?_
  refine rc_Sl (rest := []) C0 FX hH (k_X0_commonDivisor l X ad hi _ a b (by omega) (by omega)) (va_cwS 2 C0.2.2.2.2 gX0_reduce_X0_commonDivisor rfl rfl rfl (by decide +kernel) ⟨Nat.le_of_ble_eq_true rfl, Nat.le_of_ble_eq_true rfl⟩) rfl rfl hl.1 (Nat.le_of_ble_eq_true rfl) dX0_reduce_8 ⟨Nat.le_of_ble_eq_true rfl, Nat.le_of_ble_eq_true rfl⟩ (fun r8 g8c H locs h8 hH => ?_)
  obtain ⟨e8, rfl⟩ := h8
  rw [e8] at hH
  refine lv_lstore_n (lv' := [(1, .long (lN (Nat.gcd a b))), (0, .ref (ad k))]) hx hb dX0_reduce_11 rfl hl (by decide) rfl (fun ls hl => ?_)
  refine lv_lload_n hx hb dX0_reduce_12 rfl (lv_at hl 0 rfl) ?_
  refine lv_lconst (v := lN 1) hx hb dX0_reduce_13 (by decide) ?_
  refine nl_le hx hb 38 dX0_reduce_14 dX0_reduce_15 (by decide) (by omega) (by omega) (fun c14 => ?_) (fun c14 => ?_)
  · refine RET _ _ _ _ _ dX0_reduce_38 ?_ hH
    exact ⟨by rw [lt2_one (by omega)]; exact fk, fr⟩
  · refine lv_aload_n hx hb dX0_reduce_18 rfl (lv_at hl 1 rfl) ?_
    refine lv_dup hx hb dX0_reduce_19 rfl ?_
    refine rp_get C0 FX hH k (by omega) (ci := 0) (k := 0) fk rfl kiX0 (by decide) kf7 rfl dX0_reduce_20 ?_
    refine lv_lload_n hx hb dX0_reduce_23 rfl (lv_at hl 0 rfl) ?_
    refine ni_ldiv hx hb (by omega) (by omega) (by omega) dX0_reduce_24 ?_
    refine rp_put C0 FX hH k (by omega) (ci := 0) (k := 0) tyX0 tyX0_ok nmX0 fk rfl kiX0 (by decide) kf7 rfl rfl rfl (Nat.le_of_ble_eq_true rfl) dX0_reduce_25 (fun g1 H locs eq2 nq2 hH => ?_)
    have fk : g1 k = .inr (0, [.long (lN (a / (Nat.gcd a b))), .long (lN b)]) := eq2
    have fr : ∀ j, j ≠ k → g1 j = g j := fun j a0 => (nq2 j (by omega)).trans (fr j a0)
    refine lv_aload_n hx hb dX0_reduce_28 rfl (lv_at hl 1 rfl) ?_
    refine lv_dup hx hb dX0_reduce_29 rfl ?_
    refine rp_get C0 FX hH k (by omega) (ci := 0) (k := 1) fk rfl kiX0 (by decide) kf13 rfl dX0_reduce_30 ?_
    refine lv_lload_n hx hb dX0_reduce_33 rfl (lv_at hl 0 rfl) ?_
    refine ni_ldiv hx hb (by omega) (by omega) (by omega) dX0_reduce_34 ?_
    refine rp_put C0 FX hH k (by omega) (ci := 0) (k := 1) tyX0 tyX0_ok nmX0 fk rfl kiX0 (by decide) kf13 rfl rfl rfl (Nat.le_of_ble_eq_true rfl) dX0_reduce_35 (fun g3 H locs eq4 nq4 hH => ?_)
    have fk : g3 k = .inr (0, [.long (lN (a / (Nat.gcd a b))), .long (lN (b / (Nat.gcd a b)))]) := eq4
    have fr : ∀ j, j ≠ k → g3 j = g j := fun j a0 => (nq4 j (by omega)).trans (fr j a0)
    refine RET _ _ _ _ _ dX0_reduce_38 ?_ hH
    exact ⟨fk, fr⟩
set_option maxHeartbeats 4000000 in
set_option maxRecDepth 100000 in
theorem k_X0_set (l : Launch) (X : Cx) (ad : Nat → Nat) (hi : inj 48 ad) (g : PF) (k : Nat) (hk : k < 48) (a b : Nat) (hF : frac ad k a b g) (u v : Nat) (hu : 0 < u) (hv : 0 < v) (hu2 : u < 2 ^ 63) (hv2 : v < 2 ^ 63) : Kv l yX0_set wsX0_set zr2 X 48 ad g [.ref (ad k), .long (lN u), .long (lN v)] (fun g' => frac ad k (lt2 u v).1 (lt2 u v).2 g' ∧ fr1 k g g') := by
  refine Kv.of (cc := cX0_set) (maxL := 5) hi (by decide) rfl (Nat.le_of_ble_eq_true rfl) ?_
  intro p e s m below meth c Q E RET ls hl
  obtain ⟨C0, FX, hH⟩ := E
  have hx := C0.1
  have hb := C0.2.1
  have kiX0 : ∀ w ∈ u_ws RX0 TX0 2, w ∈ wsX0_set := (by decide +kernel)
  have kf13 : Cond.fieldLink RX0 13 "YarnMill$Fraction" "below" "J" ∈ wsX0_set := (by decide +kernel)
  have kf7 : Cond.fieldLink RX0 7 "YarnMill$Fraction" "above" "J" ∈ wsX0_set := (by decide +kernel)
  have hl : lv_has ls 5 [(0, .ref (ad k)), (1, .long (lN u)), (3, .long (lN v))] := hl
  have fr : ∀ j, j ≠ k → g j = g j := fun j _ => rfl
  have fk : g k = .inr (0, [.long (lN a), .long (lN b)]) := hF
  refine lv_aload_n hx hb dX0_set_0 rfl (lv_at hl 0 rfl) ?_
  refine lv_lload_n hx hb dX0_set_1 rfl (lv_at hl 1 rfl) ?_
  refine rp_put C0 FX hH k (by omega) (ci := 0) (k := 0) tyX0 tyX0_ok nmX0 fk rfl kiX0 (by decide) kf7 rfl rfl rfl (Nat.le_of_ble_eq_true rfl) dX0_set_2 (fun g1 H locs eq2 nq2 hH => ?_)
  have fk : g1 k = .inr (0, [.long (lN u), .long (lN b)]) := eq2
  have fr : ∀ j, j ≠ k → g1 j = g j := fun j a0 => (nq2 j (by omega)).trans (fr j a0)
  refine lv_aload_n hx hb dX0_set_5 rfl (lv_at hl 0 rfl) ?_
  refine lv_lload_n hx hb dX0_set_6 rfl (lv_at hl 2 rfl) ?_
  refine rp_put C0 FX hH k (by omega) (ci := 0) (k := 1) tyX0 tyX0_ok nmX0 fk rfl kiX0 (by decide) kf13 rfl rfl rfl (Nat.le_of_ble_eq_true rfl) dX0_set_7 (fun g3 H locs eq4 nq4 hH => ?_)
  have fk : g3 k = .inr (0, [.long (lN u), .long (lN v)]) := eq4
  have fr : ∀ j, j ≠ k → g3 j = g j := fun j a0 => (nq4 j (by omega)).trans (fr j a0)
  refine lv_aload_n hx hb dX0_set_10 rfl (lv_at hl 0 rfl) ?_
  refine rc_Vv (rest := []) C0 FX hH k (by omega) fk rfl (k_X0_reduce l X ad hi _ k (by omega) u v fk  (by omega) (by omega) (by omega) (by omega)) (cwV 0 C0.2.2.2.2 gX0_set_X0_reduce rfl rfl rfl (by decide +kernel) ⟨Nat.le_of_ble_eq_true rfl, Nat.le_of_ble_eq_true rfl⟩) rfl rfl hl.1 (Nat.le_of_ble_eq_true rfl) dX0_set_11 ⟨Nat.le_of_ble_eq_true rfl, Nat.le_of_ble_eq_true rfl⟩ (fun g11c H locs h11 hH => ?_)
  obtain ⟨eq5, nq5⟩ := h11
  have fk : g11c k = .inr (0, [.long (lN ((lt2 u v).1)), .long (lN ((lt2 u v).2))]) := eq5
  have fr : ∀ j, j ≠ k → g11c j = g j := fun j a0 => (nq5 j (by omega)).trans (fr j a0)
  refine RET _ _ _ _ _ dX0_set_14 ?_ hH
  exact ⟨fk, fr⟩
set_option maxHeartbeats 4000000 in
set_option maxRecDepth 100000 in
theorem k_X0_times (l : Launch) (X : Cx) (ad : Nat → Nat) (hi : inj 48 ad) (g : PF) (k : Nat) (hk : k < 48) (a b : Nat) (hF : frac ad k a b g) (u v : Nat) (hu : 0 < a * u) (hv : 0 < b * v) (hu2 : a * u < 2 ^ 63) (hv2 : b * v < 2 ^ 63) : Kv l yX0_times wsX0_times zr3 X 48 ad g [.ref (ad k), .long (lN u), .long (lN v)] (fun g' => frac ad k (lt2 (a * u) (b * v)).1 (lt2 (a * u) (b * v)).2 g' ∧ fr1 k g g') := by
  refine Kv.of (cc := cX0_times) (maxL := 5) hi (by decide) rfl (Nat.le_of_ble_eq_true rfl) ?_
  intro p e s m below meth c Q E RET ls hl
  obtain ⟨C0, FX, hH⟩ := E
  have hx := C0.1
  have hb := C0.2.1
  have kiX0 : ∀ w ∈ u_ws RX0 TX0 2, w ∈ wsX0_times := (by decide +kernel)
  have kf13 : Cond.fieldLink RX0 13 "YarnMill$Fraction" "below" "J" ∈ wsX0_times := (by decide +kernel)
  have kf7 : Cond.fieldLink RX0 7 "YarnMill$Fraction" "above" "J" ∈ wsX0_times := (by decide +kernel)
  have hl : lv_has ls 5 [(0, .ref (ad k)), (1, .long (lN u)), (3, .long (lN v))] := hl
  have fr : ∀ j, j ≠ k → g j = g j := fun j _ => rfl
  have fk : g k = .inr (0, [.long (lN a), .long (lN b)]) := hF
  refine lv_aload_n hx hb dX0_times_0 rfl (lv_at hl 0 rfl) ?_
  refine lv_aload_n hx hb dX0_times_1 rfl (lv_at hl 0 rfl) ?_
  refine rp_get C0 FX hH k (by omega) (ci := 0) (k := 0) fk rfl kiX0 (by decide) kf7 rfl dX0_times_2 ?_
  refine lv_lload_n hx hb dX0_times_5 rfl (lv_at hl 1 rfl) ?_
  refine ni_lmul hx hb dX0_times_6 ?_
  refine lv_aload_n hx hb dX0_times_7 rfl (lv_at hl 0 rfl) ?_
  refine rp_get C0 FX hH k (by omega) (ci := 0) (k := 1) fk rfl kiX0 (by decide) kf13 rfl dX0_times_8 ?_
  refine lv_lload_n hx hb dX0_times_11 rfl (lv_at hl 2 rfl) ?_
  refine ni_lmul hx hb dX0_times_12 ?_
  refine rc_Vv (rest := []) C0 FX hH k (by omega) fk rfl (k_X0_set l X ad hi _ k (by omega) a b fk (a * u) (b * v) (by omega) (by omega) (by omega) (by omega)) (cwV 2 C0.2.2.2.2 gX0_times_X0_set rfl rfl rfl (by decide +kernel) ⟨Nat.le_of_ble_eq_true rfl, Nat.le_of_ble_eq_true rfl⟩) rfl rfl hl.1 (Nat.le_of_ble_eq_true rfl) dX0_times_13 ⟨Nat.le_of_ble_eq_true rfl, Nat.le_of_ble_eq_true rfl⟩ (fun g13c H locs h13 hH => ?_)
  obtain ⟨eq1, nq1⟩ := h13
  have fk : g13c k = .inr (0, [.long (lN ((lt2 (a * u) (b * v)).1)), .long (lN ((lt2 (a * u) (b * v)).2))]) := eq1
  have fr : ∀ j, j ≠ k → g13c j = g j := fun j a0 => (nq1 j (by omega)).trans (fr j a0)
  refine RET _ _ _ _ _ dX0_times_16 ?_ hH
  exact ⟨fk, fr⟩
