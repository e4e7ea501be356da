set_option maxHeartbeats 4000000 in
set_option maxRecDepth 100000 in
theorem k_X5_within (l : Launch) (X : Cx) (ad : Nat → Nat) (hi : inj 48 ad) (g : PF) (v lo hh : Int64) : Ki l yX5_within wsX5_within zr0 X 48 ad g [.long v, .long lo, .long hh] (fun r g' => g' = g ∧ r = bI (lo ≤ v ∧ v ≤ hh)) := by
  refine Ki.of (cc := cX5_within) (maxL := 6) hi (by decide) rfl (Nat.le_of_ble_eq_true rfl) ?_
  intro p e s m below meth c Q E RET ls hl
  obtain ⟨C0, FX, hH⟩ := E
  have hx := C0.1
  have hb := C0.2.1
  have hl : lv_has ls 6 [(0, .long v), (2, .long lo), (4, .long hh)] := hl
  refine lv_lload_n hx hb dX5_within_0 rfl (lv_at hl 0 rfl) ?_
  refine lv_lload_n hx hb dX5_within_1 rfl (lv_at hl 1 rfl) ?_
  refine lc_lt hx hb 17 dX5_within_2 dX5_within_3 (by decide) (fun c2 => ?_) (fun c2 => ?_)
  · refine lv_iconst (v := nI 0) hx hb dX5_within_17 (by decide) ?_
    refine RET _ _ _ _ _ _ dX5_within_18 (by decide) ?_ hH
    refine ⟨rfl, ?_⟩
    first | exact (bI_t ⟨by first | assumption | exact Int64.not_lt.mp (by assumption), by first | assumption | exact Int64.not_lt.mp (by assumption)⟩).symm | exact (bI_f (fun z => absurd z.1 (by assumption))).symm | exact (bI_f (fun z => absurd z.2 (by assumption))).symm | exact (bI_f (fun z => absurd (by assumption) (Int64.not_lt.mpr z.1))).symm | exact (bI_f (fun z => absurd (by assumption) (Int64.not_lt.mpr z.2))).symm
  · refine lv_lload_n hx hb dX5_within_6 rfl (lv_at hl 0 rfl) ?_
    refine lv_lload hx hb dX5_within_7 (lv_at hl 2 rfl) ?_
    refine lc_gt hx hb 17 dX5_within_9 dX5_within_10 (by decide) (fun c9 => ?_) (fun c9 => ?_)
    · refine lv_iconst (v := nI 0) hx hb dX5_within_17 (by decide) ?_
      refine RET _ _ _ _ _ _ dX5_within_18 (by decide) ?_ hH
      refine ⟨rfl, ?_⟩
      first | exact (bI_t ⟨by first | assumption | exact Int64.not_lt.mp (by assumption), by first | assumption | exact Int64.not_lt.mp (by assumption)⟩).symm | exact (bI_f (fun z => absurd z.1 (by assumption))).symm | exact (bI_f (fun z => absurd z.2 (by assumption))).symm | exact (bI_f (fun z => absurd (by assumption) (Int64.not_lt.mpr z.1))).symm | exact (bI_f (fun z => absurd (by assumption) (Int64.not_lt.mpr z.2))).symm
    · refine lv_iconst (v := nI 1) hx hb dX5_within_13 (by decide) ?_
      refine lv_goto (tgt := 18) hx hb dX5_within_14 (by decide) ?_
      refine RET _ _ _ _ _ _ dX5_within_18 (by decide) ?_ hH
      refine ⟨rfl, ?_⟩
      first | exact (bI_t ⟨by first | assumption | exact Int64.not_lt.mp (by assumption), by first | assumption | exact Int64.not_lt.mp (by assumption)⟩).symm | exact (bI_f (fun z => absurd z.1 (by assumption))).symm | exact (bI_f (fun z => absurd z.2 (by assumption))).symm | exact (bI_f (fun z => absurd (by assumption) (Int64.not_lt.mpr z.1))).symm | exact (bI_f (fun z => absurd (by assumption) (Int64.not_lt.mpr z.2))).symm
theorem k_X5_within_rng (l : Launch) (X : Cx) (ad : Nat → Nat) (hi : inj 48 ad) (g : PF) (q : Int32) (lo hh : Nat) (h1 : lo < 2 ^ 63) (h2 : hh < 2 ^ 63) : Ki l yX5_within wsX5_within zr0 X 48 ad g [.long q.toInt64, .long (lN lo), .long (lN hh)] (fun r g' => g' = g ∧ r = bI (rng q lo hh)) := by
  have hw := k_X5_within l X ad hi g (q.toInt64) ((lN lo)) ((lN hh))
  rw [bI_congr (w_rng h1 h2)] at hw
  exact hw
theorem k_X5_within_nat (l : Launch) (X : Cx) (ad : Nat → Nat) (hi : inj 48 ad) (g : PF) (v lo hh : Nat) (h0 : v < 2 ^ 63) (h1 : lo < 2 ^ 63) (h2 : hh < 2 ^ 63) : Ki l yX5_within wsX5_within zr0 X 48 ad g [.long (lN v), .long (lN lo), .long (lN hh)] (fun r g' => g' = g ∧ r = bI (lo ≤ v ∧ v ≤ hh)) := by
  have hw := k_X5_within l X ad hi g ((lN v)) ((lN lo)) ((lN hh))
  rw [bI_congr (w_nat h0 h1 h2)] at hw
  exact hw
theorem k_X5_within_rngS (l : Launch) (X : Cx) (ad : Nat → Nat) (hi : inj 48 ad) (g : PF) (q : Int32) (n : Nat) (h : n < 1073741824) : Ki l yX5_within wsX5_within zr0 X 48 ad g [.long q.toInt64, .long (lN 0), .long (nI n - nI 1).toInt64] (fun r g' => g' = g ∧ r = bI (rngS q n)) := by
  have hw := k_X5_within l X ad hi g (q.toInt64) ((lN 0)) ((nI n - nI 1).toInt64)
  rw [bI_congr (w_rngS h)] at hw
  exact hw
theorem k_X5_within_natS (l : Launch) (X : Cx) (ad : Nat → Nat) (hi : inj 48 ad) (g : PF) (v n : Nat) (h0 : v < 2 ^ 63) (h : n < 1073741824) : Ki l yX5_within wsX5_within zr0 X 48 ad g [.long (lN v), .long (lN 0), .long (nI n - nI 1).toInt64] (fun r g' => g' = g ∧ r = bI (v < n)) := by
  have hw := k_X5_within l X ad hi g ((lN v)) ((lN 0)) ((nI n - nI 1).toInt64)
  rw [bI_congr (w_natS h0 h)] at hw
  exact hw
set_option maxHeartbeats 4000000 in
set_option maxRecDepth 100000 in
theorem k_X6_in (l : Launch) (X : Cx) (ad : Nat → Nat) (hi : inj 48 ad) (g : PF) (v lo hh : Int64) : Ki l yX6_in wsX6_in zr0 X 48 ad g [.long v, .long lo, .long hh] (fun r g' => g' = g ∧ r = bI (lo ≤ v ∧ v ≤ hh)) := by
  refine Ki.of (cc := cX6_in) (maxL := 6) hi (by decide) rfl (Nat.le_of_ble_eq_true rfl) ?_
  intro p e s m below meth c Q E RET ls hl
  obtain ⟨C0, FX, hH⟩ := E
  have hx := C0.1
  have hb := C0.2.1
  have hl : lv_has ls 6 [(0, .long v), (2, .long lo), (4, .long hh)] := hl
  refine lv_lload_n hx hb dX6_in_0 rfl (lv_at hl 0 rfl) ?_
  refine lv_lload_n hx hb dX6_in_1 rfl (lv_at hl 1 rfl) ?_
  refine lc_lt hx hb 17 dX6_in_2 dX6_in_3 (by decide) (fun c2 => ?_) (fun c2 => ?_)
  · refine lv_iconst (v := nI 0) hx hb dX6_in_17 (by decide) ?_
    refine RET _ _ _ _ _ _ dX6_in_18 (by decide) ?_ hH
    refine ⟨rfl, ?_⟩
    first | exact (bI_t ⟨by first | assumption | exact Int64.not_lt.mp (by assumption), by first | assumption | exact Int64.not_lt.mp (by assumption)⟩).symm | exact (bI_f (fun z => absurd z.1 (by assumption))).symm | exact (bI_f (fun z => absurd z.2 (by assumption))).symm | exact (bI_f (fun z => absurd (by assumption) (Int64.not_lt.mpr z.1))).symm | exact (bI_f (fun z => absurd (by assumption) (Int64.not_lt.mpr z.2))).symm
  · refine lv_lload_n hx hb dX6_in_6 rfl (lv_at hl 0 rfl) ?_
    refine lv_lload hx hb dX6_in_7 (lv_at hl 2 rfl) ?_
    refine lc_gt hx hb 17 dX6_in_9 dX6_in_10 (by decide) (fun c9 => ?_) (fun c9 => ?_)
    · refine lv_iconst (v := nI 0) hx hb dX6_in_17 (by decide) ?_
      refine RET _ _ _ _ _ _ dX6_in_18 (by decide) ?_ hH
      refine ⟨rfl, ?_⟩
      first | exact (bI_t ⟨by first | assumption | exact Int64.not_lt.mp (by assumption), by first | assumption | exact Int64.not_lt.mp (by assumption)⟩).symm | exact (bI_f (fun z => absurd z.1 (by assumption))).symm | exact (bI_f (fun z => absurd z.2 (by assumption))).symm | exact (bI_f (fun z => absurd (by assumption) (Int64.not_lt.mpr z.1))).symm | exact (bI_f (fun z => absurd (by assumption) (Int64.not_lt.mpr z.2))).symm
    · refine lv_iconst (v := nI 1) hx hb dX6_in_13 (by decide) ?_
      refine lv_goto (tgt := 18) hx hb dX6_in_14 (by decide) ?_
      refine RET _ _ _ _ _ _ dX6_in_18 (by decide) ?_ hH
      refine ⟨rfl, ?_⟩
      first | exact (bI_t ⟨by first | assumption | exact Int64.not_lt.mp (by assumption), by first | assumption | exact Int64.not_lt.mp (by assumption)⟩).symm | exact (bI_f (fun z => absurd z.1 (by assumption))).symm | exact (bI_f (fun z => absurd z.2 (by assumption))).symm | exact (bI_f (fun z => absurd (by assumption) (Int64.not_lt.mpr z.1))).symm | exact (bI_f (fun z => absurd (by assumption) (Int64.not_lt.mpr z.2))).symm
theorem k_X6_in_rng (l : Launch) (X : Cx) (ad : Nat → Nat) (hi : inj 48 ad) (g : PF) (q : Int32) (lo hh : Nat) (h1 : lo < 2 ^ 63) (h2 : hh < 2 ^ 63) : Ki l yX6_in wsX6_in zr0 X 48 ad g [.long q.toInt64, .long (lN lo), .long (lN hh)] (fun r g' => g' = g ∧ r = bI (rng q lo hh)) := by
  have hw := k_X6_in l X ad hi g (q.toInt64) ((lN lo)) ((lN hh))
  rw [bI_congr (w_rng h1 h2)] at hw
  exact hw
theorem k_X6_in_nat (l : Launch) (X : Cx) (ad : Nat → Nat) (hi : inj 48 ad) (g : PF) (v lo hh : Nat) (h0 : v < 2 ^ 63) (h1 : lo < 2 ^ 63) (h2 : hh < 2 ^ 63) : Ki l yX6_in wsX6_in zr0 X 48 ad g [.long (lN v), .long (lN lo), .long (lN hh)] (fun r g' => g' = g ∧ r = bI (lo ≤ v ∧ v ≤ hh)) := by
  have hw := k_X6_in l X ad hi g ((lN v)) ((lN lo)) ((lN hh))
  rw [bI_congr (w_nat h0 h1 h2)] at hw
  exact hw
theorem k_X6_in_rngS (l : Launch) (X : Cx) (ad : Nat → Nat) (hi : inj 48 ad) (g : PF) (q : Int32) (n : Nat) (h : n < 1073741824) : Ki l yX6_in wsX6_in zr0 X 48 ad g [.long q.toInt64, .long (lN 0), .long (nI n - nI 1).toInt64] (fun r g' => g' = g ∧ r = bI (rngS q n)) := by
  have hw := k_X6_in l X ad hi g (q.toInt64) ((lN 0)) ((nI n - nI 1).toInt64)
  rw [bI_congr (w_rngS h)] at hw
  exact hw
theorem k_X6_in_natS (l : Launch) (X : Cx) (ad : Nat → Nat) (hi : inj 48 ad) (g : PF) (v n : Nat) (h0 : v < 2 ^ 63) (h : n < 1073741824) : Ki l yX6_in wsX6_in zr0 X 48 ad g [.long (lN v), .long (lN 0), .long (nI n - nI 1).toInt64] (fun r g' => g' = g ∧ r = bI (v < n)) := by
  have hw := k_X6_in l X ad hi g ((lN v)) ((lN 0)) ((nI n - nI 1).toInt64)
  rw [bI_congr (w_natS h0 h)] at hw
  exact hw
