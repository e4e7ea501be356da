abbrev zr6 : Room := { frames := 72, cells := 0, slots := 0, locals := 1440 }
abbrev zr7 : Room := { frames := 84, cells := 0, slots := 0, locals := 1680 }
abbrev zr8 : Room := { frames := 200, cells := 0, slots := 0, locals := 6000 }
abbrev zr9 : Room := { frames := 240, cells := 0, slots := 0, locals := 7000 }
set_option maxHeartbeats 4000000 in
set_option maxRecDepth 100000 in
theorem k_X1_reckonCount (l : Launch) (X : Cx) (ad : Nat → Nat) (hi : inj 48 ad) (g : PF) (nm fa fb : Nat) (mc rd : Nat → Nat → Nat) (hR : rLine X ad (nm, fa, fb, mc, rd) g) (kv : Nat) (hkv : kv ≤ nm) : Ki l yX1_reckonCount wsX1_reckonCount zr4 X 48 ad g [.ref (ad 1), .int (nI kv)] (fun r g' => (∃ A B : Nat, g' 3 = .inr (0, [.long (lN A), .long (lN B)]) ∧ (okc (nm, fa, fb, mc, rd) kv → (A, B) = cnt (nm, fa, fb, mc, rd) kv)) ∧ fr1 3 g g' ∧ r = bI (okc (nm, fa, fb, mc, rd) kv)) := by
  refine Ki.of (cc := cX1_reckonCount) (maxL := 4) hi (by decide) rfl (Nat.le_of_ble_eq_true rfl) ?_
  intro p e s m below meth c Q E RET ls hl
  obtain ⟨C0, FX, hH⟩ := E
  have hx := C0.1
  have hb := C0.2.1
  have kl106 := C0.2.2.2.2 (.constantLong RX1 106 (lN 1000000000000)) (by decide +kernel)
  have kl64 := C0.2.2.2.2 (.constantLong RX1 64 (lN 1000)) (by decide +kernel)
  have kiX0 : ∀ w ∈ u_ws RX0 TX0 2, w ∈ wsX1_reckonCount := (by decide +kernel)
  have kiX1 : ∀ w ∈ u_ws RX1 TX1 5, w ∈ wsX1_reckonCount := (by decide +kernel)
  have kiX2 : ∀ w ∈ u_ws RX2 TX2 6, w ∈ wsX1_reckonCount := (by decide +kernel)
  have kf15 : Cond.fieldLink RX1 15 "YarnMill$Line" "firstBelow" "I" ∈ wsX1_reckonCount := (by decide +kernel)
  have kf20 : Cond.fieldLink RX1 20 "YarnMill$Line" "machines" "[LYarnMill$Machine;" ∈ wsX1_reckonCount := (by decide +kernel)
  have kf27 : Cond.fieldLink RX1 27 "YarnMill$Line" "told" "LYarnMill$Fraction;" ∈ wsX1_reckonCount := (by decide +kernel)
  have kf49 : Cond.fieldLink RX1 49 "YarnMill$Machine" "doublings" "I" ∈ wsX1_reckonCount := (by decide +kernel)
  have kf52 : Cond.fieldLink RX1 52 "YarnMill$Machine" "above" "I" ∈ wsX1_reckonCount := (by decide +kernel)
  have kf55 : Cond.fieldLink RX1 55 "YarnMill$Machine" "below" "I" ∈ wsX1_reckonCount := (by decide +kernel)
  have kf58 : Cond.fieldLink RX1 58 "YarnMill$Machine" "loss" "I" ∈ wsX1_reckonCount := (by decide +kernel)
  have kf9 : Cond.fieldLink RX1 9 "YarnMill$Line" "firstAbove" "I" ∈ wsX1_reckonCount := (by decide +kernel)
  have kf94 : Cond.fieldLink RX1 94 "YarnMill$Fraction" "above" "J" ∈ wsX1_reckonCount := (by decide +kernel)
  have kf97 : Cond.fieldLink RX1 97 "YarnMill$Fraction" "below" "J" ∈ wsX1_reckonCount := (by decide +kernel)
  have hl : lv_has ls 4 [(0, .ref (ad 1)), (1, .int (nI kv))] := hl
  have fr : ∀ j, j ≠ 3 → g j = g j := fun j _ => rfl
  obtain ⟨hm, hr, A, B, fm, f1, f2, hfm, f3, hM, hrel, hrr, hok⟩ := hR
  have f1 : g 1 = .inr (1, [.int (nI nm), .int (nI fa), .int (nI fb), .ref (ad 2), .ref (ad 3)]) := f1
  have hrel : ∀ j, j < nm → ∀ i, i < 5 → hm j i = mc j i := hrel
  have hrr : ∀ j, j < nm → ∀ r, r < mc j 4 → hr j r = rd j r := hrr
  have h6 : nm ≤ 6 := hok.1
  have hfa : 1 ≤ fa ∧ fa ≤ 10000 := hok.2.1
  have hfb : 1 ≤ fb ∧ fb ≤ 10000 := hok.2.2.1
  have hmk : ∀ j, j < nm → mcOk (mc j) ∧ ∀ r, r < mc j 4 → 1 ≤ rd j r ∧ rd j r ≤ 1000 := hok.2.2.2
  refine lv_aload_n hx hb dX1_reckonCount_0 rfl (lv_at hl 0 rfl) ?_
  refine rp_get C0 FX hH 1 (by decide) (ci := 1) (k := 4) f1 rfl kiX1 (by decide) kf27 rfl dX1_reckonCount_1 ?_
  refine lv_aload_n hx hb dX1_reckonCount_4 rfl (lv_at hl 0 rfl) ?_
  refine rp_get C0 FX hH 1 (by decide) (ci := 1) (k := 1) f1 rfl kiX1 (by decide) kf9 rfl dX1_reckonCount_5 ?_
  refine ni_i2l hx hb (by omega) dX1_reckonCount_8 ?_
  refine lv_aload_n hx hb dX1_reckonCount_9 rfl (lv_at hl 0 rfl) ?_
  refine rp_get C0 FX hH 1 (by decide) (ci := 1) (k := 2) f1 rfl kiX1 (by decide) kf15 rfl dX1_reckonCount_10 ?_
  refine ni_i2l hx hb (by omega) dX1_reckonCount_13 ?_
  refine rc_Vv (rest := []) C0 FX hH 3 (by decide) f3 rfl (k_X0_set l X ad hi _ 3 (by decide) A B f3 fa fb (by omega) (by omega) (by omega) (by omega)) (cwV 2 C0.2.2.2.2 gX1_reckonCount_X0_set rfl rfl rfl (by decide +kernel) ⟨Nat.le_of_ble_eq_true rfl, Nat.le_of_ble_eq_true rfl⟩) rfl rfl hl.1 (Nat.le_of_ble_eq_true rfl) dX1_reckonCount_14 ⟨Nat.le_of_ble_eq_true rfl, Nat.le_of_ble_eq_true rfl⟩ (fun g14c H locs h14 hH => ?_)
  obtain ⟨eq1, nq1⟩ := h14
  have f3 : g14c 3 = .inr (0, [.long (lN ((lt2 fa fb).1)), .long (lN ((lt2 fa fb).2))]) := eq1
  have f1 : g14c 1 = .inr (1, [.int (nI nm), .int (nI fa), .int (nI fb), .ref (ad 2), .ref (ad 3)]) := (nq1 _ (by omega)).trans f1
  have f2 : g14c 2 = orr X.2.2.1 6 fm := (nq1 _ (by omega)).trans f2
  have hM : mFam X ad hm hr g14c := mFam.same hM (fun r h1 h2 => nq1 r (by omega))
  have fr : ∀ j, j ≠ 3 → g14c j = g j := fun j a0 => (nq1 j (by omega)).trans (fr j a0)
  refine lv_iconst (v := nI 0) hx hb dX1_reckonCount_17 (by decide) ?_
  refine lv_istore_n (lv' := [(2, .int (nI 0)), (0, .ref (ad 1)), (1, .int (nI kv))]) hx hb dX1_reckonCount_18 rfl hl (by decide) rfl (fun ls hl => ?_)
  have L19 : ∀ (fu : Nat) (i : Nat) (g2 : PF) (H : Heap) (locs : List Loc) (ls : Array Slot), (i ≤ kv) → (okc (nm, fa, fb, mc, rd) i) → kv - i < fu → WH X 48 ad (pA 48 ad s.heap.size) s g2 H locs → g2 1 = .inr (1, [.int (nI nm), .int (nI fa), .int (nI fb), .ref (ad 2), .ref (ad 3)]) → g2 2 = orr X.2.2.1 6 fm → g2 3 = .inr (0, [.long (lN ((cnt (nm, fa, fb, mc, rd) i).1)), .long (lN ((cnt (nm, fa, fb, mc, rd) i).2))]) → mFam X ad hm hr g2 → (∀ j, j ≠ 3 → g2 j = g j) → lv_has ls 4 [(2, .int (nI i)), (0, .ref (ad 1)), (1, .int (nI kv))] → W p l e zr4 s m ([.ref (ad 1), .int (nI kv)] : List Value).toArray below meth c H locs 0 0 Q (F0 m 19 ls []) := by
    intro fu
    induction fu with
    | zero =>
      intro i g2 H locs ls j1 j2 hm
      exact absurd hm (Nat.not_lt_zero _)
    | succ fu ih =>
      have ih19 := ih; clear ih
      intro i g2 H locs ls j1 j2 hm19 hH f1 f2 f3 hM fr hl
      refine lv_iload_n hx hb dX1_reckonCount_19 rfl (lv_at hl 0 rfl) ?_
      refine lv_iload_n hx hb dX1_reckonCount_20 rfl (lv_at hl 2 rfl) ?_
      refine ni_cge hx hb 104 dX1_reckonCount_21 (by decide) (by omega) (by omega) (fun c21 => ?_) (fun c21 => ?_)
      · refine lv_iconst (v := nI 1) hx hb dX1_reckonCount_104 (by decide) ?_
        refine RET _ _ _ _ _ _ dX1_reckonCount_105 (by decide) ?_ hH
        have hik : i = kv := by omega
        subst hik
        exact ⟨⟨_, _, f3, fun _ => rfl⟩, fr, (bI_t j2).symm⟩
      · refine lv_aload_n hx hb dX1_reckonCount_24 rfl (lv_at hl 1 rfl) ?_
        refine rp_get C0 FX hH 1 (by decide) (ci := 1) (k := 3) f1 rfl kiX1 (by decide) kf20 rfl dX1_reckonCount_25 ?_
        refine lv_iload_n hx hb dX1_reckonCount_28 rfl (lv_at hl 0 rfl) ?_
        refine rp_aald C0 FX hH 2 1 (by decide) f2 rfl i (ad (4 + 2 * i)) (by omega) (by decide) (hfm _ (by omega)) dX1_reckonCount_29 ?_
        refine lv_astore_n (lv' := [(3, .ref (ad (4 + 2 * i))), (2, .int (nI i)), (0, .ref (ad 1)), (1, .int (nI kv))]) hx hb dX1_reckonCount_30 rfl hl (by decide) rfl (fun ls hl => ?_)
        refine lv_aload_n hx hb dX1_reckonCount_31 rfl (lv_at hl 2 rfl) ?_
        refine rp_get C0 FX hH 1 (by decide) (ci := 1) (k := 4) f1 rfl kiX1 (by decide) kf27 rfl dX1_reckonCount_32 ?_
        refine lv_aload_n hx hb dX1_reckonCount_35 rfl (lv_at hl 0 rfl) ?_
        have ymo36 : g2 (4 + 2 * i) = .inr (2, [.int (nI (mc i 0)), .int (nI (mc i 1)), .int (nI (mc i 2)), .int (nI (mc i 3)), .int (nI (mc i 4)), .ref (ad (5 + 2 * i))]) := mFam_at hM h6 hrel _ (by omega)
        have ho36 := (hmk i (by omega)).1
        obtain ⟨⟨p36a, p36b⟩, ⟨p36c, p36d⟩, ⟨p36e, p36f⟩, p36g, p36h⟩ := id ho36
        refine rp_get C0 FX hH (4 + 2 * i) (by omega) (ci := 2) (k := 0) ymo36 rfl kiX2 (by decide) kf49 rfl dX1_reckonCount_36 ?_
        refine ni_i2l hx hb (by omega) dX1_reckonCount_39 ?_
        refine lv_sipush (v := nI 1000) hx hb dX1_reckonCount_40 (by decide) ?_
        refine lv_aload_n hx hb dX1_reckonCount_43 rfl (lv_at hl 0 rfl) ?_
        refine rp_get C0 FX hH (4 + 2 * i) (by omega) (ci := 2) (k := 3) ymo36 rfl kiX2 (by decide) kf58 rfl dX1_reckonCount_44 ?_
        refine ni_isub hx hb (by omega) dX1_reckonCount_47 ?_
        refine ni_i2l hx hb (by omega) dX1_reckonCount_48 ?_
        refine ni_lmul hx hb dX1_reckonCount_49 ?_
        refine lv_aload_n hx hb dX1_reckonCount_50 rfl (lv_at hl 0 rfl) ?_
        refine rp_get C0 FX hH (4 + 2 * i) (by omega) (ci := 2) (k := 2) ymo36 rfl kiX2 (by decide) kf55 rfl dX1_reckonCount_51 ?_
        refine ni_i2l hx hb (by omega) dX1_reckonCount_54 ?_
        refine ni_lmul hx hb dX1_reckonCount_55 ?_
        refine lv_ldc2 hx hb C0.2.2.2.1 kl64 dX1_reckonCount_56 ?_
        refine lv_aload_n hx hb dX1_reckonCount_59 rfl (lv_at hl 0 rfl) ?_
        refine rp_get C0 FX hH (4 + 2 * i) (by omega) (ci := 2) (k := 1) ymo36 rfl kiX2 (by decide) kf52 rfl dX1_reckonCount_60 ?_
        refine ni_i2l hx hb (by omega) dX1_reckonCount_63 ?_
        refine ni_lmul hx hb dX1_reckonCount_64 ?_
        have hcp := cnt_pos hok i (by show i ≤ nm; omega)
        have hcl := cnt_le hok (k := i) j2
        have hfac := fac_in (hmk i (by omega)).1
        have hUb := Nat.mul_le_mul hcl.1 hfac.1.2
        have hVb := Nat.mul_le_mul hcl.2 hfac.2.2
        have hl2 := lt2_le ((cnt (nm, fa, fb, mc, rd) i).1 * (mc i 0 * (1000 - mc i 3) * mc i 2)) ((cnt (nm, fa, fb, mc, rd) i).2 * (1000 * mc i 1))
        refine rc_Vv (rest := []) C0 FX hH 3 (by decide) f3 rfl (k_X0_times l X ad hi _ 3 (by decide) ((cnt (nm, fa, fb, mc, rd) i).1) ((cnt (nm, fa, fb, mc, rd) i).2) f3 (((mc i 0) * (1000 - (mc i 3))) * (mc i 2)) (1000 * (mc i 1)) (Nat.mul_pos hcp.1 hfac.1.1) (Nat.mul_pos hcp.2 hfac.2.1) (by omega) (by omega)) (cwV 2 C0.2.2.2.2 gX1_reckonCount_X0_times rfl rfl rfl (by decide +kernel) ⟨Nat.le_of_ble_eq_true rfl, Nat.le_of_ble_eq_true rfl⟩) rfl rfl hl.1 (Nat.le_of_ble_eq_true rfl) dX1_reckonCount_65 ⟨Nat.le_of_ble_eq_true rfl, Nat.le_of_ble_eq_true rfl⟩ (fun g65c H locs h65 hH => ?_)
        obtain ⟨eq3, nq3⟩ := h65
        have f3 : g65c 3 = .inr (0, [.long (lN ((lt2 (((cnt (nm, fa, fb, mc, rd) i).1) * (((mc i 0) * (1000 - (mc i 3))) * (mc i 2))) (((cnt (nm, fa, fb, mc, rd) i).2) * (1000 * (mc i 1)))).1)), .long (lN ((lt2 (((cnt (nm, fa, fb, mc, rd) i).1) * (((mc i 0) * (1000 - (mc i 3))) * (mc i 2))) (((cnt (nm, fa, fb, mc, rd) i).2) * (1000 * (mc i 1)))).2))]) := eq3
        have f1 : g65c 1 = .inr (1, [.int (nI nm), .int (nI fa), .int (nI fb), .ref (ad 2), .ref (ad 3)]) := (nq3 _ (by omega)).trans f1
        have f2 : g65c 2 = orr X.2.2.1 6 fm := (nq3 _ (by omega)).trans f2
        have hM : mFam X ad hm hr g65c := mFam.same hM (fun r h1 h2 => nq3 r (by omega))
        have ymo36 : g65c (4 + 2 * i) = .inr (2, [.int (nI (mc i 0)), .int (nI (mc i 1)), .int (nI (mc i 2)), .int (nI (mc i 3)), .int (nI (mc i 4)), .ref (ad (5 + 2 * i))]) := (nq3 _ (by omega)).trans ymo36
        have fr : ∀ j, j ≠ 3 → g65c j = g j := fun j a0 => (nq3 j (by omega)).trans (fr j a0)
        refine lv_aload_n hx hb dX1_reckonCount_68 rfl (lv_at hl 2 rfl) ?_
        refine rp_get C0 FX hH 1 (by decide) (ci := 1) (k := 4) f1 rfl kiX1 (by decide) kf27 rfl dX1_reckonCount_69 ?_
        refine rp_get C0 FX hH 3 (by decide) (ci := 0) (k := 0) f3 rfl kiX0 (by decide) kf94 rfl dX1_reckonCount_72 ?_
        refine lv_ldc2 hx hb C0.2.2.2.1 kl106 dX1_reckonCount_75 ?_
        refine nl_gt hx hb 96 dX1_reckonCount_78 dX1_reckonCount_79 (by decide) (by omega) (by omega) (fun c78 => ?_) (fun c78 => ?_)
        · refine lv_iconst (v := nI 0) hx hb dX1_reckonCount_96 (by decide) ?_
          refine RET _ _ _ _ _ _ dX1_reckonCount_97 (by decide) ?_ hH
          refine ⟨⟨_, _, f3, fun z => ?_⟩, fr, ?_⟩
          · exact absurd (z i c21).1 (Nat.not_le.mpr c78)
          · exact (bI_f (fun z => absurd (z i c21).1 (Nat.not_le.mpr c78))).symm
        · refine lv_aload_n hx hb dX1_reckonCount_82 rfl (lv_at hl 2 rfl) ?_
          refine rp_get C0 FX hH 1 (by decide) (ci := 1) (k := 4) f1 rfl kiX1 (by decide) kf27 rfl dX1_reckonCount_83 ?_
          refine rp_get C0 FX hH 3 (by decide) (ci := 0) (k := 1) f3 rfl kiX0 (by decide) kf97 rfl dX1_reckonCount_86 ?_
          refine lv_ldc2 hx hb C0.2.2.2.1 kl106 dX1_reckonCount_89 ?_
          refine nl_le hx hb 98 dX1_reckonCount_92 dX1_reckonCount_93 (by decide) (by omega) (by omega) (fun c92 => ?_) (fun c92 => ?_)
          · refine lv_iinc (v := nI (i + 1)) (lv' := [(2, .int (nI (i + 1))), (3, .ref (ad (4 + 2 * i))), (0, .ref (ad 1)), (1, .int (nI kv))]) hx hb dX1_reckonCount_98 hl (k := 1) rfl (ni_inc1 _) (by decide) rfl (fun ls hl => ?_)
            refine lv_goto (tgt := 19) hx hb dX1_reckonCount_101 (by decide) ?_
            exact ih19 (i + 1) _ _ _ ls (by omega) (fun j h => by rcases Nat.lt_succ_iff_lt_or_eq.mp h with z | z; exact j2 j z; subst z; exact ⟨c78, c92⟩) (by omega) hH f1 f2 f3 hM fr (lv_sub hl [0, 2, 3] rfl)
          · refine lv_iconst (v := nI 0) hx hb dX1_reckonCount_96 (by decide) ?_
            refine RET _ _ _ _ _ _ dX1_reckonCount_97 (by decide) ?_ hH
            refine ⟨⟨_, _, f3, fun z => ?_⟩, fr, ?_⟩
            · exact absurd (z i c21).2 (Nat.not_le.mpr c92)
            · exact (bI_f (fun z => absurd (z i c21).2 (Nat.not_le.mpr c92))).symm
  exact L19 ((kv - 0) + 1) 0 _ _ _ ls (by omega) (fun j h => absurd h (Nat.not_lt_zero _)) (Nat.lt_succ_self _) hH f1 f2 f3 hM fr (lv_sub hl [0, 1, 2] rfl)
set_option maxHeartbeats 4000000 in
set_option maxRecDepth 100000 in
theorem k_X1_toldPart (l : Launch) (X : Cx) (ad : Nat → Nat) (hi : inj 48 ad) (g : PF) (nm fa fb A B : Nat) (f1 : g 1 = .inr (1, [.int (nI nm), .int (nI fa), .int (nI fb), .ref (ad 2), .ref (ad 3)])) (f3 : g 3 = .inr (0, [.long (lN A), .long (lN B)])) (q : Int32) : Kl l yX1_toldPart wsX1_toldPart zr0 X 48 ad g [.ref (ad 1), .int q] (fun r g' => g' = g ∧ r = if q = nI 0 then lN A else lN B) := by
  refine Kl.of (cc := cX1_toldPart) (maxL := 2) hi (by decide) rfl (Nat.le_of_ble_eq_true rfl) ?_
  intro p e s m below meth c Q E RET ls hl
  obtain ⟨C0, FX, hH⟩ := E
  have hx := C0.1
  have hb := C0.2.1
  have kiX0 : ∀ w ∈ u_ws RX0 TX0 2, w ∈ wsX1_toldPart := (by decide +kernel)
  have kiX1 : ∀ w ∈ u_ws RX1 TX1 5, w ∈ wsX1_toldPart := (by decide +kernel)
  have kf27 : Cond.fieldLink RX1 27 "YarnMill$Line" "told" "LYarnMill$Fraction;" ∈ wsX1_toldPart := (by decide +kernel)
  have kf94 : Cond.fieldLink RX1 94 "YarnMill$Fraction" "above" "J" ∈ wsX1_toldPart := (by decide +kernel)
  have kf97 : Cond.fieldLink RX1 97 "YarnMill$Fraction" "below" "J" ∈ wsX1_toldPart := (by decide +kernel)
  have hl : lv_has ls 2 [(0, .ref (ad 1)), (1, .int q)] := hl
  refine lv_iload_n hx hb dX1_toldPart_0 rfl (lv_at hl 1 rfl) ?_
  refine lv_if_ne (tgt := 14) hx hb dX1_toldPart_1 (by decide) (fun c1 => ?_) (fun c1 => ?_)
  · refine lv_aload_n hx hb dX1_toldPart_14 rfl (lv_at hl 0 rfl) ?_
    refine rp_get C0 FX hH 1 (by decide) (ci := 1) (k := 4) f1 rfl kiX1 (by decide) kf27 rfl dX1_toldPart_15 ?_
    refine rp_get C0 FX hH 3 (by decide) (ci := 0) (k := 1) f3 rfl kiX0 (by decide) kf97 rfl dX1_toldPart_18 ?_
    refine RET _ _ _ _ _ _ dX1_toldPart_21 ?_ hH
    refine ⟨rfl, ?_⟩
    rw [if_neg (show ¬ q = nI 0 from c1)]
  · refine lv_aload_n hx hb dX1_toldPart_4 rfl (lv_at hl 0 rfl) ?_
    refine rp_get C0 FX hH 1 (by decide) (ci := 1) (k := 4) f1 rfl kiX1 (by decide) kf27 rfl dX1_toldPart_5 ?_
    refine rp_get C0 FX hH 3 (by decide) (ci := 0) (k := 0) f3 rfl kiX0 (by decide) kf94 rfl dX1_toldPart_8 ?_
    refine lv_goto (tgt := 21) hx hb dX1_toldPart_11 (by decide) ?_
    refine RET _ _ _ _ _ _ dX1_toldPart_21 ?_ hH
    refine ⟨rfl, ?_⟩
    rw [if_pos (show q = nI 0 from c1)]
set_option maxHeartbeats 4000000 in
set_option maxRecDepth 100000 in
theorem k_X1_tellCount (l : Launch) (X : Cx) (ad : Nat → Nat) (hi : inj 48 ad) (g : PF) (nm fa fb : Nat) (mc rd : Nat → Nat → Nat) (hR : rLine X ad (nm, fa, fb, mc, rd) g) (p0 p1 : Int32) : Kl l yX1_tellCount wsX1_tellCount zr5 X 48 ad g [.ref (ad 1), .int p0, .int p1] (fun r g' => r = sp_countAt p0 p1 (nm, fa, fb, mc, rd) ∧ rLine X ad (nm, fa, fb, mc, rd) g' ∧ frL g g') := by
  refine Kl.of (cc := cX1_tellCount) (maxL := 3) hi (by decide) rfl (Nat.le_of_ble_eq_true rfl) ?_
  intro p e s m below meth c Q E RET ls hl
  obtain ⟨C0, FX, hH⟩ := E
  have hx := C0.1
  have hb := C0.2.1
  have kl70 := C0.2.2.2.2 (.constantLong RX1 70 (-2)) (by decide +kernel)
  have kl80 := C0.2.2.2.2 (.constantLong RX1 80 (-6)) (by decide +kernel)
  have kiX1 : ∀ w ∈ u_ws RX1 TX1 5, w ∈ wsX1_tellCount := (by decide +kernel)
  have kf46 : Cond.fieldLink RX1 46 "YarnMill$Line" "size" "I" ∈ wsX1_tellCount := (by decide +kernel)
  have hl : lv_has ls 3 [(0, .ref (ad 1)), (1, .int p0), (2, .int p1)] := hl
  have fr : ∀ j, (j < 1 ∨ 15 < j) → g j = g j := fun j _ => rfl
  obtain ⟨hm, hr, A, B, fm, f1, f2, hfm, f3, hM, hrel, hrr, hok⟩ := hR
  have f1 : g 1 = .inr (1, [.int (nI nm), .int (nI fa), .int (nI fb), .ref (ad 2), .ref (ad 3)]) := f1
  have hrel : ∀ j, j < nm → ∀ i, i < 5 → hm j i = mc j i := hrel
  have hrr : ∀ j, j < nm → ∀ r, r < mc j 4 → hr j r = rd j r := hrr
  have h6 : nm ≤ 6 := hok.1
  have hfa : 1 ≤ fa ∧ fa ≤ 10000 := hok.2.1
  have hfb : 1 ≤ fb ∧ fb ≤ 10000 := hok.2.2.1
  have hmk : ∀ j, j < nm → mcOk (mc j) ∧ ∀ r, r < mc j 4 → 1 ≤ rd j r ∧ rd j r ≤ 1000 := hok.2.2.2
  refine lv_iload_n hx hb dX1_tellCount_0 rfl (lv_at hl 1 rfl) ?_
  refine lv_i2l hx hb dX1_tellCount_1 rfl ?_
  refine lv_lconst (v := lN 0) hx hb dX1_tellCount_2 (by decide) ?_
  refine lv_aload_n hx hb dX1_tellCount_3 rfl (lv_at hl 0 rfl) ?_
  refine rp_get C0 FX hH 1 (by decide) (ci := 1) (k := 0) f1 rfl kiX1 (by decide) kf46 rfl dX1_tellCount_4 ?_
  refine ni_i2l hx hb (by omega) dX1_tellCount_7 ?_
  refine rc_Ni (rest := []) C0 FX hH (k_X5_within_rng l X ad hi _ p0 0 nm (by omega) (by omega)) ⟨va_cnB 3 C0.2.2.2.2 gX1_tellCount_X5_within_n34 rfl rfl rfl (FX.1.2 (RX1, 34, yX5_within) (by decide +kernel)) (C0.2.2.2.2 (.initialized RX5) (by decide +kernel)) (by decide +kernel) ⟨Nat.le_of_ble_eq_true rfl, Nat.le_of_ble_eq_true rfl⟩, C0.2.2.2.2 (.static yX5_within) (by decide +kernel), trivial⟩ rfl rfl hl.1 (Nat.le_of_ble_eq_true rfl) dX1_tellCount_8 ⟨Nat.le_of_ble_eq_true rfl, Nat.le_of_ble_eq_true rfl⟩ (fun r8 g8c H locs h8 hH => ?_)
  obtain ⟨e8, rfl⟩ := h8
  rw [e8] at hH
  refine rb_eq hx hb 24 dX1_tellCount_11 (by decide) (fun c11 => ?_) (fun c11 => ?_)
  · refine lv_ldc2 hx hb C0.2.2.2.1 kl70 dX1_tellCount_24 ?_
    refine RET _ _ _ _ _ _ dX1_tellCount_27 ?_ hH
    refine ⟨?_, ⟨hm, hr, _, _, fm, f1, f2, hfm, f3, hM, hrel, hrr, hok⟩, fr⟩
    unfold sp_countAt
    rw [if_neg (fun z => by first | exact absurd z.1 (by assumption) | exact absurd z.2 (by assumption))]
  · obtain ⟨kv, rfl, kv1, kv2, kv3⟩ := rng_nI c11
    refine lv_iload_n hx hb dX1_tellCount_14 rfl (lv_at hl 2 rfl) ?_
    refine lv_i2l hx hb dX1_tellCount_15 rfl ?_
    refine lv_lconst (v := lN 0) hx hb dX1_tellCount_16 (by decide) ?_
    refine lv_lconst (v := lN 1) hx hb dX1_tellCount_17 (by decide) ?_
    refine rc_Ni (rest := []) C0 FX hH (k_X5_within_rng l X ad hi _ p1 0 1 (by omega) (by omega)) ⟨va_cnB 3 C0.2.2.2.2 gX1_tellCount_X5_within_n34 rfl rfl rfl (FX.1.2 (RX1, 34, yX5_within) (by decide +kernel)) (C0.2.2.2.2 (.initialized RX5) (by decide +kernel)) (by decide +kernel) ⟨Nat.le_of_ble_eq_true rfl, Nat.le_of_ble_eq_true rfl⟩, C0.2.2.2.2 (.static yX5_within) (by decide +kernel), trivial⟩ rfl rfl hl.1 (Nat.le_of_ble_eq_true rfl) dX1_tellCount_18 ⟨Nat.le_of_ble_eq_true rfl, Nat.le_of_ble_eq_true rfl⟩ (fun r18 g18c H locs h18 hH => ?_)
    obtain ⟨e18, rfl⟩ := h18
    rw [e18] at hH
    refine rb_ne hx hb 28 dX1_tellCount_21 (by decide) (fun c21 => ?_) (fun c21 => ?_)
    · obtain ⟨wv, rfl, wv1, wv2, wv3⟩ := rng_nI c21
      refine lv_aload_n hx hb dX1_tellCount_28 rfl (lv_at hl 0 rfl) ?_
      refine lv_iload_n hx hb dX1_tellCount_29 rfl (lv_at hl 1 rfl) ?_
      refine rc_Vi (rest := []) C0 FX hH 1 (by decide) f1 rfl (k_X1_reckonCount l X ad hi _ nm fa fb mc rd ⟨hm, hr, _, _, fm, f1, f2, hfm, f3, hM, hrel, hrr, hok⟩ kv (by omega)) (cwV 1 C0.2.2.2.2 gX1_tellCount_X1_reckonCount rfl rfl rfl (by decide +kernel) ⟨Nat.le_of_ble_eq_true rfl, Nat.le_of_ble_eq_true rfl⟩) rfl rfl hl.1 (Nat.le_of_ble_eq_true rfl) dX1_tellCount_30 ⟨Nat.le_of_ble_eq_true rfl, Nat.le_of_ble_eq_true rfl⟩ (fun r30 g30c H locs h30 hH => ?_)
      obtain ⟨⟨A9, B9, e30, i30⟩, n30, rfl⟩ := h30
      have f3 : g30c 3 = .inr (0, [.long (lN A9), .long (lN B9)]) := e30
      have f1 : g30c 1 = .inr (1, [.int (nI nm), .int (nI fa), .int (nI fb), .ref (ad 2), .ref (ad 3)]) := (n30 _ (by omega)).trans f1
      have f2 : g30c 2 = orr X.2.2.1 6 fm := (n30 _ (by omega)).trans f2
      have hM : mFam X ad hm hr g30c := mFam.same hM (fun r h1 h2 => n30 r (by omega))
      have fr : ∀ j, (j < 1 ∨ 15 < j) → g30c j = g j := fun j a0 => (n30 j (by omega)).trans (fr j a0)
      refine rb_eq hx hb 44 dX1_tellCount_33 (by decide) (fun c33 => ?_) (fun c33 => ?_)
      · refine lv_ldc2 hx hb C0.2.2.2.1 kl80 dX1_tellCount_44 ?_
        refine RET _ _ _ _ _ _ dX1_tellCount_47 ?_ hH
        refine ⟨?_, ⟨hm, hr, _, _, fm, f1, f2, hfm, f3, hM, hrel, hrr, hok⟩, fr⟩
        unfold sp_countAt sp_countOf
        rw [if_pos (show rng (nI kv) 0 nm ∧ rng (nI wv) 0 1 from ⟨(rng_iff (by omega)).mpr (by omega), (rng_iff (by omega)).mpr (by omega)⟩), tN_nI (by omega), if_neg c33]
      · refine lv_aload_n hx hb dX1_tellCount_36 rfl (lv_at hl 0 rfl) ?_
        refine lv_iload_n hx hb dX1_tellCount_37 rfl (lv_at hl 2 rfl) ?_
        refine rc_Vl (rest := []) C0 FX hH 1 (by decide) f1 rfl (k_X1_toldPart l X ad hi _ nm fa fb A9 B9 f1 f3 (nI wv)) (cwV 1 C0.2.2.2.2 gX1_tellCount_X1_toldPart rfl rfl rfl (by decide +kernel) ⟨Nat.le_of_ble_eq_true rfl, Nat.le_of_ble_eq_true rfl⟩) rfl rfl hl.1 (Nat.le_of_ble_eq_true rfl) dX1_tellCount_38 ⟨Nat.le_of_ble_eq_true rfl, Nat.le_of_ble_eq_true rfl⟩ (fun r38 g38c H locs h38 hH => ?_)
        obtain ⟨e38, rfl⟩ := h38
        rw [e38] at hH
        refine lv_goto (tgt := 47) hx hb dX1_tellCount_41 (by decide) ?_
        refine RET _ _ _ _ _ _ dX1_tellCount_47 ?_ hH
        refine ⟨?_, ⟨hm, hr, _, _, fm, f1, f2, hfm, f3, hM, hrel, hrr, hok⟩, fr⟩
        unfold sp_countAt sp_countOf
        rw [if_pos (show rng (nI kv) 0 nm ∧ rng (nI wv) 0 1 from ⟨(rng_iff (by omega)).mpr (by omega), (rng_iff (by omega)).mpr (by omega)⟩), tN_nI (by omega), if_pos c33, ← i30 c33]
    · refine lv_ldc2 hx hb C0.2.2.2.1 kl70 dX1_tellCount_24 ?_
      refine RET _ _ _ _ _ _ dX1_tellCount_27 ?_ hH
      refine ⟨?_, ⟨hm, hr, _, _, fm, f1, f2, hfm, f3, hM, hrel, hrr, hok⟩, fr⟩
      unfold sp_countAt
      rw [if_neg (fun z => by first | exact absurd z.1 (by assumption) | exact absurd z.2 (by assumption))]
set_option maxHeartbeats 4000000 in
set_option maxRecDepth 100000 in
theorem k_X1_reckonPeriod (l : Launch) (X : Cx) (ad : Nat → Nat) (hi : inj 48 ad) (g : PF) (nm fa fb : Nat) (mc rd : Nat → Nat → Nat) (hR : rLine X ad (nm, fa, fb, mc, rd) g) (mv rv : Nat) (hmv : mv < nm) (hrv : rv < mc mv 4) : Kv l yX1_reckonPeriod wsX1_reckonPeriod zr4 X 48 ad g [.ref (ad 1), .int (nI mv), .int (nI rv)] (fun g' => g' 3 = .inr (0, [.long (lN (per (nm, fa, fb, mc, rd) mv rv).1), .long (lN (per (nm, fa, fb, mc, rd) mv rv).2)]) ∧ fr1 3 g g') := by
  refine Kv.of (cc := cX1_reckonPeriod) (maxL := 4) hi (by decide) rfl (Nat.le_of_ble_eq_true rfl) ?_
  intro p e s m below meth c Q E RET ls hl
  obtain ⟨C0, FX, hH⟩ := E
  have hx := C0.1
  have hb := C0.2.1
  have kiX1 : ∀ w ∈ u_ws RX1 TX1 5, w ∈ wsX1_reckonPeriod := (by decide +kernel)
  have kiX2 : ∀ w ∈ u_ws RX2 TX2 6, w ∈ wsX1_reckonPeriod := (by decide +kernel)
  have kf20 : Cond.fieldLink RX1 20 "YarnMill$Line" "machines" "[LYarnMill$Machine;" ∈ wsX1_reckonPeriod := (by decide +kernel)
  have kf27 : Cond.fieldLink RX1 27 "YarnMill$Line" "told" "LYarnMill$Fraction;" ∈ wsX1_reckonPeriod := (by decide +kernel)
  have kf46 : Cond.fieldLink RX1 46 "YarnMill$Line" "size" "I" ∈ wsX1_reckonPeriod := (by decide +kernel)
  have kf52 : Cond.fieldLink RX1 52 "YarnMill$Machine" "above" "I" ∈ wsX1_reckonPeriod := (by decide +kernel)
  have kf55 : Cond.fieldLink RX1 55 "YarnMill$Machine" "below" "I" ∈ wsX1_reckonPeriod := (by decide +kernel)
  have kf66 : Cond.fieldLink RX1 66 "YarnMill$Machine" "rounds" "[I" ∈ wsX1_reckonPeriod := (by decide +kernel)
  have hl : lv_has ls 4 [(0, .ref (ad 1)), (1, .int (nI mv)), (2, .int (nI rv))] := hl
  have fr : ∀ j, j ≠ 3 → g j = g j := fun j _ => rfl
  obtain ⟨hm, hr, A, B, fm, f1, f2, hfm, f3, hM, hrel, hrr, hok⟩ := hR
  have f1 : g 1 = .inr (1, [.int (nI nm), .int (nI fa), .int (nI fb), .ref (ad 2), .ref (ad 3)]) := f1
  have hrel : ∀ j, j < nm → ∀ i, i < 5 → hm j i = mc j i := hrel
  have hrr : ∀ j, j < nm → ∀ r, r < mc j 4 → hr j r = rd j r := hrr
  have h6 : nm ≤ 6 := hok.1
  have hfa : 1 ≤ fa ∧ fa ≤ 10000 := hok.2.1
  have hfb : 1 ≤ fb ∧ fb ≤ 10000 := hok.2.2.1
  have hmk : ∀ j, j < nm → mcOk (mc j) ∧ ∀ r, r < mc j 4 → 1 ≤ rd j r ∧ rd j r ≤ 1000 := hok.2.2.2
  refine lv_aload_n hx hb dX1_reckonPeriod_0 rfl (lv_at hl 0 rfl) ?_
  refine rp_get C0 FX hH 1 (by decide) (ci := 1) (k := 4) f1 rfl kiX1 (by decide) kf27 rfl dX1_reckonPeriod_1 ?_
  refine lv_aload_n hx hb dX1_reckonPeriod_4 rfl (lv_at hl 0 rfl) ?_
  refine rp_get C0 FX hH 1 (by decide) (ci := 1) (k := 3) f1 rfl kiX1 (by decide) kf20 rfl dX1_reckonPeriod_5 ?_
  refine lv_iload_n hx hb dX1_reckonPeriod_8 rfl (lv_at hl 1 rfl) ?_
  refine rp_aald C0 FX hH 2 1 (by decide) f2 rfl mv (ad (4 + 2 * mv)) (by omega) (by decide) (hfm _ (by omega)) dX1_reckonPeriod_9 ?_
  have ymo10 : g (4 + 2 * mv) = .inr (2, [.int (nI (mc mv 0)), .int (nI (mc mv 1)), .int (nI (mc mv 2)), .int (nI (mc mv 3)), .int (nI (mc mv 4)), .ref (ad (5 + 2 * mv))]) := mFam_at hM h6 hrel _ (by omega)
  have ho10 := (hmk mv (by omega)).1
  obtain ⟨⟨p10a, p10b⟩, ⟨p10c, p10d⟩, ⟨p10e, p10f⟩, p10g, p10h⟩ := id ho10
  refine rp_get C0 FX hH (4 + 2 * mv) (by omega) (ci := 2) (k := 5) ymo10 rfl kiX2 (by decide) kf66 rfl dX1_reckonPeriod_10 ?_
  refine lv_iload_n hx hb dX1_reckonPeriod_13 rfl (lv_at hl 2 rfl) ?_
  have ymr14 : g (5 + 2 * mv) = arr X 3 (hr mv) := (hM _ (by omega)).2
  refine rp_iald C0 FX hH (5 + 2 * mv) (by omega) (v := rd mv rv) ymr14 rv (by omega) (by decide) (hrr mv (by omega) _ (by omega)) dX1_reckonPeriod_14 ?_
  refine ni_i2l hx hb (by have := (hmk mv hmv).2 rv hrv; omega) dX1_reckonPeriod_15 ?_
  refine lv_lconst (v := lN 1) hx hb dX1_reckonPeriod_16 (by decide) ?_
  have hrd := (hmk mv hmv).2 rv hrv
  refine rc_Vv (rest := []) C0 FX hH 3 (by decide) f3 rfl (k_X0_set l X ad hi _ 3 (by decide) A B f3 (rd mv rv) 1 (by omega) (by omega) (by omega) (by omega)) (cwV 2 C0.2.2.2.2 gX1_reckonPeriod_X0_set rfl rfl rfl (by decide +kernel) ⟨Nat.le_of_ble_eq_true rfl, Nat.le_of_ble_eq_true rfl⟩) rfl rfl hl.1 (Nat.le_of_ble_eq_true rfl) dX1_reckonPeriod_17 ⟨Nat.le_of_ble_eq_true rfl, Nat.le_of_ble_eq_true rfl⟩ (fun g17c H locs h17 hH => ?_)
  obtain ⟨eq1, nq1⟩ := h17
  have f3 : g17c 3 = .inr (0, [.long (lN ((lt2 (rd mv rv) 1).1)), .long (lN ((lt2 (rd mv rv) 1).2))]) := eq1
  have f1 : g17c 1 = .inr (1, [.int (nI nm), .int (nI fa), .int (nI fb), .ref (ad 2), .ref (ad 3)]) := (nq1 _ (by omega)).trans f1
  have f2 : g17c 2 = orr X.2.2.1 6 fm := (nq1 _ (by omega)).trans f2
  have hM : mFam X ad hm hr g17c := mFam.same hM (fun r h1 h2 => nq1 r (by omega))
  have ymo10 : g17c (4 + 2 * mv) = .inr (2, [.int (nI (mc mv 0)), .int (nI (mc mv 1)), .int (nI (mc mv 2)), .int (nI (mc mv 3)), .int (nI (mc mv 4)), .ref (ad (5 + 2 * mv))]) := (nq1 _ (by omega)).trans ymo10
  have ymr14 : g17c (5 + 2 * mv) = arr X 3 (hr mv) := (nq1 _ (by omega)).trans ymr14
  have fr : ∀ j, j ≠ 3 → g17c j = g j := fun j a0 => (nq1 j (by omega)).trans (fr j a0)
  refine lv_iload_n hx hb dX1_reckonPeriod_20 rfl (lv_at hl 1 rfl) ?_
  refine lv_iconst (v := nI 1) hx hb dX1_reckonPeriod_21 (by decide) ?_
  refine ni_iadd hx hb dX1_reckonPeriod_22 ?_
  refine lv_istore_n (lv' := [(3, .int (nI (mv + 1))), (0, .ref (ad 1)), (1, .int (nI mv)), (2, .int (nI rv))]) hx hb dX1_reckonPeriod_23 rfl hl (by decide) rfl (fun ls hl => ?_)
  have L24 : ∀ (fu : Nat) (k9 : Nat) (g2 : PF) (H : Heap) (locs : List Loc) (ls : Array Slot), (mv + 1 ≤ k9) → (k9 ≤ nm) → nm - k9 < fu → WH X 48 ad (pA 48 ad s.heap.size) s g2 H locs → g2 1 = .inr (1, [.int (nI nm), .int (nI fa), .int (nI fb), .ref (ad 2), .ref (ad 3)]) → g2 2 = orr X.2.2.1 6 fm → g2 3 = .inr (0, [.long (lN ((prd (nm, fa, fb, mc, rd) mv rv (k9 - (mv + 1))).1)), .long (lN ((prd (nm, fa, fb, mc, rd) mv rv (k9 - (mv + 1))).2))]) → mFam X ad hm hr g2 → (∀ j, j ≠ 3 → g2 j = g j) → lv_has ls 4 [(3, .int (nI k9)), (0, .ref (ad 1)), (1, .int (nI mv)), (2, .int (nI rv))] → W p l e zr4 s m ([.ref (ad 1), .int (nI mv), .int (nI rv)] : List Value).toArray below meth c H locs 0 0 Q (F0 m 24 ls []) := by
    intro fu
    induction fu with
    | zero =>
      intro k9 g2 H locs ls j1 j2 hm
      exact absurd hm (Nat.not_lt_zero _)
    | succ fu ih =>
      have ih24 := ih; clear ih
      intro k9 g2 H locs ls j1 j2 hm24 hH f1 f2 f3 hM fr hl
      refine lv_iload_n hx hb dX1_reckonPeriod_24 rfl (lv_at hl 0 rfl) ?_
      refine lv_aload_n hx hb dX1_reckonPeriod_25 rfl (lv_at hl 1 rfl) ?_
      refine rp_get C0 FX hH 1 (by decide) (ci := 1) (k := 0) f1 rfl kiX1 (by decide) kf46 rfl dX1_reckonPeriod_26 ?_
      refine ni_cge hx hb 65 dX1_reckonPeriod_29 (by decide) (by omega) (by omega) (fun c29 => ?_) (fun c29 => ?_)
      · refine RET _ _ _ _ _ dX1_reckonPeriod_65 ?_ hH
        have hk9 : k9 = nm := by omega
        subst hk9
        exact ⟨f3, fr⟩
      · refine lv_aload_n hx hb dX1_reckonPeriod_32 rfl (lv_at hl 1 rfl) ?_
        refine rp_get C0 FX hH 1 (by decide) (ci := 1) (k := 4) f1 rfl kiX1 (by decide) kf27 rfl dX1_reckonPeriod_33 ?_
        refine lv_aload_n hx hb dX1_reckonPeriod_36 rfl (lv_at hl 1 rfl) ?_
        refine rp_get C0 FX hH 1 (by decide) (ci := 1) (k := 3) f1 rfl kiX1 (by decide) kf20 rfl dX1_reckonPeriod_37 ?_
        refine lv_iload_n hx hb dX1_reckonPeriod_40 rfl (lv_at hl 0 rfl) ?_
        refine rp_aald C0 FX hH 2 1 (by decide) f2 rfl k9 (ad (4 + 2 * k9)) (by omega) (by decide) (hfm _ (by omega)) dX1_reckonPeriod_41 ?_
        have ymo42 : g2 (4 + 2 * k9) = .inr (2, [.int (nI (mc k9 0)), .int (nI (mc k9 1)), .int (nI (mc k9 2)), .int (nI (mc k9 3)), .int (nI (mc k9 4)), .ref (ad (5 + 2 * k9))]) := mFam_at hM h6 hrel _ (by omega)
        have ho42 := (hmk k9 (by omega)).1
        obtain ⟨⟨p42a, p42b⟩, ⟨p42c, p42d⟩, ⟨p42e, p42f⟩, p42g, p42h⟩ := id ho42
        refine rp_get C0 FX hH (4 + 2 * k9) (by omega) (ci := 2) (k := 1) ymo42 rfl kiX2 (by decide) kf52 rfl dX1_reckonPeriod_42 ?_
        refine ni_i2l hx hb (by omega) dX1_reckonPeriod_45 ?_
        refine lv_aload_n hx hb dX1_reckonPeriod_46 rfl (lv_at hl 1 rfl) ?_
        refine rp_get C0 FX hH 1 (by decide) (ci := 1) (k := 3) f1 rfl kiX1 (by decide) kf20 rfl dX1_reckonPeriod_47 ?_
        refine lv_iload_n hx hb dX1_reckonPeriod_50 rfl (lv_at hl 0 rfl) ?_
        refine rp_aald C0 FX hH 2 1 (by decide) f2 rfl k9 (ad (4 + 2 * k9)) (by omega) (by decide) (hfm _ (by omega)) dX1_reckonPeriod_51 ?_
        refine rp_get C0 FX hH (4 + 2 * k9) (by omega) (ci := 2) (k := 2) ymo42 rfl kiX2 (by decide) kf55 rfl dX1_reckonPeriod_52 ?_
        refine ni_i2l hx hb (by omega) dX1_reckonPeriod_55 ?_
        have hpl := prd_le hok (m := mv) (r := rv) hmv hrv (i := k9 - (mv + 1)) (by show _ ≤ nm; omega)
        refine rc_Vv (rest := []) C0 FX hH 3 (by decide) f3 rfl (k_X0_times l X ad hi _ 3 (by decide) ((prd (nm, fa, fb, mc, rd) mv rv (k9 - (mv + 1))).1) ((prd (nm, fa, fb, mc, rd) mv rv (k9 - (mv + 1))).2) f3 (mc k9 1) (mc k9 2) (Nat.mul_pos hpl.1.1 (by omega)) (Nat.mul_pos hpl.2.1 (by omega)) (by have h1 := Nat.mul_le_mul hpl.1.2 (show mc k9 1 ≤ 60 by omega); omega) (by have h1 := Nat.mul_le_mul hpl.2.2 (show mc k9 2 ≤ 20 by omega); omega)) (cwV 2 C0.2.2.2.2 gX1_reckonPeriod_X0_times rfl rfl rfl (by decide +kernel) ⟨Nat.le_of_ble_eq_true rfl, Nat.le_of_ble_eq_true rfl⟩) rfl rfl hl.1 (Nat.le_of_ble_eq_true rfl) dX1_reckonPeriod_56 ⟨Nat.le_of_ble_eq_true rfl, Nat.le_of_ble_eq_true rfl⟩ (fun g56c H locs h56 hH => ?_)
        obtain ⟨eq3, nq3⟩ := h56
        have f3 : g56c 3 = .inr (0, [.long (lN ((lt2 (((prd (nm, fa, fb, mc, rd) mv rv (k9 - (mv + 1))).1) * (mc k9 1)) (((prd (nm, fa, fb, mc, rd) mv rv (k9 - (mv + 1))).2) * (mc k9 2))).1)), .long (lN ((lt2 (((prd (nm, fa, fb, mc, rd) mv rv (k9 - (mv + 1))).1) * (mc k9 1)) (((prd (nm, fa, fb, mc, rd) mv rv (k9 - (mv + 1))).2) * (mc k9 2))).2))]) := eq3
        have f1 : g56c 1 = .inr (1, [.int (nI nm), .int (nI fa), .int (nI fb), .ref (ad 2), .ref (ad 3)]) := (nq3 _ (by omega)).trans f1
        have f2 : g56c 2 = orr X.2.2.1 6 fm := (nq3 _ (by omega)).trans f2
        have hM : mFam X ad hm hr g56c := mFam.same hM (fun r h1 h2 => nq3 r (by omega))
        have ymo42 : g56c (4 + 2 * k9) = .inr (2, [.int (nI (mc k9 0)), .int (nI (mc k9 1)), .int (nI (mc k9 2)), .int (nI (mc k9 3)), .int (nI (mc k9 4)), .ref (ad (5 + 2 * k9))]) := (nq3 _ (by omega)).trans ymo42
        have fr : ∀ j, j ≠ 3 → g56c j = g j := fun j a0 => (nq3 j (by omega)).trans (fr j a0)
        refine lv_iinc (v := nI (k9 + 1)) (lv' := [(3, .int (nI (k9 + 1))), (0, .ref (ad 1)), (1, .int (nI mv)), (2, .int (nI rv))]) hx hb dX1_reckonPeriod_59 hl (k := 0) rfl (ni_inc1 _) (by decide) rfl (fun ls hl => ?_)
        refine lv_goto (tgt := 24) hx hb dX1_reckonPeriod_62 (by decide) ?_
        exact ih24 (k9 + 1) _ _ _ ls (by omega) (by omega) (by omega) hH f1 f2 (by rw [show k9 + 1 - (mv + 1) = (k9 - (mv + 1)) + 1 by omega]; show _ = Sum.inr (0, [Value.long (lN (lt2 ((prd (nm, fa, fb, mc, rd) mv rv (k9 - (mv + 1))).1 * mc (mv + 1 + (k9 - (mv + 1))) 1) ((prd (nm, fa, fb, mc, rd) mv rv (k9 - (mv + 1))).2 * mc (mv + 1 + (k9 - (mv + 1))) 2)).1), Value.long (lN (lt2 ((prd (nm, fa, fb, mc, rd) mv rv (k9 - (mv + 1))).1 * mc (mv + 1 + (k9 - (mv + 1))) 1) ((prd (nm, fa, fb, mc, rd) mv rv (k9 - (mv + 1))).2 * mc (mv + 1 + (k9 - (mv + 1))) 2)).2)]); rw [show mv + 1 + (k9 - (mv + 1)) = k9 by omega]; exact f3) hM fr (lv_sub hl [0, 1, 2, 3] rfl)
  exact L24 ((nm - (mv + 1)) + 1) (mv + 1) _ _ _ ls (by omega) (by omega) (Nat.lt_succ_self _) hH f1 f2 (by rw [Nat.sub_self]; rw [lt2_one (Nat.gcd_one_right _)] at f3; exact f3) hM fr (lv_sub hl [0, 1, 2, 3] rfl)
set_option maxHeartbeats 4000000 in
set_option maxRecDepth 100000 in
theorem k_X1_isNear (l : Launch) (X : Cx) (ad : Nat → Nat) (hi : inj 48 ad) (g : PF) (nm fa fb : Nat) (mc rd : Nat → Nat → Nat) (hR : rLine X ad (nm, fa, fb, mc, rd) g) (mv rv pv tv : Nat) (hmv : mv < nm) (hrv : rv < mc mv 4) (hpv : pv ≤ 1000000) (htv : tv ≤ 999) : Ki l yX1_isNear wsX1_isNear zr5 X 48 ad g [.ref (ad 1), .int (nI mv), .int (nI rv), .int (nI pv), .int (nI tv)] (fun r g' => r = bI (near (nm, fa, fb, mc, rd) pv tv mv rv) ∧ (∃ A B : Nat, g' 3 = .inr (0, [.long (lN A), .long (lN B)])) ∧ fr1 3 g g') := by
  refine Ki.of (cc := cX1_isNear) (maxL := 7) hi (by decide) rfl (Nat.le_of_ble_eq_true rfl) ?_
  intro p e s m below meth c Q E RET ls hl
  obtain ⟨C0, FX, hH⟩ := E
  have hx := C0.1
  have hb := C0.2.1
  have kl64 := C0.2.2.2.2 (.constantLong RX1 64 (lN 1000)) (by decide +kernel)
  have kiX0 : ∀ w ∈ u_ws RX0 TX0 2, w ∈ wsX1_isNear := (by decide +kernel)
  have kiX1 : ∀ w ∈ u_ws RX1 TX1 5, w ∈ wsX1_isNear := (by decide +kernel)
  have kf27 : Cond.fieldLink RX1 27 "YarnMill$Line" "told" "LYarnMill$Fraction;" ∈ wsX1_isNear := (by decide +kernel)
  have kf94 : Cond.fieldLink RX1 94 "YarnMill$Fraction" "above" "J" ∈ wsX1_isNear := (by decide +kernel)
  have kf97 : Cond.fieldLink RX1 97 "YarnMill$Fraction" "below" "J" ∈ wsX1_isNear := (by decide +kernel)
  have hl : lv_has ls 7 [(0, .ref (ad 1)), (1, .int (nI mv)), (2, .int (nI rv)), (3, .int (nI pv)), (4, .int (nI tv))] := hl
  have fr : ∀ j, j ≠ 3 → g j = g j := fun j _ => rfl
  obtain ⟨hm, hr, A, B, fm, f1, f2, hfm, f3, hM, hrel, hrr, hok⟩ := hR
  have f1 : g 1 = .inr (1, [.int (nI nm), .int (nI fa), .int (nI fb), .ref (ad 2), .ref (ad 3)]) := f1
  have hrel : ∀ j, j < nm → ∀ i, i < 5 → hm j i = mc j i := hrel
  have hrr : ∀ j, j < nm → ∀ r, r < mc j 4 → hr j r = rd j r := hrr
  have h6 : nm ≤ 6 := hok.1
  have hfa : 1 ≤ fa ∧ fa ≤ 10000 := hok.2.1
  have hfb : 1 ≤ fb ∧ fb ≤ 10000 := hok.2.2.1
  have hmk : ∀ j, j < nm → mcOk (mc j) ∧ ∀ r, r < mc j 4 → 1 ≤ rd j r ∧ rd j r ≤ 1000 := hok.2.2.2
  refine lv_aload_n hx hb dX1_isNear_0 rfl (lv_at hl 0 rfl) ?_
  refine lv_iload_n hx hb dX1_isNear_1 rfl (lv_at hl 1 rfl) ?_
  refine lv_iload_n hx hb dX1_isNear_2 rfl (lv_at hl 2 rfl) ?_
  refine rc_Vv (rest := []) C0 FX hH 1 (by decide) f1 rfl (k_X1_reckonPeriod l X ad hi _ nm fa fb mc rd ⟨hm, hr, _, _, fm, f1, f2, hfm, f3, hM, hrel, hrr, hok⟩ mv rv (by omega) (by omega)) (cwV 2 C0.2.2.2.2 gX1_isNear_X1_reckonPeriod rfl rfl rfl (by decide +kernel) ⟨Nat.le_of_ble_eq_true rfl, Nat.le_of_ble_eq_true rfl⟩) rfl rfl hl.1 (Nat.le_of_ble_eq_true rfl) dX1_isNear_3 ⟨Nat.le_of_ble_eq_true rfl, Nat.le_of_ble_eq_true rfl⟩ (fun g3c H locs h3 hH => ?_)
  obtain ⟨e3, n3⟩ := h3
  have f3 : g3c 3 = .inr (0, [.long (lN ((per (nm, fa, fb, mc, rd) mv rv).1)), .long (lN ((per (nm, fa, fb, mc, rd) mv rv).2))]) := e3
  have f1 : g3c 1 = .inr (1, [.int (nI nm), .int (nI fa), .int (nI fb), .ref (ad 2), .ref (ad 3)]) := (n3 _ (by omega)).trans f1
  have f2 : g3c 2 = orr X.2.2.1 6 fm := (n3 _ (by omega)).trans f2
  have hM : mFam X ad hm hr g3c := mFam.same hM (fun r h1 h2 => n3 r (by omega))
  have fr : ∀ j, j ≠ 3 → g3c j = g j := fun j a0 => (n3 j (by omega)).trans (fr j a0)
  have hpe := prd_le hok (m := mv) (r := rv) hmv hrv (i := nm - (mv + 1)) (by show mv + 1 + (nm - (mv + 1)) ≤ nm; omega)
  have hpe : (0 < (per (nm, fa, fb, mc, rd) mv rv).1 ∧ (per (nm, fa, fb, mc, rd) mv rv).1 ≤ 777600000000) ∧ (0 < (per (nm, fa, fb, mc, rd) mv rv).2 ∧ (per (nm, fa, fb, mc, rd) mv rv).2 ≤ 3200000) := hpe
  have hBp := Nat.mul_le_mul hpe.2.2 hpv
  have hlo := Nat.mul_le_mul hBp (show 1000 - tv ≤ 1000 by omega)
  have hhi := Nat.mul_le_mul hBp (show 1000 + tv ≤ 1999 by omega)
  refine lv_aload_n hx hb dX1_isNear_6 rfl (lv_at hl 0 rfl) ?_
  refine rp_get C0 FX hH 1 (by decide) (ci := 1) (k := 4) f1 rfl kiX1 (by decide) kf27 rfl dX1_isNear_7 ?_
  refine rp_get C0 FX hH 3 (by decide) (ci := 0) (k := 1) f3 rfl kiX0 (by decide) kf97 rfl dX1_isNear_10 ?_
  refine lv_iload_n hx hb dX1_isNear_13 rfl (lv_at hl 3 rfl) ?_
  refine ni_i2l hx hb (by omega) dX1_isNear_14 ?_
  refine ni_lmul hx hb dX1_isNear_15 ?_
  refine lv_lstore (lv' := [(5, .long (lN (((per (nm, fa, fb, mc, rd) mv rv).2) * pv))), (0, .ref (ad 1)), (1, .int (nI mv)), (2, .int (nI rv)), (3, .int (nI pv)), (4, .int (nI tv))]) hx hb dX1_isNear_16 hl (by decide) rfl (fun ls hl => ?_)
  refine lv_ldc2 hx hb C0.2.2.2.1 kl64 dX1_isNear_18 ?_
  refine lv_aload_n hx hb dX1_isNear_21 rfl (lv_at hl 1 rfl) ?_
  refine rp_get C0 FX hH 1 (by decide) (ci := 1) (k := 4) f1 rfl kiX1 (by decide) kf27 rfl dX1_isNear_22 ?_
  refine rp_get C0 FX hH 3 (by decide) (ci := 0) (k := 0) f3 rfl kiX0 (by decide) kf94 rfl dX1_isNear_25 ?_
  refine ni_lmul hx hb dX1_isNear_28 ?_
  refine lv_lload hx hb dX1_isNear_29 (lv_at hl 0 rfl) ?_
  refine lv_sipush (v := nI 1000) hx hb dX1_isNear_31 (by decide) ?_
  refine lv_iload hx hb dX1_isNear_34 (lv_at hl 5 rfl) ?_
  refine ni_isub hx hb (by omega) dX1_isNear_36 ?_
  refine ni_i2l hx hb (by omega) dX1_isNear_37 ?_
  refine ni_lmul hx hb dX1_isNear_38 ?_
  refine lv_lload hx hb dX1_isNear_39 (lv_at hl 0 rfl) ?_
  refine lv_sipush (v := nI 1000) hx hb dX1_isNear_41 (by decide) ?_
  refine lv_iload hx hb dX1_isNear_44 (lv_at hl 5 rfl) ?_
  refine ni_iadd hx hb dX1_isNear_46 ?_
  refine ni_i2l hx hb (by omega) dX1_isNear_47 ?_
  refine ni_lmul hx hb dX1_isNear_48 ?_
  refine rc_Ni (rest := []) C0 FX hH (k_X5_within_nat l X ad hi _ (1000 * ((per (nm, fa, fb, mc, rd) mv rv).1)) ((((per (nm, fa, fb, mc, rd) mv rv).2) * pv) * (1000 - tv)) ((((per (nm, fa, fb, mc, rd) mv rv).2) * pv) * (1000 + tv)) (by omega) (by omega) (by omega)) ⟨va_cnB 3 C0.2.2.2.2 gX1_isNear_X5_within_n34 rfl rfl rfl (FX.1.2 (RX1, 34, yX5_within) (by decide +kernel)) (C0.2.2.2.2 (.initialized RX5) (by decide +kernel)) (by decide +kernel) ⟨Nat.le_of_ble_eq_true rfl, Nat.le_of_ble_eq_true rfl⟩, C0.2.2.2.2 (.static yX5_within) (by decide +kernel), trivial⟩ rfl rfl hl.1 (Nat.le_of_ble_eq_true rfl) dX1_isNear_49 ⟨Nat.le_of_ble_eq_true rfl, Nat.le_of_ble_eq_true rfl⟩ (fun r49 g49c H locs h49 hH => ?_)
  obtain ⟨e49, rfl⟩ := h49
  rw [e49] at hH
  refine RET _ _ _ _ _ _ dX1_isNear_52 bI_nar ?_ hH
  exact ⟨rfl, ⟨_, _, f3⟩, fr⟩
set_option maxHeartbeats 4000000 in
set_option maxRecDepth 100000 in
theorem k_X1_tellPeriod (l : Launch) (X : Cx) (ad : Nat → Nat) (hi : inj 48 ad) (g : PF) (nm fa fb : Nat) (mc rd : Nat → Nat → Nat) (hR : rLine X ad (nm, fa, fb, mc, rd) g) (p0 p1 p2 : Int32) : Kl l yX1_tellPeriod wsX1_tellPeriod zr5 X 48 ad g [.ref (ad 1), .int p0, .int p1, .int p2] (fun r g' => r = sp_period p0 p1 p2 (nm, fa, fb, mc, rd) ∧ rLine X ad (nm, fa, fb, mc, rd) g' ∧ frL g g') := by
  refine Kl.of (cc := cX1_tellPeriod) (maxL := 4) hi (by decide) rfl (Nat.le_of_ble_eq_true rfl) ?_
  intro p e s m below meth c Q E RET ls hl
  obtain ⟨C0, FX, hH⟩ := E
  have hx := C0.1
  have hb := C0.2.1
  have kl70 := C0.2.2.2.2 (.constantLong RX1 70 (-2)) (by decide +kernel)
  have kiX1 : ∀ w ∈ u_ws RX1 TX1 5, w ∈ wsX1_tellPeriod := (by decide +kernel)
  have kiX2 : ∀ w ∈ u_ws RX2 TX2 6, w ∈ wsX1_tellPeriod := (by decide +kernel)
  have kf20 : Cond.fieldLink RX1 20 "YarnMill$Line" "machines" "[LYarnMill$Machine;" ∈ wsX1_tellPeriod := (by decide +kernel)
  have kf46 : Cond.fieldLink RX1 46 "YarnMill$Line" "size" "I" ∈ wsX1_tellPeriod := (by decide +kernel)
  have kf61 : Cond.fieldLink RX1 61 "YarnMill$Machine" "rollers" "I" ∈ wsX1_tellPeriod := (by decide +kernel)
  have hl : lv_has ls 4 [(0, .ref (ad 1)), (1, .int p0), (2, .int p1), (3, .int p2)] := hl
  have fr : ∀ j, (j < 1 ∨ 15 < j) → g j = g j := fun j _ => rfl
  obtain ⟨hm, hr, A, B, fm, f1, f2, hfm, f3, hM, hrel, hrr, hok⟩ := hR
  have f1 : g 1 = .inr (1, [.int (nI nm), .int (nI fa), .int (nI fb), .ref (ad 2), .ref (ad 3)]) := f1
  have hrel : ∀ j, j < nm → ∀ i, i < 5 → hm j i = mc j i := hrel
  have hrr : ∀ j, j < nm → ∀ r, r < mc j 4 → hr j r = rd j r := hrr
  have h6 : nm ≤ 6 := hok.1
  have hfa : 1 ≤ fa ∧ fa ≤ 10000 := hok.2.1
  have hfb : 1 ≤ fb ∧ fb ≤ 10000 := hok.2.2.1
  have hmk : ∀ j, j < nm → mcOk (mc j) ∧ ∀ r, r < mc j 4 → 1 ≤ rd j r ∧ rd j r ≤ 1000 := hok.2.2.2
  refine lv_iload_n hx hb dX1_tellPeriod_0 rfl (lv_at hl 1 rfl) ?_
  refine lv_i2l hx hb dX1_tellPeriod_1 rfl ?_
  refine lv_lconst (v := lN 0) hx hb dX1_tellPeriod_2 (by decide) ?_
  refine lv_aload_n hx hb dX1_tellPeriod_3 rfl (lv_at hl 0 rfl) ?_
  refine rp_get C0 FX hH 1 (by decide) (ci := 1) (k := 0) f1 rfl kiX1 (by decide) kf46 rfl dX1_tellPeriod_4 ?_
  refine lv_iconst (v := nI 1) hx hb dX1_tellPeriod_7 (by decide) ?_
  refine lv_isub hx hb dX1_tellPeriod_8 ?_
  refine lv_i2l hx hb dX1_tellPeriod_9 rfl ?_
  refine rc_Ni (rest := []) C0 FX hH (k_X5_within_rngS l X ad hi _ p0 nm (by omega)) ⟨va_cnB 3 C0.2.2.2.2 gX1_tellPeriod_X5_within_n34 rfl rfl rfl (FX.1.2 (RX1, 34, yX5_within) (by decide +kernel)) (C0.2.2.2.2 (.initialized RX5) (by decide +kernel)) (by decide +kernel) ⟨Nat.le_of_ble_eq_true rfl, Nat.le_of_ble_eq_true rfl⟩, C0.2.2.2.2 (.static yX5_within) (by decide +kernel), trivial⟩ rfl rfl hl.1 (Nat.le_of_ble_eq_true rfl) dX1_tellPeriod_10 ⟨Nat.le_of_ble_eq_true rfl, Nat.le_of_ble_eq_true rfl⟩ (fun r10 g10c H locs h10 hH => ?_)
  obtain ⟨e10, rfl⟩ := h10
  rw [e10] at hH
  refine rb_eq hx hb 47 dX1_tellPeriod_13 (by decide) (fun c13 => ?_) (fun c13 => ?_)
  · refine lv_ldc2 hx hb C0.2.2.2.1 kl70 dX1_tellPeriod_47 ?_
    refine RET _ _ _ _ _ _ dX1_tellPeriod_50 ?_ hH
    refine ⟨?_, ⟨hm, hr, _, _, fm, f1, f2, hfm, f3, hM, hrel, hrr, hok⟩, fr⟩
    unfold sp_period
    rw [if_neg (fun z => by first | exact absurd z.1 (by assumption) | exact absurd z.2.1 (by assumption) | (have z2 := z.2.2; rw [tN_nI (by omega)] at z2; exact absurd z2 (by assumption)))]
  · obtain ⟨mv, rfl, mv1, mv3⟩ := rngS_nI c13
    refine lv_iload_n hx hb dX1_tellPeriod_16 rfl (lv_at hl 3 rfl) ?_
    refine lv_i2l hx hb dX1_tellPeriod_17 rfl ?_
    refine lv_lconst (v := lN 0) hx hb dX1_tellPeriod_18 (by decide) ?_
    refine lv_lconst (v := lN 1) hx hb dX1_tellPeriod_19 (by decide) ?_
    refine rc_Ni (rest := []) C0 FX hH (k_X5_within_rng l X ad hi _ p2 0 1 (by omega) (by omega)) ⟨va_cnB 3 C0.2.2.2.2 gX1_tellPeriod_X5_within_n34 rfl rfl rfl (FX.1.2 (RX1, 34, yX5_within) (by decide +kernel)) (C0.2.2.2.2 (.initialized RX5) (by decide +kernel)) (by decide +kernel) ⟨Nat.le_of_ble_eq_true rfl, Nat.le_of_ble_eq_true rfl⟩, C0.2.2.2.2 (.static yX5_within) (by decide +kernel), trivial⟩ rfl rfl hl.1 (Nat.le_of_ble_eq_true rfl) dX1_tellPeriod_20 ⟨Nat.le_of_ble_eq_true rfl, Nat.le_of_ble_eq_true rfl⟩ (fun r20 g20c H locs h20 hH => ?_)
    obtain ⟨e20, rfl⟩ := h20
    rw [e20] at hH
    refine rb_eq hx hb 47 dX1_tellPeriod_23 (by decide) (fun c23 => ?_) (fun c23 => ?_)
    · refine lv_ldc2 hx hb C0.2.2.2.1 kl70 dX1_tellPeriod_47 ?_
      refine RET _ _ _ _ _ _ dX1_tellPeriod_50 ?_ hH
      refine ⟨?_, ⟨hm, hr, _, _, fm, f1, f2, hfm, f3, hM, hrel, hrr, hok⟩, fr⟩
      unfold sp_period
      rw [if_neg (fun z => by first | exact absurd z.1 (by assumption) | exact absurd z.2.1 (by assumption) | (have z2 := z.2.2; rw [tN_nI (by omega)] at z2; exact absurd z2 (by assumption)))]
    · obtain ⟨wv, rfl, wv1, wv2, wv3⟩ := rng_nI c23
      refine lv_iload_n hx hb dX1_tellPeriod_26 rfl (lv_at hl 2 rfl) ?_
      refine lv_i2l hx hb dX1_tellPeriod_27 rfl ?_
      refine lv_lconst (v := lN 0) hx hb dX1_tellPeriod_28 (by decide) ?_
      refine lv_aload_n hx hb dX1_tellPeriod_29 rfl (lv_at hl 0 rfl) ?_
      refine rp_get C0 FX hH 1 (by decide) (ci := 1) (k := 3) f1 rfl kiX1 (by decide) kf20 rfl dX1_tellPeriod_30 ?_
      refine lv_iload_n hx hb dX1_tellPeriod_33 rfl (lv_at hl 1 rfl) ?_
      refine rp_aald C0 FX hH 2 1 (by decide) f2 rfl mv (ad (4 + 2 * mv)) (by omega) (by decide) (hfm _ (by omega)) dX1_tellPeriod_34 ?_
      have ymo35 : g (4 + 2 * mv) = .inr (2, [.int (nI (mc mv 0)), .int (nI (mc mv 1)), .int (nI (mc mv 2)), .int (nI (mc mv 3)), .int (nI (mc mv 4)), .ref (ad (5 + 2 * mv))]) := mFam_at hM h6 hrel _ (by omega)
      have ho35 := (hmk mv (by omega)).1
      obtain ⟨⟨p35a, p35b⟩, ⟨p35c, p35d⟩, ⟨p35e, p35f⟩, p35g, p35h⟩ := id ho35
      refine rp_get C0 FX hH (4 + 2 * mv) (by omega) (ci := 2) (k := 4) ymo35 rfl kiX2 (by decide) kf61 rfl dX1_tellPeriod_35 ?_
      refine lv_iconst (v := nI 1) hx hb dX1_tellPeriod_38 (by decide) ?_
      refine lv_isub hx hb dX1_tellPeriod_39 ?_
      refine lv_i2l hx hb dX1_tellPeriod_40 rfl ?_
      refine rc_Ni (rest := []) C0 FX hH (k_X5_within_rngS l X ad hi _ p1 ((mc mv 4)) (by omega)) ⟨va_cnB 3 C0.2.2.2.2 gX1_tellPeriod_X5_within_n34 rfl rfl rfl (FX.1.2 (RX1, 34, yX5_within) (by decide +kernel)) (C0.2.2.2.2 (.initialized RX5) (by decide +kernel)) (by decide +kernel) ⟨Nat.le_of_ble_eq_true rfl, Nat.le_of_ble_eq_true rfl⟩, C0.2.2.2.2 (.static yX5_within) (by decide +kernel), trivial⟩ rfl rfl hl.1 (Nat.le_of_ble_eq_true rfl) dX1_tellPeriod_41 ⟨Nat.le_of_ble_eq_true rfl, Nat.le_of_ble_eq_true rfl⟩ (fun r41 g41c H locs h41 hH => ?_)
      obtain ⟨e41, rfl⟩ := h41
      rw [e41] at hH
      refine rb_ne hx hb 51 dX1_tellPeriod_44 (by decide) (fun c44 => ?_) (fun c44 => ?_)
      · obtain ⟨rv, rfl, rv1, rv3⟩ := rngS_nI c44
        refine lv_aload_n hx hb dX1_tellPeriod_51 rfl (lv_at hl 0 rfl) ?_
        refine lv_iload_n hx hb dX1_tellPeriod_52 rfl (lv_at hl 1 rfl) ?_
        refine lv_iload_n hx hb dX1_tellPeriod_53 rfl (lv_at hl 2 rfl) ?_
        refine rc_Vv (rest := []) C0 FX hH 1 (by decide) f1 rfl (k_X1_reckonPeriod l X ad hi _ nm fa fb mc rd ⟨hm, hr, _, _, fm, f1, f2, hfm, f3, hM, hrel, hrr, hok⟩ mv rv (by omega) (by omega)) (cwV 2 C0.2.2.2.2 gX1_tellPeriod_X1_reckonPeriod rfl rfl rfl (by decide +kernel) ⟨Nat.le_of_ble_eq_true rfl, Nat.le_of_ble_eq_true rfl⟩) rfl rfl hl.1 (Nat.le_of_ble_eq_true rfl) dX1_tellPeriod_54 ⟨Nat.le_of_ble_eq_true rfl, Nat.le_of_ble_eq_true rfl⟩ (fun g54c H locs h54 hH => ?_)
        obtain ⟨e54, n54⟩ := h54
        have f3 : g54c 3 = .inr (0, [.long (lN ((per (nm, fa, fb, mc, rd) mv rv).1)), .long (lN ((per (nm, fa, fb, mc, rd) mv rv).2))]) := e54
        have f1 : g54c 1 = .inr (1, [.int (nI nm), .int (nI fa), .int (nI fb), .ref (ad 2), .ref (ad 3)]) := (n54 _ (by omega)).trans f1
        have f2 : g54c 2 = orr X.2.2.1 6 fm := (n54 _ (by omega)).trans f2
        have hM : mFam X ad hm hr g54c := mFam.same hM (fun r h1 h2 => n54 r (by omega))
        have ymo35 : g54c (4 + 2 * mv) = .inr (2, [.int (nI (mc mv 0)), .int (nI (mc mv 1)), .int (nI (mc mv 2)), .int (nI (mc mv 3)), .int (nI (mc mv 4)), .ref (ad (5 + 2 * mv))]) := (n54 _ (by omega)).trans ymo35
        have fr : ∀ j, (j < 1 ∨ 15 < j) → g54c j = g j := fun j a0 => (n54 j (by omega)).trans (fr j a0)
        refine lv_aload_n hx hb dX1_tellPeriod_57 rfl (lv_at hl 0 rfl) ?_
        refine lv_iload_n hx hb dX1_tellPeriod_58 rfl (lv_at hl 3 rfl) ?_
        refine rc_Vl (rest := []) C0 FX hH 1 (by decide) f1 rfl (k_X1_toldPart l X ad hi _ nm fa fb ((per (nm, fa, fb, mc, rd) mv rv).1) ((per (nm, fa, fb, mc, rd) mv rv).2) f1 f3 (nI wv)) (cwV 1 C0.2.2.2.2 gX1_tellPeriod_X1_toldPart rfl rfl rfl (by decide +kernel) ⟨Nat.le_of_ble_eq_true rfl, Nat.le_of_ble_eq_true rfl⟩) rfl rfl hl.1 (Nat.le_of_ble_eq_true rfl) dX1_tellPeriod_59 ⟨Nat.le_of_ble_eq_true rfl, Nat.le_of_ble_eq_true rfl⟩ (fun r59 g59c H locs h59 hH => ?_)
        obtain ⟨e59, rfl⟩ := h59
        rw [e59] at hH
        refine RET _ _ _ _ _ _ dX1_tellPeriod_62 ?_ hH
        refine ⟨?_, ⟨hm, hr, _, _, fm, f1, f2, hfm, f3, hM, hrel, hrr, hok⟩, fr⟩
        unfold sp_period
        rw [if_pos (show rngS (nI mv) nm ∧ rng (nI wv) 0 1 ∧ rngS (nI rv) (mc (tN (nI mv)) 4) from ⟨(rngS_iff (by omega)).mpr mv1, (rng_iff (by omega)).mpr (by omega), by rw [tN_nI (by omega)]; exact (rngS_iff (by omega)).mpr rv1⟩), tN_nI (by omega), tN_nI (by omega)]
      · refine lv_ldc2 hx hb C0.2.2.2.1 kl70 dX1_tellPeriod_47 ?_
        refine RET _ _ _ _ _ _ dX1_tellPeriod_50 ?_ hH
        refine ⟨?_, ⟨hm, hr, _, _, fm, f1, f2, hfm, f3, hM, hrel, hrr, hok⟩, fr⟩
        unfold sp_period
        rw [if_neg (fun z => by first | exact absurd z.1 (by assumption) | exact absurd z.2.1 (by assumption) | (have z2 := z.2.2; rw [tN_nI (by omega)] at z2; exact absurd z2 (by assumption)))]
set_option maxHeartbeats 4000000 in
set_option maxRecDepth 100000 in
theorem k_X1_findNear (l : Launch) (X : Cx) (ad : Nat → Nat) (hi : inj 48 ad) (g : PF) (nm fa fb : Nat) (mc rd : Nat → Nat → Nat) (hR : rLine X ad (nm, fa, fb, mc, rd) g) (p0 p1 p2 : Int32) : Ki l yX1_findNear wsX1_findNear zr6 X 48 ad g [.ref (ad 1), .int p0, .int p1, .int p2] (fun r g' => r = sp_names p0 p1 p2 (nm, fa, fb, mc, rd) ∧ rLine X ad (nm, fa, fb, mc, rd) g' ∧ frL g g') := by
  refine Ki.of (cc := cX1_findNear) (maxL := 7) hi (by decide) rfl (Nat.le_of_ble_eq_true rfl) ?_
  intro p e s m below meth c Q E RET ls hl
  obtain ⟨C0, FX, hH⟩ := E
  have hx := C0.1
  have hb := C0.2.1
  have kl86 := C0.2.2.2.2 (.constantLong RX1 86 (lN 1000000)) (by decide +kernel)
  have kl88 := C0.2.2.2.2 (.constantLong RX1 88 (lN 999)) (by decide +kernel)
  have kiX1 : ∀ w ∈ u_ws RX1 TX1 5, w ∈ wsX1_findNear := (by decide +kernel)
  have kiX2 : ∀ w ∈ u_ws RX2 TX2 6, w ∈ wsX1_findNear := (by decide +kernel)
  have kf20 : Cond.fieldLink RX1 20 "YarnMill$Line" "machines" "[LYarnMill$Machine;" ∈ wsX1_findNear := (by decide +kernel)
  have kf46 : Cond.fieldLink RX1 46 "YarnMill$Line" "size" "I" ∈ wsX1_findNear := (by decide +kernel)
  have kf61 : Cond.fieldLink RX1 61 "YarnMill$Machine" "rollers" "I" ∈ wsX1_findNear := (by decide +kernel)
  have hl : lv_has ls 7 [(0, .ref (ad 1)), (1, .int p0), (2, .int p1), (3, .int p2)] := hl
  have fr : ∀ j, (j < 1 ∨ 15 < j) → g j = g j := fun j _ => rfl
  obtain ⟨hm, hr, A, B, fm, f1, f2, hfm, f3, hM, hrel, hrr, hok⟩ := hR
  have f1 : g 1 = .inr (1, [.int (nI nm), .int (nI fa), .int (nI fb), .ref (ad 2), .ref (ad 3)]) := f1
  have hrel : ∀ j, j < nm → ∀ i, i < 5 → hm j i = mc j i := hrel
  have hrr : ∀ j, j < nm → ∀ r, r < mc j 4 → hr j r = rd j r := hrr
  have h6 : nm ≤ 6 := hok.1
  have hfa : 1 ≤ fa ∧ fa ≤ 10000 := hok.2.1
  have hfb : 1 ≤ fb ∧ fb ≤ 10000 := hok.2.2.1
  have hmk : ∀ j, j < nm → mcOk (mc j) ∧ ∀ r, r < mc j 4 → 1 ≤ rd j r ∧ rd j r ≤ 1000 := hok.2.2.2
  refine lv_iload_n hx hb dX1_findNear_0 rfl (lv_at hl 1 rfl) ?_
  refine lv_i2l hx hb dX1_findNear_1 rfl ?_
  refine lv_lconst (v := lN 1) hx hb dX1_findNear_2 (by decide) ?_
  refine lv_ldc2 hx hb C0.2.2.2.1 kl86 dX1_findNear_3 ?_
  refine rc_Ni (rest := []) C0 FX hH (k_X5_within_rng l X ad hi _ p0 1 1000000 (by omega) (by omega)) ⟨va_cnB 3 C0.2.2.2.2 gX1_findNear_X5_within_n34 rfl rfl rfl (FX.1.2 (RX1, 34, yX5_within) (by decide +kernel)) (C0.2.2.2.2 (.initialized RX5) (by decide +kernel)) (by decide +kernel) ⟨Nat.le_of_ble_eq_true rfl, Nat.le_of_ble_eq_true rfl⟩, C0.2.2.2.2 (.static yX5_within) (by decide +kernel), trivial⟩ rfl rfl hl.1 (Nat.le_of_ble_eq_true rfl) dX1_findNear_6 ⟨Nat.le_of_ble_eq_true rfl, Nat.le_of_ble_eq_true rfl⟩ (fun r6 g6c H locs h6 hH => ?_)
  obtain ⟨e6, rfl⟩ := h6
  rw [e6] at hH
  refine rb_eq hx hb 28 dX1_findNear_9 (by decide) (fun c9 => ?_) (fun c9 => ?_)
  · refine lv_bipush (v := (-2)) hx hb dX1_findNear_28 (by decide) ?_
    refine RET _ _ _ _ _ _ dX1_findNear_30 rfl ?_ hH
    refine ⟨?_, ⟨hm, hr, _, _, fm, f1, f2, hfm, f3, hM, hrel, hrr, hok⟩, fr⟩
    unfold sp_names
    rw [if_neg (fun z => by first | exact absurd z.1 (by assumption) | exact absurd z.2.1 (by assumption) | exact absurd z.2.2 (by assumption))]
  · obtain ⟨pv, rfl, pv1, pv2, pv3⟩ := rng_nI c9
    refine lv_iload_n hx hb dX1_findNear_12 rfl (lv_at hl 2 rfl) ?_
    refine lv_i2l hx hb dX1_findNear_13 rfl ?_
    refine lv_lconst (v := lN 0) hx hb dX1_findNear_14 (by decide) ?_
    refine lv_ldc2 hx hb C0.2.2.2.1 kl88 dX1_findNear_15 ?_
    refine rc_Ni (rest := []) C0 FX hH (k_X5_within_rng l X ad hi _ p1 0 999 (by omega) (by omega)) ⟨va_cnB 3 C0.2.2.2.2 gX1_findNear_X5_within_n34 rfl rfl rfl (FX.1.2 (RX1, 34, yX5_within) (by decide +kernel)) (C0.2.2.2.2 (.initialized RX5) (by decide +kernel)) (by decide +kernel) ⟨Nat.le_of_ble_eq_true rfl, Nat.le_of_ble_eq_true rfl⟩, C0.2.2.2.2 (.static yX5_within) (by decide +kernel), trivial⟩ rfl rfl hl.1 (Nat.le_of_ble_eq_true rfl) dX1_findNear_18 ⟨Nat.le_of_ble_eq_true rfl, Nat.le_of_ble_eq_true rfl⟩ (fun r18 g18c H locs h18 hH => ?_)
    obtain ⟨e18, rfl⟩ := h18
    rw [e18] at hH
    refine rb_eq hx hb 28 dX1_findNear_21 (by decide) (fun c21 => ?_) (fun c21 => ?_)
    · refine lv_bipush (v := (-2)) hx hb dX1_findNear_28 (by decide) ?_
      refine RET _ _ _ _ _ _ dX1_findNear_30 rfl ?_ hH
      refine ⟨?_, ⟨hm, hr, _, _, fm, f1, f2, hfm, f3, hM, hrel, hrr, hok⟩, fr⟩
      unfold sp_names
      rw [if_neg (fun z => by first | exact absurd z.1 (by assumption) | exact absurd z.2.1 (by assumption) | exact absurd z.2.2 (by assumption))]
    · obtain ⟨tv, rfl, tv1, tv2, tv3⟩ := rng_nI c21
      refine lv_iload_n hx hb dX1_findNear_24 rfl (lv_at hl 3 rfl) ?_
      refine lv_if_ge (tgt := 31) hx hb dX1_findNear_25 (by decide) (fun c25 => ?_) (fun c25 => ?_)
      · obtain ⟨iv, rfl, iv3⟩ := ge0_nI c25
        refine lv_iconst (v := nI 0) hx hb dX1_findNear_31 (by decide) ?_
        refine lv_istore (lv' := [(4, .int (nI 0)), (0, .ref (ad 1)), (1, .int (nI pv)), (2, .int (nI tv)), (3, .int (nI iv))]) hx hb dX1_findNear_32 hl (by decide) rfl (fun ls hl => ?_)
        refine lv_iconst (v := nI 0) hx hb dX1_findNear_34 (by decide) ?_
        refine lv_istore (lv' := [(5, .int (nI 0)), (4, .int (nI 0)), (0, .ref (ad 1)), (1, .int (nI pv)), (2, .int (nI tv)), (3, .int (nI iv))]) hx hb dX1_findNear_35 hl (by decide) rfl (fun ls hl => ?_)
        have L37 : ∀ (fu : Nat) (ah : Nat) (k9 : Nat) (A9 : Nat) (B9 : Nat) (g1 : PF) (H : Heap) (locs : List Loc) (ls : Array Slot), (k9 ≤ nm) → (ah ≤ 3 * k9) → (nmm (nm, fa, fb, mc, rd) pv tv iv k9 = (none, ah)) → nm - k9 < fu → WH X 48 ad (pA 48 ad s.heap.size) s g1 H locs → g1 1 = .inr (1, [.int (nI nm), .int (nI fa), .int (nI fb), .ref (ad 2), .ref (ad 3)]) → g1 2 = orr X.2.2.1 6 fm → g1 3 = .inr (0, [.long (lN A9), .long (lN B9)]) → mFam X ad hm hr g1 → (∀ j, (j < 1 ∨ 15 < j) → g1 j = g j) → lv_has ls 7 [(5, .int (nI k9)), (4, .int (nI ah)), (0, .ref (ad 1)), (1, .int (nI pv)), (2, .int (nI tv)), (3, .int (nI iv))] → W p l e zr6 s m ([.ref (ad 1), .int (nI pv), .int (nI tv), .int (nI iv)] : List Value).toArray below meth c H locs 0 0 Q (F0 m 37 ls []) := by
          intro fu
          induction fu with
          | zero =>
            intro ah k9 A9 B9 g1 H locs ls j1 j2 j3 hm
            exact absurd hm (Nat.not_lt_zero _)
          | succ fu ih =>
            have ih37 := ih; clear ih
            intro ah k9 A9 B9 g1 H locs ls j1 j2 j3 hm37 hH f1 f2 f3 hM fr hl
            refine lv_iload hx hb dX1_findNear_37 (lv_at hl 0 rfl) ?_
            refine lv_aload_n hx hb dX1_findNear_39 rfl (lv_at hl 2 rfl) ?_
            refine rp_get C0 FX hH 1 (by decide) (ci := 1) (k := 0) f1 rfl kiX1 (by decide) kf46 rfl dX1_findNear_40 ?_
            refine ni_cge hx hb 110 dX1_findNear_43 (by decide) (by omega) (by omega) (fun c43 => ?_) (fun c43 => ?_)
            · refine lv_iconst (v := (-1)) hx hb dX1_findNear_110 (by decide) ?_
              refine RET _ _ _ _ _ _ dX1_findNear_111 rfl ?_ hH
              refine ⟨?_, ⟨hm, hr, _, _, fm, f1, f2, hfm, f3, hM, hrel, hrr, hok⟩, fr⟩
              unfold sp_names
              rw [if_pos ⟨(rng_iff (by omega)).mpr (by omega), (rng_iff (by omega)).mpr (by omega), c25⟩, tN_nI (by omega), tN_nI (by omega), tN_nI (by omega)]
              show _ = (match (nmm (nm, fa, fb, mc, rd) pv tv iv nm).1 with | some v => nI v | none => -1)
              rw [show nm = k9 by omega]
              first | rw [j3] | (have j3 : nmm (k9, fa, fb, mc, rd) pv tv iv k9 = (none, ah) := by rw [show k9 = nm by omega] at j3 ⊢; exact j3
                                 rw [j3])
            · refine lv_iconst (v := nI 0) hx hb dX1_findNear_46 (by decide) ?_
              refine lv_istore (lv' := [(6, .int (nI 0)), (5, .int (nI k9)), (4, .int (nI ah)), (0, .ref (ad 1)), (1, .int (nI pv)), (2, .int (nI tv)), (3, .int (nI iv))]) hx hb dX1_findNear_47 hl (by decide) rfl (fun ls hl => ?_)
              have L49 : ∀ (fu : Nat) (ah : Nat) (r9 : Nat) (A9 : Nat) (B9 : Nat) (g2 : PF) (H : Heap) (locs : List Loc) (ls : Array Slot), (r9 ≤ mc k9 4) → (ah ≤ 3 * k9 + r9) → (nmr (nm, fa, fb, mc, rd) pv tv iv k9 (nmm (nm, fa, fb, mc, rd) pv tv iv k9) r9 = (none, ah)) → mc k9 4 - r9 < fu → WH X 48 ad (pA 48 ad s.heap.size) s g2 H locs → g2 1 = .inr (1, [.int (nI nm), .int (nI fa), .int (nI fb), .ref (ad 2), .ref (ad 3)]) → g2 2 = orr X.2.2.1 6 fm → g2 3 = .inr (0, [.long (lN A9), .long (lN B9)]) → mFam X ad hm hr g2 → (∀ j, (j < 1 ∨ 15 < j) → g2 j = g j) → lv_has ls 7 [(6, .int (nI r9)), (5, .int (nI k9)), (4, .int (nI ah)), (0, .ref (ad 1)), (1, .int (nI pv)), (2, .int (nI tv)), (3, .int (nI iv))] → W p l e zr6 s m ([.ref (ad 1), .int (nI pv), .int (nI tv), .int (nI iv)] : List Value).toArray below meth c H locs 0 0 Q (F0 m 49 ls []) := by
                intro fu
                induction fu with
                | zero =>
                  intro ah r9 A9 B9 g2 H locs ls m1 m2 m3 hm
                  exact absurd hm (Nat.not_lt_zero _)
                | succ fu ih =>
                  have ih49 := ih; clear ih
                  intro ah r9 A9 B9 g2 H locs ls m1 m2 m3 hm49 hH f1 f2 f3 hM fr hl
                  obtain ⟨q1a, q1b, q1c, q1d, q1e⟩ := (hmk k9 (by omega)).1
                  refine lv_iload hx hb dX1_findNear_49 (lv_at hl 0 rfl) ?_
                  refine lv_aload_n hx hb dX1_findNear_51 rfl (lv_at hl 3 rfl) ?_
                  refine rp_get C0 FX hH 1 (by decide) (ci := 1) (k := 3) f1 rfl kiX1 (by decide) kf20 rfl dX1_findNear_52 ?_
                  refine lv_iload hx hb dX1_findNear_55 (lv_at hl 1 rfl) ?_
                  refine rp_aald C0 FX hH 2 1 (by decide) f2 rfl k9 (ad (4 + 2 * k9)) (by omega) (by decide) (hfm _ (by omega)) dX1_findNear_57 ?_
                  have ymo58 : g2 (4 + 2 * k9) = .inr (2, [.int (nI (mc k9 0)), .int (nI (mc k9 1)), .int (nI (mc k9 2)), .int (nI (mc k9 3)), .int (nI (mc k9 4)), .ref (ad (5 + 2 * k9))]) := mFam_at hM h6 hrel _ (by omega)
                  have ho58 := (hmk k9 (by omega)).1
                  obtain ⟨⟨p58a, p58b⟩, ⟨p58c, p58d⟩, ⟨p58e, p58f⟩, p58g, p58h⟩ := id ho58
                  refine rp_get C0 FX hH (4 + 2 * k9) (by omega) (ci := 2) (k := 4) ymo58 rfl kiX2 (by decide) kf61 rfl dX1_findNear_58 ?_
                  refine ni_cge hx hb 104 dX1_findNear_61 (by decide) (by omega) (by omega) (fun c61 => ?_) (fun c61 => ?_)
                  · refine lv_iinc (v := nI (k9 + 1)) (lv' := [(5, .int (nI (k9 + 1))), (6, .int (nI r9)), (4, .int (nI ah)), (0, .ref (ad 1)), (1, .int (nI pv)), (2, .int (nI tv)), (3, .int (nI iv))]) hx hb dX1_findNear_104 hl (k := 1) rfl (ni_inc1 _) (by decide) rfl (fun ls hl => ?_)
                    refine lv_goto (tgt := 37) hx hb dX1_findNear_107 (by decide) ?_
                    exact ih37 ah (k9 + 1) A9 B9 _ _ _ ls (by omega) (by omega) (by show nmr (nm, fa, fb, mc, rd) pv tv iv k9 (nmm (nm, fa, fb, mc, rd) pv tv iv k9) (mc k9 4) = _; rw [show mc k9 4 = r9 by omega]; exact m3) (by omega) hH f1 f2 f3 hM fr (lv_sub hl [0, 2, 3, 4, 5, 6] rfl)
                  · refine lv_aload_n hx hb dX1_findNear_64 rfl (lv_at hl 3 rfl) ?_
                    refine lv_iload hx hb dX1_findNear_65 (lv_at hl 1 rfl) ?_
                    refine lv_iload hx hb dX1_findNear_67 (lv_at hl 0 rfl) ?_
                    refine lv_iload_n hx hb dX1_findNear_69 rfl (lv_at hl 4 rfl) ?_
                    refine lv_iload_n hx hb dX1_findNear_70 rfl (lv_at hl 5 rfl) ?_
                    refine rc_Vi (rest := []) C0 FX hH 1 (by decide) f1 rfl (k_X1_isNear l X ad hi _ nm fa fb mc rd ⟨hm, hr, _, _, fm, f1, f2, hfm, f3, hM, hrel, hrr, hok⟩ k9 r9 pv tv (by omega) (by omega) (by omega) (by omega)) (cwV 4 C0.2.2.2.2 gX1_findNear_X1_isNear rfl rfl rfl (by decide +kernel) ⟨Nat.le_of_ble_eq_true rfl, Nat.le_of_ble_eq_true rfl⟩) rfl rfl hl.1 (Nat.le_of_ble_eq_true rfl) dX1_findNear_71 ⟨Nat.le_of_ble_eq_true rfl, Nat.le_of_ble_eq_true rfl⟩ (fun r71 g71c H locs h71 hH => ?_)
                    obtain ⟨rfl, ⟨A8, B8, e71⟩, n71⟩ := h71
                    have f3 : g71c 3 = .inr (0, [.long (lN A8), .long (lN B8)]) := e71
                    have f1 : g71c 1 = .inr (1, [.int (nI nm), .int (nI fa), .int (nI fb), .ref (ad 2), .ref (ad 3)]) := (n71 _ (by omega)).trans f1
                    have f2 : g71c 2 = orr X.2.2.1 6 fm := (n71 _ (by omega)).trans f2
                    have hM : mFam X ad hm hr g71c := mFam.same hM (fun r h1 h2 => n71 r (by omega))
                    have ymo58 : g71c (4 + 2 * k9) = .inr (2, [.int (nI (mc k9 0)), .int (nI (mc k9 1)), .int (nI (mc k9 2)), .int (nI (mc k9 3)), .int (nI (mc k9 4)), .ref (ad (5 + 2 * k9))]) := (n71 _ (by omega)).trans ymo58
                    have fr : ∀ j, (j < 1 ∨ 15 < j) → g71c j = g j := fun j a0 => (n71 j (by omega)).trans (fr j a0)
                    refine rb_ne hx hb 80 dX1_findNear_74 (by decide) (fun c74 => ?_) (fun c74 => ?_)
                    · refine lv_iload hx hb dX1_findNear_80 (lv_at hl 2 rfl) ?_
                      refine lv_iload_n hx hb dX1_findNear_82 rfl (lv_at hl 6 rfl) ?_
                      refine ni_cne hx hb 95 dX1_findNear_83 (by decide) (by omega) (by omega) (fun c83 => ?_) (fun c83 => ?_)
                      · refine lv_iinc (v := nI (ah + 1)) (lv' := [(4, .int (nI (ah + 1))), (6, .int (nI r9)), (5, .int (nI k9)), (0, .ref (ad 1)), (1, .int (nI pv)), (2, .int (nI tv)), (3, .int (nI iv))]) hx hb dX1_findNear_95 hl (k := 2) rfl (ni_inc1 _) (by decide) rfl (fun ls hl => ?_)
                        refine lv_iinc (v := nI (r9 + 1)) (lv' := [(6, .int (nI (r9 + 1))), (4, .int (nI (ah + 1))), (5, .int (nI k9)), (0, .ref (ad 1)), (1, .int (nI pv)), (2, .int (nI tv)), (3, .int (nI iv))]) hx hb dX1_findNear_98 hl (k := 1) rfl (ni_inc1 _) (by decide) rfl (fun ls hl => ?_)
                        refine lv_goto (tgt := 49) hx hb dX1_findNear_101 (by decide) ?_
                        exact ih49 (ah + 1) (r9 + 1) A8 B8 _ _ _ ls (by omega) (by omega) (by show (match nmr (nm, fa, fb, mc, rd) pv tv iv k9 (nmm (nm, fa, fb, mc, rd) pv tv iv k9) r9 with | (some v, k) => (some v, k) | (none, k) => if near (nm, fa, fb, mc, rd) pv tv k9 r9 then (if k = iv then (some (8 * k9 + r9), k) else (none, k + 1)) else (none, k)) = _; rw [m3]; show (if _ then _ else _) = _; rw [if_pos c74, if_neg c83]) (by omega) hH f1 f2 f3 hM fr (lv_sub hl [0, 2, 1, 3, 4, 5, 6] rfl)
                      · refine lv_bipush (v := nI 8) hx hb dX1_findNear_86 (by decide) ?_
                        refine lv_iload hx hb dX1_findNear_88 (lv_at hl 1 rfl) ?_
                        refine ni_imul hx hb dX1_findNear_90 ?_
                        refine lv_iload hx hb dX1_findNear_91 (lv_at hl 0 rfl) ?_
                        refine ni_iadd hx hb dX1_findNear_93 ?_
                        refine RET _ _ _ _ _ _ dX1_findNear_94 rfl ?_ hH
                        refine ⟨?_, ⟨hm, hr, _, _, fm, f1, f2, hfm, f3, hM, hrel, hrr, hok⟩, fr⟩
                        have hf1 : nmr (nm, fa, fb, mc, rd) pv tv iv k9 (nmm (nm, fa, fb, mc, rd) pv tv iv k9) (r9 + 1) = (some (8 * k9 + r9), ah) := by
                          show (match nmr (nm, fa, fb, mc, rd) pv tv iv k9 (nmm (nm, fa, fb, mc, rd) pv tv iv k9) r9 with | (some v, k) => (some v, k) | (none, k) => if near (nm, fa, fb, mc, rd) pv tv k9 r9 then (if k = iv then (some (8 * k9 + r9), k) else (none, k + 1)) else (none, k)) = _
                          rw [m3]
                          show (if _ then _ else _) = _
                          rw [if_pos c74, if_pos c83]
                        have hf2 := nmr_keep hf1 (mc k9 4 - (r9 + 1))
                        rw [show r9 + 1 + (mc k9 4 - (r9 + 1)) = mc k9 4 by omega] at hf2
                        have hf3 : nmm (nm, fa, fb, mc, rd) pv tv iv (k9 + 1) = (some (8 * k9 + r9), ah) := hf2
                        have hf4 := nmm_keep hf3 (nm - (k9 + 1))
                        rw [show k9 + 1 + (nm - (k9 + 1)) = nm by omega] at hf4
                        unfold sp_names
                        rw [if_pos ⟨(rng_iff (by omega)).mpr (by omega), (rng_iff (by omega)).mpr (by omega), c25⟩, tN_nI (by omega), tN_nI (by omega), tN_nI (by omega)]
                        show _ = (match (nmm (nm, fa, fb, mc, rd) pv tv iv nm).1 with | some v => nI v | none => -1)
                        rw [hf4]
                    · refine lv_goto (tgt := 98) hx hb dX1_findNear_77 (by decide) ?_
                      refine lv_iinc (v := nI (r9 + 1)) (lv' := [(6, .int (nI (r9 + 1))), (5, .int (nI k9)), (4, .int (nI ah)), (0, .ref (ad 1)), (1, .int (nI pv)), (2, .int (nI tv)), (3, .int (nI iv))]) hx hb dX1_findNear_98 hl (k := 0) rfl (ni_inc1 _) (by decide) rfl (fun ls hl => ?_)
                      refine lv_goto (tgt := 49) hx hb dX1_findNear_101 (by decide) ?_
                      exact ih49 ah (r9 + 1) A8 B8 _ _ _ ls (by omega) (by omega) (by show (match nmr (nm, fa, fb, mc, rd) pv tv iv k9 (nmm (nm, fa, fb, mc, rd) pv tv iv k9) r9 with | (some v, k) => (some v, k) | (none, k) => if near (nm, fa, fb, mc, rd) pv tv k9 r9 then (if k = iv then (some (8 * k9 + r9), k) else (none, k + 1)) else (none, k)) = _; rw [m3]; show (if _ then _ else _) = _; rw [if_neg c74]) (by omega) hH f1 f2 f3 hM fr (lv_sub hl [0, 1, 2, 3, 4, 5, 6] rfl)
              exact L49 ((mc k9 4 - 0) + 1) ah 0 A9 B9 _ _ _ ls (Nat.zero_le _) (by omega) (j3) (Nat.lt_succ_self _) hH f1 f2 f3 hM fr (lv_sub hl [0, 1, 2, 3, 4, 5, 6] rfl)
        exact L37 ((nm - 0) + 1) 0 0 A B _ _ _ ls (by omega) (by omega) (by rfl) (Nat.lt_succ_self _) hH f1 f2 f3 hM fr (lv_sub hl [0, 1, 2, 3, 4, 5] rfl)
      · refine lv_bipush (v := (-2)) hx hb dX1_findNear_28 (by decide) ?_
        refine RET _ _ _ _ _ _ dX1_findNear_30 rfl ?_ hH
        refine ⟨?_, ⟨hm, hr, _, _, fm, f1, f2, hfm, f3, hM, hrel, hrr, hok⟩, fr⟩
        unfold sp_names
        rw [if_neg (fun z => by first | exact absurd z.1 (by assumption) | exact absurd z.2.1 (by assumption) | exact absurd z.2.2 (by assumption))]
