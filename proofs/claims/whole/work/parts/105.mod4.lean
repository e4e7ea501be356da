set_option maxHeartbeats 4000000 in
set_option maxRecDepth 100000 in
theorem k_X6_becomes (l : Launch) (X : Cx) (ad : Nat → Nat) (hi : inj 48 ad) (g : PF) (fa fb nm nb lay pm tr : Nat) (cn ms fs : Nat → Nat) (f36 : g 36 = .inr (6, [.int (nI fa), .int (nI fb), .int (nI nm), .ref (ad 37), .ref (ad 38), .ref (ad 39), .ref (ad 40), .ref (ad 41), .ref (ad 42), .ref (ad 43), .ref (ad 44), .ref (ad 45), .int (nI nb), .ref (ad 46), .int (nI lay), .int (nI pm), .ref (ad 47), .int (nI tr)])) (f43 : g 43 = arr X 8 cn) (f44 : g 44 = arr X 3200 ms) (f45 : g 45 = arr X 400 fs) (rv nv : Nat) (hrv : rv ≤ 7) (hnv : nv ≤ 400) (hcb : cn rv ≤ 400) (hfx : ∀ j, j < nv → fs j < 2147483648) : Ki l yX6_becomes wsX6_becomes zr2 X 48 ad g [.ref (ad 36), .int (nI rv), .int (nI nv)] (fun r g' => ((∀ j, j < nv → fs j ≤ 1000000) → r = nI nv ∧ g' 43 = arr X 8 (va_up cn rv nv) ∧ ∃ ms9 : Nat → Nat, g' 44 = arr X 3200 ms9 ∧ (∀ j, j < nv → ms9 (400 * rv + j) = fs j) ∧ ∀ i, (i < 400 * rv ∨ 400 * rv + nv ≤ i) → ms9 i = ms i) ∧ ((¬ ∀ j, j < nv → fs j ≤ 1000000) → r = -6 ∧ g' 43 = arr X 8 (va_up cn rv (cn rv)) ∧ g' 44 = arr X 3200 ms) ∧ ∀ j, j ≠ 43 → j ≠ 44 → g' j = g j) := by
  refine Ki.of (cc := cX6_becomes) (maxL := 5) hi (by decide) rfl (Nat.le_of_ble_eq_true rfl) ?_
  intro p e s m below meth c Q E RET ls hl
  obtain ⟨C0, FX, hH⟩ := E
  have hx := C0.1
  have hb := C0.2.1
  have kiX6 : ∀ w ∈ u_ws RX6 TX6 18, w ∈ wsX6_becomes := (by decide +kernel)
  have kf35 : Cond.fieldLink RX6 35 "YarnMillModel" "cells" "[I" ∈ wsX6_becomes := (by decide +kernel)
  have kf38 : Cond.fieldLink RX6 38 "YarnMillModel" "mass" "[I" ∈ wsX6_becomes := (by decide +kernel)
  have kf41 : Cond.fieldLink RX6 41 "YarnMillModel" "fresh" "[I" ∈ wsX6_becomes := (by decide +kernel)
  have hl : lv_has ls 5 [(0, .ref (ad 36)), (1, .int (nI rv)), (2, .int (nI nv))] := hl
  have fr : ∀ j, j ≠ 43 → j ≠ 44 → g j = g j := fun j _ _ => rfl
  refine lv_iconst (v := nI 1) hx hb dX6_becomes_0 (by decide) ?_
  refine lv_istore_n (lv' := [(3, .int (nI 1)), (0, .ref (ad 36)), (1, .int (nI rv)), (2, .int (nI nv))]) hx hb dX6_becomes_1 rfl hl (by decide) rfl (fun ls hl => ?_)
  refine lv_iconst (v := nI 0) hx hb dX6_becomes_2 (by decide) ?_
  refine lv_istore (lv' := [(4, .int (nI 0)), (3, .int (nI 1)), (0, .ref (ad 36)), (1, .int (nI rv)), (2, .int (nI nv))]) hx hb dX6_becomes_3 hl (by decide) rfl (fun ls hl => ?_)
  have L5 : ∀ (fu : Nat) (ft : Nat) (i : Nat) (H : Heap) (locs : List Loc) (ls : Array Slot), (i ≤ nv) → (ft ≤ 1) → (ft = 1 ↔ ∀ j, j < i → fs j ≤ 1000000) → nv - i < fu → WH X 48 ad (pA 48 ad s.heap.size) s g H locs → lv_has ls 5 [(4, .int (nI i)), (3, .int (nI ft)), (0, .ref (ad 36)), (1, .int (nI rv)), (2, .int (nI nv))] → W p l e zr2 s m ([.ref (ad 36), .int (nI rv), .int (nI nv)] : List Value).toArray below meth c H locs 0 0 Q (F0 m 5 ls []) := by
    intro fu
    induction fu with
    | zero =>
      intro ft i H locs ls i1 i2 i3 hm
      exact absurd hm (Nat.not_lt_zero _)
    | succ fu ih =>
      have ih5 := ih; clear ih
      intro ft i H locs ls i1 i2 i3 hm5 hH hl
      have hq := hfx i
      refine lv_iload hx hb dX6_becomes_5 (lv_at hl 0 rfl) ?_
      refine lv_iload_n hx hb dX6_becomes_7 rfl (lv_at hl 4 rfl) ?_
      refine ni_cge hx hb 41 dX6_becomes_8 (by decide) (by omega) (by omega) (fun c8 => ?_) (fun c8 => ?_)
      · have hft : ft = 1 ↔ ∀ j, j < nv → fs j ≤ 1000000 := by rw [i3, show i = nv by omega]
        refine lv_iconst (v := nI 0) hx hb dX6_becomes_41 (by decide) ?_
        refine lv_istore (lv' := [(4, .int (nI 0)), (3, .int (nI ft)), (0, .ref (ad 36)), (1, .int (nI rv)), (2, .int (nI nv))]) hx hb dX6_becomes_42 hl (by decide) rfl (fun ls hl => ?_)
        have L44 : ∀ (fu : Nat) (i : Nat) (ms9 : Nat → Nat) (g1 : PF) (H : Heap) (locs : List Loc) (ls : Array Slot), (i ≤ nv) → (0 < i → ft = 1) → (∀ j, j < i → ms9 (400 * rv + j) = fs j) → (∀ k, (k < 400 * rv ∨ 400 * rv + i ≤ k) → ms9 k = ms k) → nv - i < fu → WH X 48 ad (pA 48 ad s.heap.size) s g1 H locs → g1 36 = .inr (6, [.int (nI fa), .int (nI fb), .int (nI nm), .ref (ad 37), .ref (ad 38), .ref (ad 39), .ref (ad 40), .ref (ad 41), .ref (ad 42), .ref (ad 43), .ref (ad 44), .ref (ad 45), .int (nI nb), .ref (ad 46), .int (nI lay), .int (nI pm), .ref (ad 47), .int (nI tr)]) → g1 43 = arr X 8 cn → g1 44 = arr X 3200 ms9 → g1 45 = arr X 400 fs → (∀ j, j ≠ 43 → j ≠ 44 → g1 j = g j) → lv_has ls 5 [(4, .int (nI i)), (3, .int (nI ft)), (0, .ref (ad 36)), (1, .int (nI rv)), (2, .int (nI nv))] → W p l e zr2 s m ([.ref (ad 36), .int (nI rv), .int (nI nv)] : List Value).toArray below meth c H locs 0 0 Q (F0 m 44 ls []) := by
          intro fu
          induction fu with
          | zero =>
            intro i ms9 g1 H locs ls j1 j4 j2 j3 hm
            exact absurd hm (Nat.not_lt_zero _)
          | succ fu ih =>
            have ih44 := ih; clear ih
            intro i ms9 g1 H locs ls j1 j4 j2 j3 hm44 hH f36 f43 f44 f45 fr hl
            refine lv_iload hx hb dX6_becomes_44 (lv_at hl 0 rfl) ?_
            refine lv_iload_n hx hb dX6_becomes_46 rfl (lv_at hl 4 rfl) ?_
            refine ni_cge hx hb 80 dX6_becomes_47 (by decide) (by omega) (by omega) (fun c47 => ?_) (fun c47 => ?_)
            · refine lv_aload_n hx hb dX6_becomes_80 rfl (lv_at hl 2 rfl) ?_
              refine rp_get C0 FX hH 36 (by decide) (ci := 6) (k := 9) f36 rfl kiX6 (by decide) kf35 rfl dX6_becomes_81 ?_
              refine lv_iload_n hx hb dX6_becomes_84 rfl (lv_at hl 3 rfl) ?_
              refine lv_iload_n hx hb dX6_becomes_85 rfl (lv_at hl 1 rfl) ?_
              refine ni_eq0 hx hb 93 dX6_becomes_86 (by decide) (by omega) (fun c86 => ?_) (fun c86 => ?_)
              · refine lv_aload_n hx hb dX6_becomes_93 rfl (lv_at hl 2 rfl) ?_
                refine rp_get C0 FX hH 36 (by decide) (ci := 6) (k := 9) f36 rfl kiX6 (by decide) kf35 rfl dX6_becomes_94 ?_
                refine lv_iload_n hx hb dX6_becomes_97 rfl (lv_at hl 3 rfl) ?_
                refine rp_iald C0 FX hH 43 (by decide) (v := cn rv) f43 rv (by omega) (by decide) rfl dX6_becomes_98 ?_
                refine rp_iast C0 FX hH 43 (by decide) f43 rv (cn rv) (by omega) (by decide) dX6_becomes_99 (fun g2 H locs eq3 nq3 hH => ?_)
                have f43 : g2 43 = arr X 8 (va_up cn rv (cn rv)) := eq3
                have f36 : g2 36 = .inr (6, [.int (nI fa), .int (nI fb), .int (nI nm), .ref (ad 37), .ref (ad 38), .ref (ad 39), .ref (ad 40), .ref (ad 41), .ref (ad 42), .ref (ad 43), .ref (ad 44), .ref (ad 45), .int (nI nb), .ref (ad 46), .int (nI lay), .int (nI pm), .ref (ad 47), .int (nI tr)]) := (nq3 _ (by omega)).trans f36
                have f44 : g2 44 = arr X 3200 ms9 := (nq3 _ (by omega)).trans f44
                have f45 : g2 45 = arr X 400 fs := (nq3 _ (by omega)).trans f45
                have fr : ∀ j, j ≠ 43 → j ≠ 44 → g2 j = g j := fun j a0 a1 => (nq3 j (by omega)).trans (fr j a0 a1)
                refine lv_iload_n hx hb dX6_becomes_100 rfl (lv_at hl 1 rfl) ?_
                refine ni_eq0 hx hb 108 dX6_becomes_101 (by decide) (by omega) (fun c101 => ?_) (fun c101 => ?_)
                · refine lv_bipush (v := (-6)) hx hb dX6_becomes_108 (by decide) ?_
                  refine RET _ _ _ _ _ _ dX6_becomes_110 rfl ?_ hH
                  exact ⟨fun z => absurd (hft.mpr z) (by omega), fun _ => ⟨rfl, f43, by rw [show ms = ms9 from funext (fun k => (j3 k (by rcases Nat.eq_zero_or_pos i with q | q; omega; have := j4 q; omega)).symm)]; exact f44⟩, fr⟩
                · exact absurd c86 (by omega)
              · refine lv_iload_n hx hb dX6_becomes_89 rfl (lv_at hl 4 rfl) ?_
                refine lv_goto (tgt := 99) hx hb dX6_becomes_90 (by decide) ?_
                refine rp_iast C0 FX hH 43 (by decide) f43 rv nv (by omega) (by decide) dX6_becomes_99 (fun g4 H locs eq5 nq5 hH => ?_)
                have f43 : g4 43 = arr X 8 (va_up cn rv nv) := eq5
                have f36 : g4 36 = .inr (6, [.int (nI fa), .int (nI fb), .int (nI nm), .ref (ad 37), .ref (ad 38), .ref (ad 39), .ref (ad 40), .ref (ad 41), .ref (ad 42), .ref (ad 43), .ref (ad 44), .ref (ad 45), .int (nI nb), .ref (ad 46), .int (nI lay), .int (nI pm), .ref (ad 47), .int (nI tr)]) := (nq5 _ (by omega)).trans f36
                have f44 : g4 44 = arr X 3200 ms9 := (nq5 _ (by omega)).trans f44
                have f45 : g4 45 = arr X 400 fs := (nq5 _ (by omega)).trans f45
                have fr : ∀ j, j ≠ 43 → j ≠ 44 → g4 j = g j := fun j a0 a1 => (nq5 j (by omega)).trans (fr j a0 a1)
                refine lv_iload_n hx hb dX6_becomes_100 rfl (lv_at hl 1 rfl) ?_
                refine ni_eq0 hx hb 108 dX6_becomes_101 (by decide) (by omega) (fun c101 => ?_) (fun c101 => ?_)
                · exact absurd c86 (by omega)
                · refine lv_iload_n hx hb dX6_becomes_104 rfl (lv_at hl 4 rfl) ?_
                  refine lv_goto (tgt := 110) hx hb dX6_becomes_105 (by decide) ?_
                  refine RET _ _ _ _ _ _ dX6_becomes_110 rfl ?_ hH
                  exact ⟨fun _ => ⟨rfl, f43, ms9, f44, fun j hj => j2 j (by omega), fun k hk => j3 k (by omega)⟩, fun z => absurd (hft.mp (by omega)) z, fr⟩
            · refine lv_iload_n hx hb dX6_becomes_50 rfl (lv_at hl 1 rfl) ?_
              refine ni_eq0 hx hb 80 dX6_becomes_51 (by decide) (by omega) (fun c51 => ?_) (fun c51 => ?_)
              · refine lv_aload_n hx hb dX6_becomes_80 rfl (lv_at hl 2 rfl) ?_
                refine rp_get C0 FX hH 36 (by decide) (ci := 6) (k := 9) f36 rfl kiX6 (by decide) kf35 rfl dX6_becomes_81 ?_
                refine lv_iload_n hx hb dX6_becomes_84 rfl (lv_at hl 3 rfl) ?_
                refine lv_iload_n hx hb dX6_becomes_85 rfl (lv_at hl 1 rfl) ?_
                refine ni_eq0 hx hb 93 dX6_becomes_86 (by decide) (by omega) (fun c86 => ?_) (fun c86 => ?_)
                · refine lv_aload_n hx hb dX6_becomes_93 rfl (lv_at hl 2 rfl) ?_
                  refine rp_get C0 FX hH 36 (by decide) (ci := 6) (k := 9) f36 rfl kiX6 (by decide) kf35 rfl dX6_becomes_94 ?_
                  refine lv_iload_n hx hb dX6_becomes_97 rfl (lv_at hl 3 rfl) ?_
                  refine rp_iald C0 FX hH 43 (by decide) (v := cn rv) f43 rv (by omega) (by decide) rfl dX6_becomes_98 ?_
                  refine rp_iast C0 FX hH 43 (by decide) f43 rv (cn rv) (by omega) (by decide) dX6_becomes_99 (fun g6 H locs eq7 nq7 hH => ?_)
                  have f43 : g6 43 = arr X 8 (va_up cn rv (cn rv)) := eq7
                  have f36 : g6 36 = .inr (6, [.int (nI fa), .int (nI fb), .int (nI nm), .ref (ad 37), .ref (ad 38), .ref (ad 39), .ref (ad 40), .ref (ad 41), .ref (ad 42), .ref (ad 43), .ref (ad 44), .ref (ad 45), .int (nI nb), .ref (ad 46), .int (nI lay), .int (nI pm), .ref (ad 47), .int (nI tr)]) := (nq7 _ (by omega)).trans f36
                  have f44 : g6 44 = arr X 3200 ms9 := (nq7 _ (by omega)).trans f44
                  have f45 : g6 45 = arr X 400 fs := (nq7 _ (by omega)).trans f45
                  have fr : ∀ j, j ≠ 43 → j ≠ 44 → g6 j = g j := fun j a0 a1 => (nq7 j (by omega)).trans (fr j a0 a1)
                  refine lv_iload_n hx hb dX6_becomes_100 rfl (lv_at hl 1 rfl) ?_
                  refine ni_eq0 hx hb 108 dX6_becomes_101 (by decide) (by omega) (fun c101 => ?_) (fun c101 => ?_)
                  · refine lv_bipush (v := (-6)) hx hb dX6_becomes_108 (by decide) ?_
                    refine RET _ _ _ _ _ _ dX6_becomes_110 rfl ?_ hH
                    exact ⟨fun z => absurd (hft.mpr z) (by omega), fun _ => ⟨rfl, f43, by rw [show ms = ms9 from funext (fun k => (j3 k (by rcases Nat.eq_zero_or_pos i with q | q; omega; have := j4 q; omega)).symm)]; exact f44⟩, fr⟩
                  · exact absurd c86 (by omega)
                · refine lv_iload_n hx hb dX6_becomes_89 rfl (lv_at hl 4 rfl) ?_
                  refine lv_goto (tgt := 99) hx hb dX6_becomes_90 (by decide) ?_
                  refine rp_iast C0 FX hH 43 (by decide) f43 rv nv (by omega) (by decide) dX6_becomes_99 (fun g8 H locs eq9 nq9 hH => ?_)
                  have f43 : g8 43 = arr X 8 (va_up cn rv nv) := eq9
                  have f36 : g8 36 = .inr (6, [.int (nI fa), .int (nI fb), .int (nI nm), .ref (ad 37), .ref (ad 38), .ref (ad 39), .ref (ad 40), .ref (ad 41), .ref (ad 42), .ref (ad 43), .ref (ad 44), .ref (ad 45), .int (nI nb), .ref (ad 46), .int (nI lay), .int (nI pm), .ref (ad 47), .int (nI tr)]) := (nq9 _ (by omega)).trans f36
                  have f44 : g8 44 = arr X 3200 ms9 := (nq9 _ (by omega)).trans f44
                  have f45 : g8 45 = arr X 400 fs := (nq9 _ (by omega)).trans f45
                  have fr : ∀ j, j ≠ 43 → j ≠ 44 → g8 j = g j := fun j a0 a1 => (nq9 j (by omega)).trans (fr j a0 a1)
                  refine lv_iload_n hx hb dX6_becomes_100 rfl (lv_at hl 1 rfl) ?_
                  refine ni_eq0 hx hb 108 dX6_becomes_101 (by decide) (by omega) (fun c101 => ?_) (fun c101 => ?_)
                  · exact absurd c86 (by omega)
                  · refine lv_iload_n hx hb dX6_becomes_104 rfl (lv_at hl 4 rfl) ?_
                    refine lv_goto (tgt := 110) hx hb dX6_becomes_105 (by decide) ?_
                    refine RET _ _ _ _ _ _ dX6_becomes_110 rfl ?_ hH
                    exact ⟨fun _ => ⟨rfl, f43, ms9, f44, fun j hj => j2 j (by omega), fun k hk => j3 k (by omega)⟩, fun z => absurd (hft.mp (by omega)) z, fr⟩
              · refine lv_aload_n hx hb dX6_becomes_54 rfl (lv_at hl 2 rfl) ?_
                refine rp_get C0 FX hH 36 (by decide) (ci := 6) (k := 10) f36 rfl kiX6 (by decide) kf38 rfl dX6_becomes_55 ?_
                refine lv_sipush (v := nI 400) hx hb dX6_becomes_58 (by decide) ?_
                refine lv_iload_n hx hb dX6_becomes_61 rfl (lv_at hl 3 rfl) ?_
                refine ni_imul hx hb dX6_becomes_62 ?_
                refine lv_iload hx hb dX6_becomes_63 (lv_at hl 0 rfl) ?_
                refine ni_iadd hx hb dX6_becomes_65 ?_
                refine lv_aload_n hx hb dX6_becomes_66 rfl (lv_at hl 2 rfl) ?_
                refine rp_get C0 FX hH 36 (by decide) (ci := 6) (k := 11) f36 rfl kiX6 (by decide) kf41 rfl dX6_becomes_67 ?_
                refine lv_iload hx hb dX6_becomes_70 (lv_at hl 0 rfl) ?_
                refine rp_iald C0 FX hH 45 (by decide) (v := fs i) f45 i (by omega) (by decide) rfl dX6_becomes_72 ?_
                refine rp_iast C0 FX hH 44 (by decide) f44 ((400 * rv) + i) (fs i) (by omega) (by decide) dX6_becomes_73 (fun g10 H locs eq11 nq11 hH => ?_)
                have f44 : g10 44 = arr X 3200 (va_up ms9 ((400 * rv) + i) (fs i)) := eq11
                have f36 : g10 36 = .inr (6, [.int (nI fa), .int (nI fb), .int (nI nm), .ref (ad 37), .ref (ad 38), .ref (ad 39), .ref (ad 40), .ref (ad 41), .ref (ad 42), .ref (ad 43), .ref (ad 44), .ref (ad 45), .int (nI nb), .ref (ad 46), .int (nI lay), .int (nI pm), .ref (ad 47), .int (nI tr)]) := (nq11 _ (by omega)).trans f36
                have f43 : g10 43 = arr X 8 cn := (nq11 _ (by omega)).trans f43
                have f45 : g10 45 = arr X 400 fs := (nq11 _ (by omega)).trans f45
                have fr : ∀ j, j ≠ 43 → j ≠ 44 → g10 j = g j := fun j a0 a1 => (nq11 j (by omega)).trans (fr j a0 a1)
                refine lv_iinc (v := nI (i + 1)) (lv' := [(4, .int (nI (i + 1))), (3, .int (nI ft)), (0, .ref (ad 36)), (1, .int (nI rv)), (2, .int (nI nv))]) hx hb dX6_becomes_74 hl (k := 0) rfl (ni_inc1 _) (by decide) rfl (fun ls hl => ?_)
                refine lv_goto (tgt := 44) hx hb dX6_becomes_77 (by decide) ?_
                exact ih44 (i + 1) (va_up ms9 ((400 * rv) + i) (fs i)) _ _ _ ls (by omega) (fun _ => by omega) (fun j hj => by by_cases q : j = i; rw [q, va_up_self]; rw [va_up_ne _ _ (by omega)]; exact j2 j (by omega)) (fun k hk => by rw [va_up_ne _ _ (by omega)]; exact j3 k (by omega)) (by omega) hH f36 f43 f44 f45 fr (lv_sub hl [0, 1, 2, 3, 4] rfl)
        exact L44 ((nv - 0) + 1) 0 ms _ _ _ ls (by omega) (fun z => absurd z (Nat.lt_irrefl 0)) (fun j hj => absurd hj (Nat.not_lt_zero _)) (fun _ _ => rfl) (Nat.lt_succ_self _) hH f36 f43 f44 f45 fr (lv_sub hl [0, 1, 2, 3, 4] rfl)
      · refine lv_iload_n hx hb dX6_becomes_11 rfl (lv_at hl 1 rfl) ?_
        refine ni_eq0 hx hb 33 dX6_becomes_12 (by decide) (by omega) (fun c12 => ?_) (fun c12 => ?_)
        · refine lv_iconst (v := nI 0) hx hb dX6_becomes_33 (by decide) ?_
          refine lv_istore_n (lv' := [(3, .int (nI 0)), (4, .int (nI i)), (0, .ref (ad 36)), (1, .int (nI rv)), (2, .int (nI nv))]) hx hb dX6_becomes_34 rfl hl (by decide) rfl (fun ls hl => ?_)
          refine lv_iinc (v := nI (i + 1)) (lv' := [(4, .int (nI (i + 1))), (3, .int (nI 0)), (0, .ref (ad 36)), (1, .int (nI rv)), (2, .int (nI nv))]) hx hb dX6_becomes_35 hl (k := 1) rfl (ni_inc1 _) (by decide) rfl (fun ls hl => ?_)
          refine lv_goto (tgt := 5) hx hb dX6_becomes_38 (by decide) ?_
          exact ih5 0 (i + 1) _ _ ls (by omega) (by omega) (⟨fun z => absurd z (by decide), fun z => by have := i3.mpr (fun j hj => z j (by omega)); omega⟩) (by omega) hH (lv_sub hl [0, 1, 2, 3, 4] rfl)
        · refine lv_aload_n hx hb dX6_becomes_15 rfl (lv_at hl 2 rfl) ?_
          refine rp_get C0 FX hH 36 (by decide) (ci := 6) (k := 11) f36 rfl kiX6 (by decide) kf41 rfl dX6_becomes_16 ?_
          refine lv_iload hx hb dX6_becomes_19 (lv_at hl 0 rfl) ?_
          refine rp_iald C0 FX hH 45 (by decide) (v := fs i) f45 i (by omega) (by decide) rfl dX6_becomes_21 ?_
          refine ni_i2l hx hb (by have := hq c8; omega) dX6_becomes_22 ?_
          refine rc_Si (rest := []) C0 FX hH (k_X6_isMass_nat l X ad hi _ (fs i) (by omega)) (va_cwS 1 C0.2.2.2.2 gX6_becomes_X6_isMass rfl rfl rfl (by decide +kernel) ⟨Nat.le_of_ble_eq_true rfl, Nat.le_of_ble_eq_true rfl⟩) rfl rfl hl.1 (Nat.le_of_ble_eq_true rfl) dX6_becomes_23 ⟨Nat.le_of_ble_eq_true rfl, Nat.le_of_ble_eq_true rfl⟩ (fun r23 g23c H locs h23 hH => ?_)
          obtain ⟨e23, rfl⟩ := h23
          rw [e23] at hH
          refine rb_eq hx hb 33 dX6_becomes_26 (by decide) (fun c26 => ?_) (fun c26 => ?_)
          · refine lv_iconst (v := nI 0) hx hb dX6_becomes_33 (by decide) ?_
            refine lv_istore_n (lv' := [(3, .int (nI 0)), (4, .int (nI i)), (0, .ref (ad 36)), (1, .int (nI rv)), (2, .int (nI nv))]) hx hb dX6_becomes_34 rfl hl (by decide) rfl (fun ls hl => ?_)
            refine lv_iinc (v := nI (i + 1)) (lv' := [(4, .int (nI (i + 1))), (3, .int (nI 0)), (0, .ref (ad 36)), (1, .int (nI rv)), (2, .int (nI nv))]) hx hb dX6_becomes_35 hl (k := 1) rfl (ni_inc1 _) (by decide) rfl (fun ls hl => ?_)
            refine lv_goto (tgt := 5) hx hb dX6_becomes_38 (by decide) ?_
            exact ih5 0 (i + 1) _ _ ls (by omega) (by omega) (⟨fun z => absurd z (by decide), fun z => absurd (z i (by omega)) c26⟩) (by omega) hH (lv_sub hl [0, 1, 2, 3, 4] rfl)
          · refine lv_iconst (v := nI 1) hx hb dX6_becomes_29 (by decide) ?_
            refine lv_goto (tgt := 34) hx hb dX6_becomes_30 (by decide) ?_
            refine lv_istore_n (lv' := [(3, .int (nI 1)), (4, .int (nI i)), (0, .ref (ad 36)), (1, .int (nI rv)), (2, .int (nI nv))]) hx hb dX6_becomes_34 rfl hl (by decide) rfl (fun ls hl => ?_)
            refine lv_iinc (v := nI (i + 1)) (lv' := [(4, .int (nI (i + 1))), (3, .int (nI 1)), (0, .ref (ad 36)), (1, .int (nI rv)), (2, .int (nI nv))]) hx hb dX6_becomes_35 hl (k := 1) rfl (ni_inc1 _) (by decide) rfl (fun ls hl => ?_)
            refine lv_goto (tgt := 5) hx hb dX6_becomes_38 (by decide) ?_
            exact ih5 1 (i + 1) _ _ ls (by omega) (by omega) (⟨fun _ j hj => by rcases Nat.lt_succ_iff_lt_or_eq.mp hj with q | q; exact i3.mp (by omega) j q; subst q; exact c26, fun _ => rfl⟩) (by omega) hH (lv_sub hl [0, 1, 2, 3, 4] rfl)
  exact L5 ((nv - 0) + 1) 1 0 _ _ ls (by omega) (by omega) (⟨fun _ j hj => absurd hj (Nat.not_lt_zero _), fun _ => rfl⟩) (Nat.lt_succ_self _) hH (lv_sub hl [0, 1, 2, 3, 4] rfl)
set_option maxHeartbeats 4000000 in
set_option maxRecDepth 100000 in
theorem k_X6_join (l : Launch) (X : Cx) (ad : Nat → Nat) (hi : inj 48 ad) (g : PF) (nm fa fb : Nat) (mc rd : Nat → Nat → Nat) (nr : Nat → Nat) (ar : Nat → Nat → Nat) (nb : Nat) (num : Nat → Nat) (lay pev : Nat) (pln : Nat → Nat) (tr : Nat) (hR : rMod X ad ((nm, fa, fb, mc, rd), nr, ar, (nb, num, lay, pev, pln, tr)) g) (p0 p1 : Int32) : Ki l yX6_join wsX6_join zr3 X 48 ad g [.ref (ad 36), .int p0, .int p1] (fun r g' => r = (cs_join p0 p1 ((nm, fa, fb, mc, rd), nr, ar, (nb, num, lay, pev, pln, tr))).1 ∧ rMod X ad (cs_join p0 p1 ((nm, fa, fb, mc, rd), nr, ar, (nb, num, lay, pev, pln, tr))).2 g' ∧ frM g g') := by
  refine Ki.of (cc := cX6_join) (maxL := 4) hi (by decide) rfl (Nat.le_of_ble_eq_true rfl) ?_
  intro p e s m below meth c Q E RET ls hl
  obtain ⟨C0, FX, hH⟩ := E
  have hx := C0.1
  have hb := C0.2.1
  have kiX6 : ∀ w ∈ u_ws RX6 TX6 18, w ∈ wsX6_join := (by decide +kernel)
  have kf35 : Cond.fieldLink RX6 35 "YarnMillModel" "cells" "[I" ∈ wsX6_join := (by decide +kernel)
  have kf38 : Cond.fieldLink RX6 38 "YarnMillModel" "mass" "[I" ∈ wsX6_join := (by decide +kernel)
  have kf41 : Cond.fieldLink RX6 41 "YarnMillModel" "fresh" "[I" ∈ wsX6_join := (by decide +kernel)
  have hl : lv_has ls 4 [(0, .ref (ad 36)), (1, .int p0), (2, .int p1)] := hl
  have fr : ∀ j, (j < 36) → g j = g j := fun j _ => rfl
  obtain ⟨md, ma, mb, ml, mr, mo, cn, ms, fs, nn, pl, pm, f36, f37, f38, f39, f40, f41, f42, f43, f44, f45, f46, f47, hrL, hrR, hrS, hlok, hrok, hsok, hpm⟩ := hR
  have f36 : g 36 = .inr (6, [.int (nI fa), .int (nI fb), .int (nI nm), .ref (ad 37), .ref (ad 38), .ref (ad 39), .ref (ad 40), .ref (ad 41), .ref (ad 42), .ref (ad 43), .ref (ad 44), .ref (ad 45), .int (nI nb), .ref (ad 46), .int (nI lay), .int (nI pm), .ref (ad 47), .int (nI tr)]) := f36
  have hq37 : ∀ j, j < nm → md j = mc j 0 := fun j hj => (hrL.1 j hj).1
  have hq38 : ∀ j, j < nm → ma j = mc j 1 := fun j hj => (hrL.1 j hj).2.1
  have hq39 : ∀ j, j < nm → mb j = mc j 2 := fun j hj => (hrL.1 j hj).2.2.1
  have hq40 : ∀ j, j < nm → ml j = mc j 3 := fun j hj => (hrL.1 j hj).2.2.2.1
  have hq41 : ∀ j, j < nm → mr j = mc j 4 := fun j hj => (hrL.1 j hj).2.2.2.2
  have hmo : ∀ j, j < nm → ∀ r, r < mc j 4 → mo (3 * j + r) = rd j r := hrL.2
  have h6 : nm ≤ 6 := hlok.1
  have hfa : 1 ≤ fa ∧ fa ≤ 10000 := hlok.2.1
  have hfb : 1 ≤ fb ∧ fb ≤ 10000 := hlok.2.2.1
  have hmk : ∀ j, j < nm → mcOk (mc j) ∧ ∀ r, r < mc j 4 → 1 ≤ rd j r ∧ rd j r ≤ 1000 := hlok.2.2.2
  have hcn : ∀ r, r < 8 → cn r = nr r := hrR.1
  have hms : ∀ r, r < 8 → ∀ j, j < nr r → ms (400 * r + j) = ar r j := hrR.2
  have hro : ∀ r, r < 8 → nr r ≤ 400 ∧ ∀ j, j < nr r → ar r j ≤ 1000000 := hrok
  have hnn : ∀ j, j < nb → nn j = num j := hrS.1
  have hper : 0 < lay → pm = pev := hrS.2.1
  have hpl : ∀ j, j < lay * pev → pl j = pln j := hrS.2.2
  obtain ⟨k1, k2, k3, k4, k5, k6, k7⟩ := id hsok
  have k1 : nb ≤ 12 := k1
  have k2 : ∀ j, j < nb → num j ≤ 10000 := k2
  have k3 : 0 < lay → (1 ≤ pev ∧ pev ≤ 6) := k3
  have k4 : lay * pev ≤ 12 := k4
  have k5 : ∀ j, j < lay * pev → pln j ≤ 12 := k5
  have k6 : tr ≤ 100000 := k6
  have k7 : lay ≤ 12 := k7
  refine lv_iload_n hx hb dX6_join_0 rfl (lv_at hl 1 rfl) ?_
  refine rc_Si (rest := []) C0 FX hH (k_X6_isRow l X ad hi _ p0) (va_cwS 1 C0.2.2.2.2 gX6_join_X6_isRow rfl rfl rfl (by decide +kernel) ⟨Nat.le_of_ble_eq_true rfl, Nat.le_of_ble_eq_true rfl⟩) rfl rfl hl.1 (Nat.le_of_ble_eq_true rfl) dX6_join_1 ⟨Nat.le_of_ble_eq_true rfl, Nat.le_of_ble_eq_true rfl⟩ (fun r1 g1c H locs h1 hH => ?_)
  obtain ⟨e1, rfl⟩ := h1
  rw [e1] at hH
  refine rb_eq hx hb 14 dX6_join_4 (by decide) (fun c4 => ?_) (fun c4 => ?_)
  · refine lv_bipush (v := (-2)) hx hb dX6_join_14 (by decide) ?_
    refine RET _ _ _ _ _ _ dX6_join_16 rfl ?_ hH
    refine postM (by unfold cs_join; rw [if_neg (fun z => by first | exact absurd z.1 (by assumption) | exact absurd z.2 (by assumption))]) ⟨_, _, _, _, _, _, _, _, _, _, _, _, f36, f37, f38, f39, f40, f41, f42, f43, f44, f45, f46, f47, hrL, hrR, hrS, hlok, hrok, hsok, hpm⟩ fr
  · obtain ⟨rv, rfl, rv1, rv2, rv3⟩ := rng_nI c4
    refine lv_iload_n hx hb dX6_join_7 rfl (lv_at hl 2 rfl) ?_
    refine rc_Si (rest := []) C0 FX hH (k_X6_isRow l X ad hi _ p1) (va_cwS 1 C0.2.2.2.2 gX6_join_X6_isRow rfl rfl rfl (by decide +kernel) ⟨Nat.le_of_ble_eq_true rfl, Nat.le_of_ble_eq_true rfl⟩) rfl rfl hl.1 (Nat.le_of_ble_eq_true rfl) dX6_join_8 ⟨Nat.le_of_ble_eq_true rfl, Nat.le_of_ble_eq_true rfl⟩ (fun r8 g8c H locs h8 hH => ?_)
    obtain ⟨e8, rfl⟩ := h8
    rw [e8] at hH
    refine rb_ne hx hb 17 dX6_join_11 (by decide) (fun c11 => ?_) (fun c11 => ?_)
    · obtain ⟨ov, rfl, ov1, ov2, ov3⟩ := rng_nI c11
      have hro9 := (hro rv (by omega)).1
      have hra9 := (hro rv (by omega)).2
      have hrb9 := (hro ov (by omega)).2
      have hro8 := (hro ov (by omega)).1
      refine lv_iload_n hx hb dX6_join_17 rfl (lv_at hl 1 rfl) ?_
      refine lv_iload_n hx hb dX6_join_18 rfl (lv_at hl 2 rfl) ?_
      refine ni_ceq hx hb 37 dX6_join_19 (by decide) (by omega) (by omega) (fun c19 => ?_) (fun c19 => ?_)
      · refine lv_bipush (v := (-3)) hx hb dX6_join_37 (by decide) ?_
        refine RET _ _ _ _ _ _ dX6_join_39 rfl ?_ hH
        unfold cs_join
        rw [if_pos (⟨(rng_iff (by omega)).mpr (by omega), (rng_iff (by omega)).mpr (by omega)⟩), tN_nI (by omega), tN_nI (by omega), if_pos c19]
        exact ⟨rfl, ⟨_, _, _, _, _, _, _, _, _, _, _, _, f36, f37, f38, f39, f40, f41, f42, f43, f44, f45, f46, f47, hrL, hrR, hrS, hlok, hrok, hsok, hpm⟩, fr⟩
      · refine lv_aload_n hx hb dX6_join_22 rfl (lv_at hl 0 rfl) ?_
        refine rp_get C0 FX hH 36 (by decide) (ci := 6) (k := 9) f36 rfl kiX6 (by decide) kf35 rfl dX6_join_23 ?_
        refine lv_iload_n hx hb dX6_join_26 rfl (lv_at hl 1 rfl) ?_
        refine rp_iald C0 FX hH 43 (by decide) (v := nr rv) f43 rv (by omega) (by decide) (hcn _ (by omega)) dX6_join_27 ?_
        refine lv_aload_n hx hb dX6_join_28 rfl (lv_at hl 0 rfl) ?_
        refine rp_get C0 FX hH 36 (by decide) (ci := 6) (k := 9) f36 rfl kiX6 (by decide) kf35 rfl dX6_join_29 ?_
        refine lv_iload_n hx hb dX6_join_32 rfl (lv_at hl 2 rfl) ?_
        refine rp_iald C0 FX hH 43 (by decide) (v := nr ov) f43 ov (by omega) (by decide) (hcn _ (by omega)) dX6_join_33 ?_
        refine ni_ceq hx hb 40 dX6_join_34 (by decide) (by omega) (by omega) (fun c34 => ?_) (fun c34 => ?_)
        · refine lv_iconst (v := nI 0) hx hb dX6_join_40 (by decide) ?_
          refine lv_istore_n (lv' := [(3, .int (nI 0)), (0, .ref (ad 36)), (1, .int (nI rv)), (2, .int (nI ov))]) hx hb dX6_join_41 rfl hl (by decide) rfl (fun ls hl => ?_)
          have L42 : ∀ (fu : Nat) (i : Nat) (fx : Nat → Nat) (g1 : PF) (H : Heap) (locs : List Loc) (ls : Array Slot), (i ≤ nr rv) → (∀ j, j < i → fx j = ar rv j + ar ov j) → nr rv - i < fu → WH X 48 ad (pA 48 ad s.heap.size) s g1 H locs → g1 36 = .inr (6, [.int (nI fa), .int (nI fb), .int (nI nm), .ref (ad 37), .ref (ad 38), .ref (ad 39), .ref (ad 40), .ref (ad 41), .ref (ad 42), .ref (ad 43), .ref (ad 44), .ref (ad 45), .int (nI nb), .ref (ad 46), .int (nI lay), .int (nI pm), .ref (ad 47), .int (nI tr)]) → g1 37 = arr X 6 md → g1 38 = arr X 6 ma → g1 39 = arr X 6 mb → g1 40 = arr X 6 ml → g1 41 = arr X 6 mr → g1 42 = arr X 18 mo → g1 43 = arr X 8 cn → g1 44 = arr X 3200 ms → g1 45 = arr X 400 fx → g1 46 = arr X 12 nn → g1 47 = arr X 12 pl → (∀ j, (j < 36) → g1 j = g j) → lv_has ls 4 [(3, .int (nI i)), (0, .ref (ad 36)), (1, .int (nI rv)), (2, .int (nI ov))] → W p l e zr3 s m ([.ref (ad 36), .int (nI rv), .int (nI ov)] : List Value).toArray below meth c H locs 0 0 Q (F0 m 42 ls []) := by
            intro fu
            induction fu with
            | zero =>
              intro i fx g1 H locs ls j1 j6 hm
              exact absurd hm (Nat.not_lt_zero _)
            | succ fu ih =>
              have ih42 := ih; clear ih
              intro i fx g1 H locs ls j1 j6 hm42 hH f36 f37 f38 f39 f40 f41 f42 f43 f44 f45 f46 f47 fr hl
              refine lv_iload_n hx hb dX6_join_42 rfl (lv_at hl 0 rfl) ?_
              refine lv_aload_n hx hb dX6_join_43 rfl (lv_at hl 1 rfl) ?_
              refine rp_get C0 FX hH 36 (by decide) (ci := 6) (k := 9) f36 rfl kiX6 (by decide) kf35 rfl dX6_join_44 ?_
              refine lv_iload_n hx hb dX6_join_47 rfl (lv_at hl 2 rfl) ?_
              refine rp_iald C0 FX hH 43 (by decide) (v := nr rv) f43 rv (by omega) (by decide) (hcn _ (by omega)) dX6_join_48 ?_
              refine ni_cge hx hb 89 dX6_join_49 (by decide) (by omega) (by omega) (fun c49 => ?_) (fun c49 => ?_)
              · refine lv_aload_n hx hb dX6_join_89 rfl (lv_at hl 1 rfl) ?_
                refine lv_iload_n hx hb dX6_join_90 rfl (lv_at hl 2 rfl) ?_
                refine lv_aload_n hx hb dX6_join_91 rfl (lv_at hl 1 rfl) ?_
                refine rp_get C0 FX hH 36 (by decide) (ci := 6) (k := 9) f36 rfl kiX6 (by decide) kf35 rfl dX6_join_92 ?_
                refine lv_iload_n hx hb dX6_join_95 rfl (lv_at hl 2 rfl) ?_
                refine rp_iald C0 FX hH 43 (by decide) (v := nr rv) f43 rv (by omega) (by decide) (hcn _ (by omega)) dX6_join_96 ?_
                refine rc_Vi (rest := []) C0 FX hH 36 (by decide) f36 rfl (k_X6_becomes l X ad hi _ fa fb nm nb lay pm tr cn ms fx f36 f43 f44 f45 rv (nr rv) (by omega) (by omega) (by rw [hcn rv (by omega)]; exact hro9) (fun j hj => by rw [j6 j (by omega)]; have := hra9 j (by omega); have := hrb9 j (by omega); omega)) (cwV 2 C0.2.2.2.2 gX6_join_X6_becomes rfl rfl rfl (by decide +kernel) ⟨Nat.le_of_ble_eq_true rfl, Nat.le_of_ble_eq_true rfl⟩) rfl rfl hl.1 (Nat.le_of_ble_eq_true rfl) dX6_join_97 ⟨Nat.le_of_ble_eq_true rfl, Nat.le_of_ble_eq_true rfl⟩ (fun r97 g97c H locs h97 hH => ?_)
                obtain ⟨hfit, hnot, n97⟩ := h97
                have f36 : g97c 36 = .inr (6, [.int (nI fa), .int (nI fb), .int (nI nm), .ref (ad 37), .ref (ad 38), .ref (ad 39), .ref (ad 40), .ref (ad 41), .ref (ad 42), .ref (ad 43), .ref (ad 44), .ref (ad 45), .int (nI nb), .ref (ad 46), .int (nI lay), .int (nI pm), .ref (ad 47), .int (nI tr)]) := (n97 _ (by decide) (by decide)).trans f36
                have f37 : g97c 37 = arr X 6 md := (n97 _ (by decide) (by decide)).trans f37
                have f38 : g97c 38 = arr X 6 ma := (n97 _ (by decide) (by decide)).trans f38
                have f39 : g97c 39 = arr X 6 mb := (n97 _ (by decide) (by decide)).trans f39
                have f40 : g97c 40 = arr X 6 ml := (n97 _ (by decide) (by decide)).trans f40
                have f41 : g97c 41 = arr X 6 mr := (n97 _ (by decide) (by decide)).trans f41
                have f42 : g97c 42 = arr X 18 mo := (n97 _ (by decide) (by decide)).trans f42
                have f45 : g97c 45 = arr X 400 fx := (n97 _ (by decide) (by decide)).trans f45
                have f46 : g97c 46 = arr X 12 nn := (n97 _ (by decide) (by decide)).trans f46
                have f47 : g97c 47 = arr X 12 pl := (n97 _ (by decide) (by decide)).trans f47
                have fr : ∀ j, (j < 36) → g97c j = g j := fun j a0 => (n97 j (by omega) (by omega)).trans (fr j a0)
                by_cases hf9 : ∀ j, j < (nr rv) → (fx) j ≤ 1000000
                · obtain ⟨rfl, f43, ms8, f44, hm1, hm2⟩ := hfit hf9
                  refine RET _ _ _ _ _ _ dX6_join_100 rfl ?_ hH
                  unfold cs_join
                  rw [if_pos (⟨(rng_iff (by omega)).mpr (by omega), (rng_iff (by omega)).mpr (by omega)⟩), tN_nI (by omega), tN_nI (by omega), if_neg c19]
                  have hFC : ∀ j, j < nr rv → ar rv j + ar ov j ≤ 1000000 := fun j hj => by rw [← j6 j (by omega)]; exact hf9 j hj
                  refine mod_row (n1 := nr rv) (a1 := fun j => ar rv j + ar ov j) rv2 (by unfold sp_join; rw [if_pos (show nr ov = nr rv by omega), if_pos hFC]) ⟨_, _, _, _, _, _, _, _, _, _, _, _, f36, f37, f38, f39, f40, f41, f42, f43, f44, f45, f46, f47, hrL, relR_up hrR hrok rv2 (fun r hr => by by_cases q : r = rv; rw [q, va_up_self, va_up_self]; rw [va_up_ne _ _ q, va_up_ne _ _ q]; exact hcn r hr) (fun j hj => ?_) (fun k hk => hm2 k (by omega)), hrS, hlok, rowsOk_up hrok (by omega) (hFC), hsok, hpm⟩ fr
                  rw [hm1 j hj, j6 j (by omega)]
                · obtain ⟨rfl, f43, f44⟩ := hnot hf9
                  rw [va_up_id] at f43
                  refine RET _ _ _ _ _ _ dX6_join_100 rfl ?_ hH
                  unfold cs_join
                  rw [if_pos (⟨(rng_iff (by omega)).mpr (by omega), (rng_iff (by omega)).mpr (by omega)⟩), tN_nI (by omega), tN_nI (by omega), if_neg c19]
                  exact mod_same rv2 (by unfold sp_join; rw [if_pos (show nr ov = nr rv by omega), if_neg (fun z => hf9 (fun j hj => by rw [j6 j (by omega)]; exact z j hj))]) ⟨_, _, _, _, _, _, _, _, _, _, _, _, f36, f37, f38, f39, f40, f41, f42, f43, f44, f45, f46, f47, hrL, hrR, hrS, hlok, hrok, hsok, hpm⟩ fr
              · refine lv_aload_n hx hb dX6_join_52 rfl (lv_at hl 1 rfl) ?_
                refine rp_get C0 FX hH 36 (by decide) (ci := 6) (k := 11) f36 rfl kiX6 (by decide) kf41 rfl dX6_join_53 ?_
                refine lv_iload_n hx hb dX6_join_56 rfl (lv_at hl 0 rfl) ?_
                refine lv_aload_n hx hb dX6_join_57 rfl (lv_at hl 1 rfl) ?_
                refine rp_get C0 FX hH 36 (by decide) (ci := 6) (k := 10) f36 rfl kiX6 (by decide) kf38 rfl dX6_join_58 ?_
                refine lv_sipush (v := nI 400) hx hb dX6_join_61 (by decide) ?_
                refine lv_iload_n hx hb dX6_join_64 rfl (lv_at hl 2 rfl) ?_
                refine ni_imul hx hb dX6_join_65 ?_
                refine lv_iload_n hx hb dX6_join_66 rfl (lv_at hl 0 rfl) ?_
                refine ni_iadd hx hb dX6_join_67 ?_
                refine rp_iald C0 FX hH 44 (by decide) (v := ar rv i) f44 ((400 * rv) + i) (by omega) (by decide) (hms rv (by omega) _ (by omega)) dX6_join_68 ?_
                refine lv_aload_n hx hb dX6_join_69 rfl (lv_at hl 1 rfl) ?_
                refine rp_get C0 FX hH 36 (by decide) (ci := 6) (k := 10) f36 rfl kiX6 (by decide) kf38 rfl dX6_join_70 ?_
                refine lv_sipush (v := nI 400) hx hb dX6_join_73 (by decide) ?_
                refine lv_iload_n hx hb dX6_join_76 rfl (lv_at hl 3 rfl) ?_
                refine ni_imul hx hb dX6_join_77 ?_
                refine lv_iload_n hx hb dX6_join_78 rfl (lv_at hl 0 rfl) ?_
                refine ni_iadd hx hb dX6_join_79 ?_
                refine rp_iald C0 FX hH 44 (by decide) (v := ar ov i) f44 ((400 * ov) + i) (by omega) (by decide) (hms ov (by omega) _ (by omega)) dX6_join_80 ?_
                refine ni_iadd hx hb dX6_join_81 ?_
                refine rp_iast C0 FX hH 45 (by decide) f45 i ((ar rv i) + (ar ov i)) (by omega) (by decide) dX6_join_82 (fun g2 H locs eq3 nq3 hH => ?_)
                have f45 : g2 45 = arr X 400 (va_up fx i ((ar rv i) + (ar ov i))) := eq3
                have f36 : g2 36 = .inr (6, [.int (nI fa), .int (nI fb), .int (nI nm), .ref (ad 37), .ref (ad 38), .ref (ad 39), .ref (ad 40), .ref (ad 41), .ref (ad 42), .ref (ad 43), .ref (ad 44), .ref (ad 45), .int (nI nb), .ref (ad 46), .int (nI lay), .int (nI pm), .ref (ad 47), .int (nI tr)]) := (nq3 _ (by omega)).trans f36
                have f37 : g2 37 = arr X 6 md := (nq3 _ (by omega)).trans f37
                have f38 : g2 38 = arr X 6 ma := (nq3 _ (by omega)).trans f38
                have f39 : g2 39 = arr X 6 mb := (nq3 _ (by omega)).trans f39
                have f40 : g2 40 = arr X 6 ml := (nq3 _ (by omega)).trans f40
                have f41 : g2 41 = arr X 6 mr := (nq3 _ (by omega)).trans f41
                have f42 : g2 42 = arr X 18 mo := (nq3 _ (by omega)).trans f42
                have f43 : g2 43 = arr X 8 cn := (nq3 _ (by omega)).trans f43
                have f44 : g2 44 = arr X 3200 ms := (nq3 _ (by omega)).trans f44
                have f46 : g2 46 = arr X 12 nn := (nq3 _ (by omega)).trans f46
                have f47 : g2 47 = arr X 12 pl := (nq3 _ (by omega)).trans f47
                have fr : ∀ j, (j < 36) → g2 j = g j := fun j a0 => (nq3 j (by omega)).trans (fr j a0)
                refine lv_iinc (v := nI (i + 1)) (lv' := [(3, .int (nI (i + 1))), (0, .ref (ad 36)), (1, .int (nI rv)), (2, .int (nI ov))]) hx hb dX6_join_83 hl (k := 0) rfl (ni_inc1 _) (by decide) rfl (fun ls hl => ?_)
                refine lv_goto (tgt := 42) hx hb dX6_join_86 (by decide) ?_
                exact ih42 (i + 1) (va_up fx i ((ar rv i) + (ar ov i))) _ _ _ ls (by omega) (fun j h => by by_cases q : j = i; rw [q, va_up_self]; rw [va_up_ne _ _ q]; exact j6 j (by omega)) (by omega) hH f36 f37 f38 f39 f40 f41 f42 f43 f44 f45 f46 f47 fr (lv_sub hl [0, 1, 2, 3] rfl)
          exact L42 ((nr rv - 0) + 1) 0 fs _ _ _ ls (by omega) (fun j h => absurd h (Nat.not_lt_zero _)) (Nat.lt_succ_self _) hH f36 f37 f38 f39 f40 f41 f42 f43 f44 f45 f46 f47 fr (lv_sub hl [0, 1, 2, 3] rfl)
        · refine lv_bipush (v := (-3)) hx hb dX6_join_37 (by decide) ?_
          refine RET _ _ _ _ _ _ dX6_join_39 rfl ?_ hH
          unfold cs_join
          rw [if_pos (⟨(rng_iff (by omega)).mpr (by omega), (rng_iff (by omega)).mpr (by omega)⟩), tN_nI (by omega), tN_nI (by omega), if_neg c19]
          exact mod_same rv2 (by unfold sp_join; rw [if_neg (by show ¬ nr ov = nr rv; omega)]) ⟨_, _, _, _, _, _, _, _, _, _, _, _, f36, f37, f38, f39, f40, f41, f42, f43, f44, f45, f46, f47, hrL, hrR, hrS, hlok, hrok, hsok, hpm⟩ fr
    · refine lv_bipush (v := (-2)) hx hb dX6_join_14 (by decide) ?_
      refine RET _ _ _ _ _ _ dX6_join_16 rfl ?_ hH
      refine postM (by unfold cs_join; rw [if_neg (fun z => by first | exact absurd z.1 (by assumption) | exact absurd z.2 (by assumption))]) ⟨_, _, _, _, _, _, _, _, _, _, _, _, f36, f37, f38, f39, f40, f41, f42, f43, f44, f45, f46, f47, hrL, hrR, hrS, hlok, hrok, hsok, hpm⟩ fr
set_option maxHeartbeats 4000000 in
set_option maxRecDepth 100000 in
theorem k_X6_stretch (l : Launch) (X : Cx) (ad : Nat → Nat) (hi : inj 48 ad) (g : PF) (nm fa fb : Nat) (mc rd : Nat → Nat → Nat) (nr : Nat → Nat) (ar : Nat → Nat → Nat) (nb : Nat) (num : Nat → Nat) (lay pev : Nat) (pln : Nat → Nat) (tr : Nat) (hR : rMod X ad ((nm, fa, fb, mc, rd), nr, ar, (nb, num, lay, pev, pln, tr)) g) (p0 p1 : Int32) : Ki l yX6_stretch wsX6_stretch zr3 X 48 ad g [.ref (ad 36), .int p0, .int p1] (fun r g' => r = (rowOp (sp_stretch p1) p0 ((nm, fa, fb, mc, rd), nr, ar, (nb, num, lay, pev, pln, tr))).1 ∧ rMod X ad (rowOp (sp_stretch p1) p0 ((nm, fa, fb, mc, rd), nr, ar, (nb, num, lay, pev, pln, tr))).2 g' ∧ frM g g') := by
  refine Ki.of (cc := cX6_stretch) (maxL := 6) hi (by decide) rfl (Nat.le_of_ble_eq_true rfl) ?_
  intro p e s m below meth c Q E RET ls hl
  obtain ⟨C0, FX, hH⟩ := E
  have hx := C0.1
  have hb := C0.2.1
  have kl118 := C0.2.2.2.2 (.constantLong RX6 118 (lN 2)) (by decide +kernel)
  have kl120 := C0.2.2.2.2 (.constantLong RX6 120 (lN 8)) (by decide +kernel)
  have kiX6 : ∀ w ∈ u_ws RX6 TX6 18, w ∈ wsX6_stretch := (by decide +kernel)
  have kf35 : Cond.fieldLink RX6 35 "YarnMillModel" "cells" "[I" ∈ wsX6_stretch := (by decide +kernel)
  have kf38 : Cond.fieldLink RX6 38 "YarnMillModel" "mass" "[I" ∈ wsX6_stretch := (by decide +kernel)
  have kf41 : Cond.fieldLink RX6 41 "YarnMillModel" "fresh" "[I" ∈ wsX6_stretch := (by decide +kernel)
  have hl : lv_has ls 6 [(0, .ref (ad 36)), (1, .int p0), (2, .int p1)] := hl
  have fr : ∀ j, (j < 36) → g j = g j := fun j _ => rfl
  obtain ⟨md, ma, mb, ml, mr, mo, cn, ms, fs, nn, pl, pm, f36, f37, f38, f39, f40, f41, f42, f43, f44, f45, f46, f47, hrL, hrR, hrS, hlok, hrok, hsok, hpm⟩ := hR
  have f36 : g 36 = .inr (6, [.int (nI fa), .int (nI fb), .int (nI nm), .ref (ad 37), .ref (ad 38), .ref (ad 39), .ref (ad 40), .ref (ad 41), .ref (ad 42), .ref (ad 43), .ref (ad 44), .ref (ad 45), .int (nI nb), .ref (ad 46), .int (nI lay), .int (nI pm), .ref (ad 47), .int (nI tr)]) := f36
  have hq37 : ∀ j, j < nm → md j = mc j 0 := fun j hj => (hrL.1 j hj).1
  have hq38 : ∀ j, j < nm → ma j = mc j 1 := fun j hj => (hrL.1 j hj).2.1
  have hq39 : ∀ j, j < nm → mb j = mc j 2 := fun j hj => (hrL.1 j hj).2.2.1
  have hq40 : ∀ j, j < nm → ml j = mc j 3 := fun j hj => (hrL.1 j hj).2.2.2.1
  have hq41 : ∀ j, j < nm → mr j = mc j 4 := fun j hj => (hrL.1 j hj).2.2.2.2
  have hmo : ∀ j, j < nm → ∀ r, r < mc j 4 → mo (3 * j + r) = rd j r := hrL.2
  have h6 : nm ≤ 6 := hlok.1
  have hfa : 1 ≤ fa ∧ fa ≤ 10000 := hlok.2.1
  have hfb : 1 ≤ fb ∧ fb ≤ 10000 := hlok.2.2.1
  have hmk : ∀ j, j < nm → mcOk (mc j) ∧ ∀ r, r < mc j 4 → 1 ≤ rd j r ∧ rd j r ≤ 1000 := hlok.2.2.2
  have hcn : ∀ r, r < 8 → cn r = nr r := hrR.1
  have hms : ∀ r, r < 8 → ∀ j, j < nr r → ms (400 * r + j) = ar r j := hrR.2
  have hro : ∀ r, r < 8 → nr r ≤ 400 ∧ ∀ j, j < nr r → ar r j ≤ 1000000 := hrok
  have hnn : ∀ j, j < nb → nn j = num j := hrS.1
  have hper : 0 < lay → pm = pev := hrS.2.1
  have hpl : ∀ j, j < lay * pev → pl j = pln j := hrS.2.2
  obtain ⟨k1, k2, k3, k4, k5, k6, k7⟩ := id hsok
  have k1 : nb ≤ 12 := k1
  have k2 : ∀ j, j < nb → num j ≤ 10000 := k2
  have k3 : 0 < lay → (1 ≤ pev ∧ pev ≤ 6) := k3
  have k4 : lay * pev ≤ 12 := k4
  have k5 : ∀ j, j < lay * pev → pln j ≤ 12 := k5
  have k6 : tr ≤ 100000 := k6
  have k7 : lay ≤ 12 := k7
  refine lv_iload_n hx hb dX6_stretch_0 rfl (lv_at hl 1 rfl) ?_
  refine rc_Si (rest := []) C0 FX hH (k_X6_isRow l X ad hi _ p0) (va_cwS 1 C0.2.2.2.2 gX6_stretch_X6_isRow rfl rfl rfl (by decide +kernel) ⟨Nat.le_of_ble_eq_true rfl, Nat.le_of_ble_eq_true rfl⟩) rfl rfl hl.1 (Nat.le_of_ble_eq_true rfl) dX6_stretch_1 ⟨Nat.le_of_ble_eq_true rfl, Nat.le_of_ble_eq_true rfl⟩ (fun r1 g1c H locs h1 hH => ?_)
  obtain ⟨e1, rfl⟩ := h1
  rw [e1] at hH
  refine rb_eq hx hb 21 dX6_stretch_4 (by decide) (fun c4 => ?_) (fun c4 => ?_)
  · refine lv_bipush (v := (-2)) hx hb dX6_stretch_21 (by decide) ?_
    refine RET _ _ _ _ _ _ dX6_stretch_23 rfl ?_ hH
    exact mod_bad (by assumption) ⟨_, _, _, _, _, _, _, _, _, _, _, _, f36, f37, f38, f39, f40, f41, f42, f43, f44, f45, f46, f47, hrL, hrR, hrS, hlok, hrok, hsok, hpm⟩
  · obtain ⟨rv, rfl, rv1, rv2, rv3⟩ := rng_nI c4
    refine lv_iload_n hx hb dX6_stretch_7 rfl (lv_at hl 2 rfl) ?_
    refine lv_i2l hx hb dX6_stretch_8 rfl ?_
    refine lv_ldc2 hx hb C0.2.2.2.1 kl118 dX6_stretch_9 ?_
    refine lv_ldc2 hx hb C0.2.2.2.1 kl120 dX6_stretch_12 ?_
    refine rc_Si (rest := []) C0 FX hH (k_X6_in_rng l X ad hi _ p1 2 8 (by omega) (by omega)) (va_cwS 3 C0.2.2.2.2 gX6_stretch_X6_in rfl rfl rfl (by decide +kernel) ⟨Nat.le_of_ble_eq_true rfl, Nat.le_of_ble_eq_true rfl⟩) rfl rfl hl.1 (Nat.le_of_ble_eq_true rfl) dX6_stretch_15 ⟨Nat.le_of_ble_eq_true rfl, Nat.le_of_ble_eq_true rfl⟩ (fun r15 g15c H locs h15 hH => ?_)
    obtain ⟨e15, rfl⟩ := h15
    rw [e15] at hH
    refine rb_ne hx hb 24 dX6_stretch_18 (by decide) (fun c18 => ?_) (fun c18 => ?_)
    · obtain ⟨dv, rfl, dv1, dv2, dv3⟩ := rng_nI c18
      have hro9 := (hro rv (by omega)).1
      have hra9 := (hro rv (by omega)).2
      have hnd := Nat.mul_le_mul hro9 dv2
      refine lv_aload_n hx hb dX6_stretch_24 rfl (lv_at hl 0 rfl) ?_
      refine rp_get C0 FX hH 36 (by decide) (ci := 6) (k := 9) f36 rfl kiX6 (by decide) kf35 rfl dX6_stretch_25 ?_
      refine lv_iload_n hx hb dX6_stretch_28 rfl (lv_at hl 1 rfl) ?_
      refine rp_iald C0 FX hH 43 (by decide) (v := nr rv) f43 rv (by omega) (by decide) (hcn _ (by omega)) dX6_stretch_29 ?_
      refine lv_iload_n hx hb dX6_stretch_30 rfl (lv_at hl 2 rfl) ?_
      refine ni_imul hx hb dX6_stretch_31 ?_
      refine lv_sipush (v := nI 400) hx hb dX6_stretch_32 (by decide) ?_
      refine ni_cle hx hb 41 dX6_stretch_35 (by decide) (by omega) (by omega) (fun c35 => ?_) (fun c35 => ?_)
      · refine lv_iconst (v := nI 0) hx hb dX6_stretch_41 (by decide) ?_
        refine lv_istore_n (lv' := [(3, .int (nI 0)), (0, .ref (ad 36)), (1, .int (nI rv)), (2, .int (nI dv))]) hx hb dX6_stretch_42 rfl hl (by decide) rfl (fun ls hl => ?_)
        have L43 : ∀ (fu : Nat) (i : Nat) (fx : Nat → Nat) (g1 : PF) (H : Heap) (locs : List Loc) (ls : Array Slot), (i ≤ nr rv) → (∀ j, j < i * dv → fx j = stf dv (ar rv) j) → nr rv - i < fu → WH X 48 ad (pA 48 ad s.heap.size) s g1 H locs → g1 36 = .inr (6, [.int (nI fa), .int (nI fb), .int (nI nm), .ref (ad 37), .ref (ad 38), .ref (ad 39), .ref (ad 40), .ref (ad 41), .ref (ad 42), .ref (ad 43), .ref (ad 44), .ref (ad 45), .int (nI nb), .ref (ad 46), .int (nI lay), .int (nI pm), .ref (ad 47), .int (nI tr)]) → g1 37 = arr X 6 md → g1 38 = arr X 6 ma → g1 39 = arr X 6 mb → g1 40 = arr X 6 ml → g1 41 = arr X 6 mr → g1 42 = arr X 18 mo → g1 43 = arr X 8 cn → g1 44 = arr X 3200 ms → g1 45 = arr X 400 fx → g1 46 = arr X 12 nn → g1 47 = arr X 12 pl → (∀ j, (j < 36) → g1 j = g j) → lv_has ls 6 [(3, .int (nI i)), (0, .ref (ad 36)), (1, .int (nI rv)), (2, .int (nI dv))] → W p l e zr3 s m ([.ref (ad 36), .int (nI rv), .int (nI dv)] : List Value).toArray below meth c H locs 0 0 Q (F0 m 43 ls []) := by
          intro fu
          induction fu with
          | zero =>
            intro i fx g1 H locs ls j1 j6 hm
            exact absurd hm (Nat.not_lt_zero _)
          | succ fu ih =>
            have ih43 := ih; clear ih
            intro i fx g1 H locs ls j1 j6 hm43 hH f36 f37 f38 f39 f40 f41 f42 f43 f44 f45 f46 f47 fr hl
            refine lv_iload_n hx hb dX6_stretch_43 rfl (lv_at hl 0 rfl) ?_
            refine lv_aload_n hx hb dX6_stretch_44 rfl (lv_at hl 1 rfl) ?_
            refine rp_get C0 FX hH 36 (by decide) (ci := 6) (k := 9) f36 rfl kiX6 (by decide) kf35 rfl dX6_stretch_45 ?_
            refine lv_iload_n hx hb dX6_stretch_48 rfl (lv_at hl 2 rfl) ?_
            refine rp_iald C0 FX hH 43 (by decide) (v := nr rv) f43 rv (by omega) (by decide) (hcn _ (by omega)) dX6_stretch_49 ?_
            refine ni_cge hx hb 118 dX6_stretch_50 (by decide) (by omega) (by omega) (fun c50 => ?_) (fun c50 => ?_)
            · have hin : i = nr rv := by omega
              rw [hin] at j6
              refine lv_aload_n hx hb dX6_stretch_118 rfl (lv_at hl 1 rfl) ?_
              refine lv_iload_n hx hb dX6_stretch_119 rfl (lv_at hl 2 rfl) ?_
              refine lv_aload_n hx hb dX6_stretch_120 rfl (lv_at hl 1 rfl) ?_
              refine rp_get C0 FX hH 36 (by decide) (ci := 6) (k := 9) f36 rfl kiX6 (by decide) kf35 rfl dX6_stretch_121 ?_
              refine lv_iload_n hx hb dX6_stretch_124 rfl (lv_at hl 2 rfl) ?_
              refine rp_iald C0 FX hH 43 (by decide) (v := nr rv) f43 rv (by omega) (by decide) (hcn _ (by omega)) dX6_stretch_125 ?_
              refine lv_iload_n hx hb dX6_stretch_126 rfl (lv_at hl 3 rfl) ?_
              refine ni_imul hx hb dX6_stretch_127 ?_
              refine rc_Vi (rest := []) C0 FX hH 36 (by decide) f36 rfl (k_X6_becomes l X ad hi _ fa fb nm nb lay pm tr cn ms fx f36 f43 f44 f45 rv ((nr rv) * dv) (by omega) (by omega) (by rw [hcn rv (by omega)]; exact hro9) (fun j hj => by rw [j6 j hj]; have := stf_le hra9 dv1 j hj; omega)) (cwV 2 C0.2.2.2.2 gX6_stretch_X6_becomes rfl rfl rfl (by decide +kernel) ⟨Nat.le_of_ble_eq_true rfl, Nat.le_of_ble_eq_true rfl⟩) rfl rfl hl.1 (Nat.le_of_ble_eq_true rfl) dX6_stretch_128 ⟨Nat.le_of_ble_eq_true rfl, Nat.le_of_ble_eq_true rfl⟩ (fun r128 g128c H locs h128 hH => ?_)
              obtain ⟨hfit, hnot, n128⟩ := h128
              have f36 : g128c 36 = .inr (6, [.int (nI fa), .int (nI fb), .int (nI nm), .ref (ad 37), .ref (ad 38), .ref (ad 39), .ref (ad 40), .ref (ad 41), .ref (ad 42), .ref (ad 43), .ref (ad 44), .ref (ad 45), .int (nI nb), .ref (ad 46), .int (nI lay), .int (nI pm), .ref (ad 47), .int (nI tr)]) := (n128 _ (by decide) (by decide)).trans f36
              have f37 : g128c 37 = arr X 6 md := (n128 _ (by decide) (by decide)).trans f37
              have f38 : g128c 38 = arr X 6 ma := (n128 _ (by decide) (by decide)).trans f38
              have f39 : g128c 39 = arr X 6 mb := (n128 _ (by decide) (by decide)).trans f39
              have f40 : g128c 40 = arr X 6 ml := (n128 _ (by decide) (by decide)).trans f40
              have f41 : g128c 41 = arr X 6 mr := (n128 _ (by decide) (by decide)).trans f41
              have f42 : g128c 42 = arr X 18 mo := (n128 _ (by decide) (by decide)).trans f42
              have f45 : g128c 45 = arr X 400 fx := (n128 _ (by decide) (by decide)).trans f45
              have f46 : g128c 46 = arr X 12 nn := (n128 _ (by decide) (by decide)).trans f46
              have f47 : g128c 47 = arr X 12 pl := (n128 _ (by decide) (by decide)).trans f47
              have fr : ∀ j, (j < 36) → g128c j = g j := fun j a0 => (n128 j (by omega) (by omega)).trans (fr j a0)
              by_cases hf9 : ∀ j, j < ((nr rv) * dv) → (fx) j ≤ 1000000
              · obtain ⟨rfl, f43, ms8, f44, hm1, hm2⟩ := hfit hf9
                refine RET _ _ _ _ _ _ dX6_stretch_131 rfl ?_ hH
                refine mod_row (n1 := nr rv * dv) (a1 := stf dv (ar rv)) rv2 (by unfold sp_stretch; rw [if_pos ((rng_iff (by omega)).mpr (by omega)), tN_nI (by omega), if_neg (by show ¬ 400 < nr rv * dv; omega)]) ⟨_, _, _, _, _, _, _, _, _, _, _, _, f36, f37, f38, f39, f40, f41, f42, f43, f44, f45, f46, f47, hrL, relR_up hrR hrok rv2 (fun r hr => by by_cases q : r = rv; rw [q, va_up_self, va_up_self]; rw [va_up_ne _ _ q, va_up_ne _ _ q]; exact hcn r hr) (fun j hj => ?_) (fun k hk => hm2 k (by omega)), hrS, hlok, rowsOk_up hrok (by omega) (stf_le hra9 dv1), hsok, hpm⟩ fr
                rw [hm1 j hj, j6 j (by omega)]
              · obtain ⟨rfl, f43, f44⟩ := hnot hf9
                rw [va_up_id] at f43
                refine RET _ _ _ _ _ _ dX6_stretch_131 rfl ?_ hH
                exact absurd (fun j hj => by rw [j6 j (by omega)]; exact stf_le hra9 dv1 j hj) hf9
            · have hcd := Nat.mul_le_mul_right dv (show i + 1 ≤ nr rv by omega)
              rw [Nat.succ_mul] at hcd
              have hq := hra9 i c50
              have hmd := Nat.mod_lt (ar rv i) (show 0 < dv by omega)
              have hcm := Nat.mul_comm dv i
              refine lv_aload_n hx hb dX6_stretch_53 rfl (lv_at hl 1 rfl) ?_
              refine rp_get C0 FX hH 36 (by decide) (ci := 6) (k := 10) f36 rfl kiX6 (by decide) kf38 rfl dX6_stretch_54 ?_
              refine lv_sipush (v := nI 400) hx hb dX6_stretch_57 (by decide) ?_
              refine lv_iload_n hx hb dX6_stretch_60 rfl (lv_at hl 2 rfl) ?_
              refine ni_imul hx hb dX6_stretch_61 ?_
              refine lv_iload_n hx hb dX6_stretch_62 rfl (lv_at hl 0 rfl) ?_
              refine ni_iadd hx hb dX6_stretch_63 ?_
              refine rp_iald C0 FX hH 44 (by decide) (v := ar rv i) f44 ((400 * rv) + i) (by omega) (by decide) (hms rv (by omega) _ (by omega)) dX6_stretch_64 ?_
              refine lv_istore (lv' := [(4, .int (nI (ar rv i))), (3, .int (nI i)), (0, .ref (ad 36)), (1, .int (nI rv)), (2, .int (nI dv))]) hx hb dX6_stretch_65 hl (by decide) rfl (fun ls hl => ?_)
              refine lv_iconst (v := nI 0) hx hb dX6_stretch_67 (by decide) ?_
              refine lv_istore (lv' := [(5, .int (nI 0)), (4, .int (nI (ar rv i))), (3, .int (nI i)), (0, .ref (ad 36)), (1, .int (nI rv)), (2, .int (nI dv))]) hx hb dX6_stretch_68 hl (by decide) rfl (fun ls hl => ?_)
              have L70 : ∀ (fu : Nat) (jj : Nat) (fy : Nat → Nat) (g2 : PF) (H : Heap) (locs : List Loc) (ls : Array Slot), (jj ≤ dv) → (∀ j, j < i * dv + jj → fy j = stf dv (ar rv) j) → dv - jj < fu → WH X 48 ad (pA 48 ad s.heap.size) s g2 H locs → g2 36 = .inr (6, [.int (nI fa), .int (nI fb), .int (nI nm), .ref (ad 37), .ref (ad 38), .ref (ad 39), .ref (ad 40), .ref (ad 41), .ref (ad 42), .ref (ad 43), .ref (ad 44), .ref (ad 45), .int (nI nb), .ref (ad 46), .int (nI lay), .int (nI pm), .ref (ad 47), .int (nI tr)]) → g2 37 = arr X 6 md → g2 38 = arr X 6 ma → g2 39 = arr X 6 mb → g2 40 = arr X 6 ml → g2 41 = arr X 6 mr → g2 42 = arr X 18 mo → g2 43 = arr X 8 cn → g2 44 = arr X 3200 ms → g2 45 = arr X 400 fy → g2 46 = arr X 12 nn → g2 47 = arr X 12 pl → (∀ j, (j < 36) → g2 j = g j) → lv_has ls 6 [(5, .int (nI jj)), (4, .int (nI (ar rv i))), (3, .int (nI i)), (0, .ref (ad 36)), (1, .int (nI rv)), (2, .int (nI dv))] → W p l e zr3 s m ([.ref (ad 36), .int (nI rv), .int (nI dv)] : List Value).toArray below meth c H locs 0 0 Q (F0 m 70 ls []) := by
                intro fu
                induction fu with
                | zero =>
                  intro jj fy g2 H locs ls m0 m2 hm
                  exact absurd hm (Nat.not_lt_zero _)
                | succ fu ih =>
                  have ih70 := ih; clear ih
                  intro jj fy g2 H locs ls m0 m2 hm70 hH f36 f37 f38 f39 f40 f41 f42 f43 f44 f45 f46 f47 fr hl
                  refine lv_iload hx hb dX6_stretch_70 (lv_at hl 0 rfl) ?_
                  refine lv_iload_n hx hb dX6_stretch_72 rfl (lv_at hl 5 rfl) ?_
                  refine ni_cge hx hb 112 dX6_stretch_73 (by decide) (by omega) (by omega) (fun c73 => ?_) (fun c73 => ?_)
                  · refine lv_iinc (v := nI (i + 1)) (lv' := [(3, .int (nI (i + 1))), (5, .int (nI jj)), (4, .int (nI (ar rv i))), (0, .ref (ad 36)), (1, .int (nI rv)), (2, .int (nI dv))]) hx hb dX6_stretch_112 hl (k := 2) rfl (ni_inc1 _) (by decide) rfl (fun ls hl => ?_)
                    refine lv_goto (tgt := 43) hx hb dX6_stretch_115 (by decide) ?_
                    exact ih43 (i + 1) fy _ _ _ ls (by omega) (fun j h => m2 j (by rw [Nat.succ_mul] at h; omega)) (by omega) hH f36 f37 f38 f39 f40 f41 f42 f43 f44 f45 f46 f47 fr (lv_sub hl [0, 3, 4, 5] rfl)
                  · refine lv_aload_n hx hb dX6_stretch_76 rfl (lv_at hl 3 rfl) ?_
                    refine rp_get C0 FX hH 36 (by decide) (ci := 6) (k := 11) f36 rfl kiX6 (by decide) kf41 rfl dX6_stretch_77 ?_
                    refine lv_iload_n hx hb dX6_stretch_80 rfl (lv_at hl 5 rfl) ?_
                    refine lv_iload_n hx hb dX6_stretch_81 rfl (lv_at hl 2 rfl) ?_
                    refine ni_imul hx hb dX6_stretch_82 ?_
                    refine lv_iload hx hb dX6_stretch_83 (lv_at hl 0 rfl) ?_
                    refine ni_iadd hx hb dX6_stretch_85 ?_
                    refine lv_iload hx hb dX6_stretch_86 (lv_at hl 1 rfl) ?_
                    refine lv_iload_n hx hb dX6_stretch_88 rfl (lv_at hl 5 rfl) ?_
                    refine ni_idiv hx hb (by omega) (by omega) (by omega) dX6_stretch_89 ?_
                    refine lv_iload hx hb dX6_stretch_90 (lv_at hl 0 rfl) ?_
                    refine lv_iload hx hb dX6_stretch_92 (lv_at hl 1 rfl) ?_
                    refine lv_iload_n hx hb dX6_stretch_94 rfl (lv_at hl 5 rfl) ?_
                    refine ni_irem hx hb (by omega) (by omega) (by omega) dX6_stretch_95 ?_
                    refine ni_cge hx hb 103 dX6_stretch_96 (by decide) (by omega) (by omega) (fun c96 => ?_) (fun c96 => ?_)
                    · refine lv_iconst (v := nI 0) hx hb dX6_stretch_103 (by decide) ?_
                      refine ni_iadd hx hb dX6_stretch_104 ?_
                      refine rp_iast C0 FX hH 45 (by decide) f45 ((dv * i) + jj) (((ar rv i) / dv) + 0) (by omega) (by decide) dX6_stretch_105 (fun g3 H locs eq4 nq4 hH => ?_)
                      have f45 : g3 45 = arr X 400 (va_up fy ((dv * i) + jj) (((ar rv i) / dv) + 0)) := eq4
                      have f36 : g3 36 = .inr (6, [.int (nI fa), .int (nI fb), .int (nI nm), .ref (ad 37), .ref (ad 38), .ref (ad 39), .ref (ad 40), .ref (ad 41), .ref (ad 42), .ref (ad 43), .ref (ad 44), .ref (ad 45), .int (nI nb), .ref (ad 46), .int (nI lay), .int (nI pm), .ref (ad 47), .int (nI tr)]) := (nq4 _ (by omega)).trans f36
                      have f37 : g3 37 = arr X 6 md := (nq4 _ (by omega)).trans f37
                      have f38 : g3 38 = arr X 6 ma := (nq4 _ (by omega)).trans f38
                      have f39 : g3 39 = arr X 6 mb := (nq4 _ (by omega)).trans f39
                      have f40 : g3 40 = arr X 6 ml := (nq4 _ (by omega)).trans f40
                      have f41 : g3 41 = arr X 6 mr := (nq4 _ (by omega)).trans f41
                      have f42 : g3 42 = arr X 18 mo := (nq4 _ (by omega)).trans f42
                      have f43 : g3 43 = arr X 8 cn := (nq4 _ (by omega)).trans f43
                      have f44 : g3 44 = arr X 3200 ms := (nq4 _ (by omega)).trans f44
                      have f46 : g3 46 = arr X 12 nn := (nq4 _ (by omega)).trans f46
                      have f47 : g3 47 = arr X 12 pl := (nq4 _ (by omega)).trans f47
                      have fr : ∀ j, (j < 36) → g3 j = g j := fun j a0 => (nq4 j (by omega)).trans (fr j a0)
                      refine lv_iinc (v := nI (jj + 1)) (lv' := [(5, .int (nI (jj + 1))), (4, .int (nI (ar rv i))), (3, .int (nI i)), (0, .ref (ad 36)), (1, .int (nI rv)), (2, .int (nI dv))]) hx hb dX6_stretch_106 hl (k := 0) rfl (ni_inc1 _) (by decide) rfl (fun ls hl => ?_)
                      refine lv_goto (tgt := 70) hx hb dX6_stretch_109 (by decide) ?_
                      exact ih70 (jj + 1) (va_up fy ((dv * i) + jj) (((ar rv i) / dv) + 0)) _ _ _ ls (by omega) (fun j h => by by_cases q : j = dv * i + jj; rw [q, va_up_self, Nat.mul_comm dv i, stf_at (ar rv) c73, if_neg (by omega)]; rw [va_up_ne _ _ q]; exact m2 j (by rw [Nat.mul_comm dv i] at q; omega)) (by omega) hH f36 f37 f38 f39 f40 f41 f42 f43 f44 f45 f46 f47 fr (lv_sub hl [0, 1, 2, 3, 4, 5] rfl)
                    · refine lv_iconst (v := nI 1) hx hb dX6_stretch_99 (by decide) ?_
                      refine lv_goto (tgt := 104) hx hb dX6_stretch_100 (by decide) ?_
                      refine ni_iadd hx hb dX6_stretch_104 ?_
                      refine rp_iast C0 FX hH 45 (by decide) f45 ((dv * i) + jj) (((ar rv i) / dv) + 1) (by omega) (by decide) dX6_stretch_105 (fun g5 H locs eq6 nq6 hH => ?_)
                      have f45 : g5 45 = arr X 400 (va_up fy ((dv * i) + jj) (((ar rv i) / dv) + 1)) := eq6
                      have f36 : g5 36 = .inr (6, [.int (nI fa), .int (nI fb), .int (nI nm), .ref (ad 37), .ref (ad 38), .ref (ad 39), .ref (ad 40), .ref (ad 41), .ref (ad 42), .ref (ad 43), .ref (ad 44), .ref (ad 45), .int (nI nb), .ref (ad 46), .int (nI lay), .int (nI pm), .ref (ad 47), .int (nI tr)]) := (nq6 _ (by omega)).trans f36
                      have f37 : g5 37 = arr X 6 md := (nq6 _ (by omega)).trans f37
                      have f38 : g5 38 = arr X 6 ma := (nq6 _ (by omega)).trans f38
                      have f39 : g5 39 = arr X 6 mb := (nq6 _ (by omega)).trans f39
                      have f40 : g5 40 = arr X 6 ml := (nq6 _ (by omega)).trans f40
                      have f41 : g5 41 = arr X 6 mr := (nq6 _ (by omega)).trans f41
                      have f42 : g5 42 = arr X 18 mo := (nq6 _ (by omega)).trans f42
                      have f43 : g5 43 = arr X 8 cn := (nq6 _ (by omega)).trans f43
                      have f44 : g5 44 = arr X 3200 ms := (nq6 _ (by omega)).trans f44
                      have f46 : g5 46 = arr X 12 nn := (nq6 _ (by omega)).trans f46
                      have f47 : g5 47 = arr X 12 pl := (nq6 _ (by omega)).trans f47
                      have fr : ∀ j, (j < 36) → g5 j = g j := fun j a0 => (nq6 j (by omega)).trans (fr j a0)
                      refine lv_iinc (v := nI (jj + 1)) (lv' := [(5, .int (nI (jj + 1))), (4, .int (nI (ar rv i))), (3, .int (nI i)), (0, .ref (ad 36)), (1, .int (nI rv)), (2, .int (nI dv))]) hx hb dX6_stretch_106 hl (k := 0) rfl (ni_inc1 _) (by decide) rfl (fun ls hl => ?_)
                      refine lv_goto (tgt := 70) hx hb dX6_stretch_109 (by decide) ?_
                      exact ih70 (jj + 1) (va_up fy ((dv * i) + jj) (((ar rv i) / dv) + 1)) _ _ _ ls (by omega) (fun j h => by by_cases q : j = dv * i + jj; rw [q, va_up_self, Nat.mul_comm dv i, stf_at (ar rv) c73, if_pos c96]; rw [va_up_ne _ _ q]; exact m2 j (by rw [Nat.mul_comm dv i] at q; omega)) (by omega) hH f36 f37 f38 f39 f40 f41 f42 f43 f44 f45 f46 f47 fr (lv_sub hl [0, 1, 2, 3, 4, 5] rfl)
              exact L70 ((dv - 0) + 1) 0 fx _ _ _ ls (by omega) (fun j h => j6 j (by omega)) (Nat.lt_succ_self _) hH f36 f37 f38 f39 f40 f41 f42 f43 f44 f45 f46 f47 fr (lv_sub hl [0, 1, 2, 3, 4, 5] rfl)
        exact L43 ((nr rv - 0) + 1) 0 fs _ _ _ ls (by omega) (fun j h => absurd h (by rw [Nat.zero_mul]; exact Nat.not_lt_zero _)) (Nat.lt_succ_self _) hH f36 f37 f38 f39 f40 f41 f42 f43 f44 f45 f46 f47 fr (lv_sub hl [0, 1, 2, 3] rfl)
      · refine lv_bipush (v := (-4)) hx hb dX6_stretch_38 (by decide) ?_
        refine RET _ _ _ _ _ _ dX6_stretch_40 rfl ?_ hH
        exact mod_same rv2 (by unfold sp_stretch; rw [if_pos ((rng_iff (by omega)).mpr (by omega)), tN_nI (by omega), if_pos c35]) ⟨_, _, _, _, _, _, _, _, _, _, _, _, f36, f37, f38, f39, f40, f41, f42, f43, f44, f45, f46, f47, hrL, hrR, hrS, hlok, hrok, hsok, hpm⟩ fr
    · refine lv_bipush (v := (-2)) hx hb dX6_stretch_21 (by decide) ?_
      refine RET _ _ _ _ _ _ dX6_stretch_23 rfl ?_ hH
      exact mod_same rv2 (by unfold sp_stretch; rw [if_neg (by assumption)]) ⟨_, _, _, _, _, _, _, _, _, _, _, _, f36, f37, f38, f39, f40, f41, f42, f43, f44, f45, f46, f47, hrL, hrR, hrS, hlok, hrok, hsok, hpm⟩ fr
theorem and31 (a : Nat) : lN a &&& lN 2147483647 = lN (a % 2147483648) := by
  apply Int64.toBitVec_inj.mp
  show BitVec.ofNat 64 a &&& BitVec.ofNat 64 2147483647 = BitVec.ofNat 64 (a % 2147483648)
  apply BitVec.eq_of_toNat_eq
  rw [BitVec.toNat_and, BitVec.toNat_ofNat, BitVec.toNat_ofNat, BitVec.toNat_ofNat, Nat.mod_eq_of_lt (show 2147483647 < 2 ^ 64 by omega), show 2147483647 = 2 ^ 31 - 1 by omega, Nat.and_two_pow_sub_one_eq_mod]
  omega
set_option maxHeartbeats 4000000 in
set_option maxRecDepth 100000 in
theorem k_X6_draw (l : Launch) (X : Cx) (ad : Nat → Nat) (hi : inj 48 ad) (g : PF) (nm fa fb : Nat) (mc rd : Nat → Nat → Nat) (nr : Nat → Nat) (ar : Nat → Nat → Nat) (nb : Nat) (num : Nat → Nat) (lay pev : Nat) (pln : Nat → Nat) (tr : Nat) (hR : rMod X ad ((nm, fa, fb, mc, rd), nr, ar, (nb, num, lay, pev, pln, tr)) g) (p0 p1 p2 p3 p4 : Int32) : Ki l yX6_draw wsX6_draw zr2 X 48 ad g [.ref (ad 36), .int p0, .int p1, .int p2, .int p3, .int p4] (fun r g' => r = (rowOp (sp_draw p1 p2 p3 p4) p0 ((nm, fa, fb, mc, rd), nr, ar, (nb, num, lay, pev, pln, tr))).1 ∧ rMod X ad (rowOp (sp_draw p1 p2 p3 p4) p0 ((nm, fa, fb, mc, rd), nr, ar, (nb, num, lay, pev, pln, tr))).2 g' ∧ frM g g') := by
  refine Ki.of (cc := cX6_draw) (maxL := 9) hi (by decide) rfl (Nat.le_of_ble_eq_true rfl) ?_
  intro p e s m below meth c Q E RET ls hl
  obtain ⟨C0, FX, hH⟩ := E
  have hx := C0.1
  have hb := C0.2.1
  have kl104 := C0.2.2.2.2 (.constantLong RX6 104 (lN 100)) (by decide +kernel)
  have kl106 := C0.2.2.2.2 (.constantLong RX6 106 (lN 1103515245)) (by decide +kernel)
  have kl108 := C0.2.2.2.2 (.constantLong RX6 108 (lN 12345)) (by decide +kernel)
  have kl110 := C0.2.2.2.2 (.constantLong RX6 110 (lN 2147483647)) (by decide +kernel)
  have kl112 := C0.2.2.2.2 (.constantLong RX6 112 (lN 65536)) (by decide +kernel)
  have kl50 := C0.2.2.2.2 (.constantLong RX6 50 (lN 10000)) (by decide +kernel)
  have kiX6 : ∀ w ∈ u_ws RX6 TX6 18, w ∈ wsX6_draw := (by decide +kernel)
  have kf35 : Cond.fieldLink RX6 35 "YarnMillModel" "cells" "[I" ∈ wsX6_draw := (by decide +kernel)
  have kf38 : Cond.fieldLink RX6 38 "YarnMillModel" "mass" "[I" ∈ wsX6_draw := (by decide +kernel)
  have hl : lv_has ls 9 [(0, .ref (ad 36)), (1, .int p0), (2, .int p1), (3, .int p2), (4, .int p3), (5, .int p4)] := hl
  have fr : ∀ j, (j < 36) → g j = g j := fun j _ => rfl
  obtain ⟨md, ma, mb, ml, mr, mo, cn, ms, fs, nn, pl, pm, f36, f37, f38, f39, f40, f41, f42, f43, f44, f45, f46, f47, hrL, hrR, hrS, hlok, hrok, hsok, hpm⟩ := hR
  have f36 : g 36 = .inr (6, [.int (nI fa), .int (nI fb), .int (nI nm), .ref (ad 37), .ref (ad 38), .ref (ad 39), .ref (ad 40), .ref (ad 41), .ref (ad 42), .ref (ad 43), .ref (ad 44), .ref (ad 45), .int (nI nb), .ref (ad 46), .int (nI lay), .int (nI pm), .ref (ad 47), .int (nI tr)]) := f36
  have hq37 : ∀ j, j < nm → md j = mc j 0 := fun j hj => (hrL.1 j hj).1
  have hq38 : ∀ j, j < nm → ma j = mc j 1 := fun j hj => (hrL.1 j hj).2.1
  have hq39 : ∀ j, j < nm → mb j = mc j 2 := fun j hj => (hrL.1 j hj).2.2.1
  have hq40 : ∀ j, j < nm → ml j = mc j 3 := fun j hj => (hrL.1 j hj).2.2.2.1
  have hq41 : ∀ j, j < nm → mr j = mc j 4 := fun j hj => (hrL.1 j hj).2.2.2.2
  have hmo : ∀ j, j < nm → ∀ r, r < mc j 4 → mo (3 * j + r) = rd j r := hrL.2
  have h6 : nm ≤ 6 := hlok.1
  have hfa : 1 ≤ fa ∧ fa ≤ 10000 := hlok.2.1
  have hfb : 1 ≤ fb ∧ fb ≤ 10000 := hlok.2.2.1
  have hmk : ∀ j, j < nm → mcOk (mc j) ∧ ∀ r, r < mc j 4 → 1 ≤ rd j r ∧ rd j r ≤ 1000 := hlok.2.2.2
  have hcn : ∀ r, r < 8 → cn r = nr r := hrR.1
  have hms : ∀ r, r < 8 → ∀ j, j < nr r → ms (400 * r + j) = ar r j := hrR.2
  have hro : ∀ r, r < 8 → nr r ≤ 400 ∧ ∀ j, j < nr r → ar r j ≤ 1000000 := hrok
  have hnn : ∀ j, j < nb → nn j = num j := hrS.1
  have hper : 0 < lay → pm = pev := hrS.2.1
  have hpl : ∀ j, j < lay * pev → pl j = pln j := hrS.2.2
  obtain ⟨k1, k2, k3, k4, k5, k6, k7⟩ := id hsok
  have k1 : nb ≤ 12 := k1
  have k2 : ∀ j, j < nb → num j ≤ 10000 := k2
  have k3 : 0 < lay → (1 ≤ pev ∧ pev ≤ 6) := k3
  have k4 : lay * pev ≤ 12 := k4
  have k5 : ∀ j, j < lay * pev → pln j ≤ 12 := k5
  have k6 : tr ≤ 100000 := k6
  have k7 : lay ≤ 12 := k7
  refine lv_iload_n hx hb dX6_draw_0 rfl (lv_at hl 1 rfl) ?_
  refine rc_Si (rest := []) C0 FX hH (k_X6_isRow l X ad hi _ p0) (va_cwS 1 C0.2.2.2.2 gX6_draw_X6_isRow rfl rfl rfl (by decide +kernel) ⟨Nat.le_of_ble_eq_true rfl, Nat.le_of_ble_eq_true rfl⟩) rfl rfl hl.1 (Nat.le_of_ble_eq_true rfl) dX6_draw_1 ⟨Nat.le_of_ble_eq_true rfl, Nat.le_of_ble_eq_true rfl⟩ (fun r1 g1c H locs h1 hH => ?_)
  obtain ⟨e1, rfl⟩ := h1
  rw [e1] at hH
  refine rb_eq hx hb 48 dX6_draw_4 (by decide) (fun c4 => ?_) (fun c4 => ?_)
  · refine lv_bipush (v := (-2)) hx hb dX6_draw_48 (by decide) ?_
    refine RET _ _ _ _ _ _ dX6_draw_50 rfl ?_ hH
    exact mod_bad (by assumption) ⟨_, _, _, _, _, _, _, _, _, _, _, _, f36, f37, f38, f39, f40, f41, f42, f43, f44, f45, f46, f47, hrL, hrR, hrS, hlok, hrok, hsok, hpm⟩
  · obtain ⟨rv, rfl, rv1, rv2, rv3⟩ := rng_nI c4
    refine lv_iload_n hx hb dX6_draw_7 rfl (lv_at hl 2 rfl) ?_
    refine lv_i2l hx hb dX6_draw_8 rfl ?_
    refine lv_lconst (v := lN 1) hx hb dX6_draw_9 (by decide) ?_
    refine lv_ldc2 hx hb C0.2.2.2.1 kl104 dX6_draw_10 ?_
    refine rc_Si (rest := []) C0 FX hH (k_X6_in_rng l X ad hi _ p1 1 100 (by omega) (by omega)) (va_cwS 3 C0.2.2.2.2 gX6_draw_X6_in rfl rfl rfl (by decide +kernel) ⟨Nat.le_of_ble_eq_true rfl, Nat.le_of_ble_eq_true rfl⟩) rfl rfl hl.1 (Nat.le_of_ble_eq_true rfl) dX6_draw_13 ⟨Nat.le_of_ble_eq_true rfl, Nat.le_of_ble_eq_true rfl⟩ (fun r13 g13c H locs h13 hH => ?_)
    obtain ⟨e13, rfl⟩ := h13
    rw [e13] at hH
    refine rb_eq hx hb 48 dX6_draw_16 (by decide) (fun c16 => ?_) (fun c16 => ?_)
    · refine lv_bipush (v := (-2)) hx hb dX6_draw_48 (by decide) ?_
      refine RET _ _ _ _ _ _ dX6_draw_50 rfl ?_ hH
      exact mod_same rv2 (by unfold sp_draw; rw [if_neg (fun z => by first | exact absurd z.1 (by assumption) | exact absurd z.2.1 (by assumption) | exact absurd z.2.2.2 (by assumption) | (have z3 := z.2.2.1; rw [tN_nI (by omega)] at z3; exact absurd z3 (by assumption)))]) ⟨_, _, _, _, _, _, _, _, _, _, _, _, f36, f37, f38, f39, f40, f41, f42, f43, f44, f45, f46, f47, hrL, hrR, hrS, hlok, hrok, hsok, hpm⟩ fr
    · obtain ⟨nv, rfl, nv1, nv2, nv3⟩ := rng_nI c16
      refine lv_iload_n hx hb dX6_draw_19 rfl (lv_at hl 3 rfl) ?_
      refine lv_i2l hx hb dX6_draw_20 rfl ?_
      refine lv_lconst (v := lN 0) hx hb dX6_draw_21 (by decide) ?_
      refine lv_ldc2 hx hb C0.2.2.2.1 kl50 dX6_draw_22 ?_
      refine rc_Si (rest := []) C0 FX hH (k_X6_in_rng l X ad hi _ p2 0 10000 (by omega) (by omega)) (va_cwS 3 C0.2.2.2.2 gX6_draw_X6_in rfl rfl rfl (by decide +kernel) ⟨Nat.le_of_ble_eq_true rfl, Nat.le_of_ble_eq_true rfl⟩) rfl rfl hl.1 (Nat.le_of_ble_eq_true rfl) dX6_draw_25 ⟨Nat.le_of_ble_eq_true rfl, Nat.le_of_ble_eq_true rfl⟩ (fun r25 g25c H locs h25 hH => ?_)
      obtain ⟨e25, rfl⟩ := h25
      rw [e25] at hH
      refine rb_eq hx hb 48 dX6_draw_28 (by decide) (fun c28 => ?_) (fun c28 => ?_)
      · refine lv_bipush (v := (-2)) hx hb dX6_draw_48 (by decide) ?_
        refine RET _ _ _ _ _ _ dX6_draw_50 rfl ?_ hH
        exact mod_same rv2 (by unfold sp_draw; rw [if_neg (fun z => by first | exact absurd z.1 (by assumption) | exact absurd z.2.1 (by assumption) | exact absurd z.2.2.2 (by assumption) | (have z3 := z.2.2.1; rw [tN_nI (by omega)] at z3; exact absurd z3 (by assumption)))]) ⟨_, _, _, _, _, _, _, _, _, _, _, _, f36, f37, f38, f39, f40, f41, f42, f43, f44, f45, f46, f47, hrL, hrR, hrS, hlok, hrok, hsok, hpm⟩ fr
      · obtain ⟨mv, rfl, mv1, mv2, mv3⟩ := rng_nI c28
        refine lv_iload hx hb dX6_draw_31 (lv_at hl 4 rfl) ?_
        refine lv_i2l hx hb dX6_draw_33 rfl ?_
        refine lv_lconst (v := lN 0) hx hb dX6_draw_34 (by decide) ?_
        refine lv_iload_n hx hb dX6_draw_35 rfl (lv_at hl 3 rfl) ?_
        refine ni_i2l hx hb (by omega) dX6_draw_36 ?_
        refine rc_Si (rest := []) C0 FX hH (k_X6_in_rng l X ad hi _ p3 0 mv (by omega) (by omega)) (va_cwS 3 C0.2.2.2.2 gX6_draw_X6_in rfl rfl rfl (by decide +kernel) ⟨Nat.le_of_ble_eq_true rfl, Nat.le_of_ble_eq_true rfl⟩) rfl rfl hl.1 (Nat.le_of_ble_eq_true rfl) dX6_draw_37 ⟨Nat.le_of_ble_eq_true rfl, Nat.le_of_ble_eq_true rfl⟩ (fun r37 g37c H locs h37 hH => ?_)
        obtain ⟨e37, rfl⟩ := h37
        rw [e37] at hH
        refine rb_eq hx hb 48 dX6_draw_40 (by decide) (fun c40 => ?_) (fun c40 => ?_)
        · refine lv_bipush (v := (-2)) hx hb dX6_draw_48 (by decide) ?_
          refine RET _ _ _ _ _ _ dX6_draw_50 rfl ?_ hH
          exact mod_same rv2 (by unfold sp_draw; rw [if_neg (fun z => by first | exact absurd z.1 (by assumption) | exact absurd z.2.1 (by assumption) | exact absurd z.2.2.2 (by assumption) | (have z3 := z.2.2.1; rw [tN_nI (by omega)] at z3; exact absurd z3 (by assumption)))]) ⟨_, _, _, _, _, _, _, _, _, _, _, _, f36, f37, f38, f39, f40, f41, f42, f43, f44, f45, f46, f47, hrL, hrR, hrS, hlok, hrok, hsok, hpm⟩ fr
        · obtain ⟨wv, rfl, wv1, wv2, wv3⟩ := rng_nI c40
          refine lv_iload hx hb dX6_draw_43 (lv_at hl 5 rfl) ?_
          refine lv_if_ge (tgt := 51) hx hb dX6_draw_45 (by decide) (fun c45 => ?_) (fun c45 => ?_)
          · obtain ⟨sv, rfl, sv3⟩ := ge0_nI c45
            have hro9 := (hro rv (by omega)).1
            have hra9 := (hro rv (by omega)).2
            refine lv_aload_n hx hb dX6_draw_51 rfl (lv_at hl 0 rfl) ?_
            refine rp_get C0 FX hH 36 (by decide) (ci := 6) (k := 9) f36 rfl kiX6 (by decide) kf35 rfl dX6_draw_52 ?_
            refine lv_iload_n hx hb dX6_draw_55 rfl (lv_at hl 1 rfl) ?_
            refine rp_iald C0 FX hH 43 (by decide) (v := nr rv) f43 rv (by omega) (by decide) (hcn _ (by omega)) dX6_draw_56 ?_
            refine lv_iload_n hx hb dX6_draw_57 rfl (lv_at hl 2 rfl) ?_
            refine ni_iadd hx hb dX6_draw_58 ?_
            refine lv_sipush (v := nI 400) hx hb dX6_draw_59 (by decide) ?_
            refine ni_cle hx hb 68 dX6_draw_62 (by decide) (by omega) (by omega) (fun c62 => ?_) (fun c62 => ?_)
            · refine lv_iload hx hb dX6_draw_68 (lv_at hl 5 rfl) ?_
              refine ni_i2l hx hb (by omega) dX6_draw_70 ?_
              refine lv_lstore (lv' := [(6, .long (lN sv)), (0, .ref (ad 36)), (1, .int (nI rv)), (2, .int (nI nv)), (3, .int (nI mv)), (4, .int (nI wv)), (5, .int (nI sv))]) hx hb dX6_draw_71 hl (by decide) rfl (fun ls hl => ?_)
              refine lv_iconst (v := nI 0) hx hb dX6_draw_73 (by decide) ?_
              refine lv_istore (lv' := [(8, .int (nI 0)), (6, .long (lN sv)), (0, .ref (ad 36)), (1, .int (nI rv)), (2, .int (nI nv)), (3, .int (nI mv)), (4, .int (nI wv)), (5, .int (nI sv))]) hx hb dX6_draw_74 hl (by decide) rfl (fun ls hl => ?_)
              have L76 : ∀ (fu : Nat) (z : Nat) (i : Nat) (cx : Nat → Nat) (mx9 : Nat → Nat) (g1 : PF) (H : Heap) (locs : List Loc) (ls : Array Slot), (i ≤ nv) → (z = lcg sv i) → (z < 2147483648) → (∀ r, r < 8 → cx r = va_up nr rv (nr rv + i) r) → (∀ k, (k < 400 * rv + nr rv ∨ 400 * rv + 400 ≤ k) → mx9 k = ms k) → (∀ j, j < i → mx9 (400 * rv + nr rv + j) = dr mv wv sv j) → nv - i < fu → WH X 48 ad (pA 48 ad s.heap.size) s g1 H locs → g1 36 = .inr (6, [.int (nI fa), .int (nI fb), .int (nI nm), .ref (ad 37), .ref (ad 38), .ref (ad 39), .ref (ad 40), .ref (ad 41), .ref (ad 42), .ref (ad 43), .ref (ad 44), .ref (ad 45), .int (nI nb), .ref (ad 46), .int (nI lay), .int (nI pm), .ref (ad 47), .int (nI tr)]) → g1 37 = arr X 6 md → g1 38 = arr X 6 ma → g1 39 = arr X 6 mb → g1 40 = arr X 6 ml → g1 41 = arr X 6 mr → g1 42 = arr X 18 mo → g1 43 = arr X 8 cx → g1 44 = arr X 3200 mx9 → g1 45 = arr X 400 fs → g1 46 = arr X 12 nn → g1 47 = arr X 12 pl → (∀ j, (j < 36) → g1 j = g j) → lv_has ls 9 [(8, .int (nI i)), (6, .long (lN z)), (0, .ref (ad 36)), (1, .int (nI rv)), (2, .int (nI nv)), (3, .int (nI mv)), (4, .int (nI wv)), (5, .int (nI sv))] → W p l e zr2 s m ([.ref (ad 36), .int (nI rv), .int (nI nv), .int (nI mv), .int (nI wv), .int (nI sv)] : List Value).toArray below meth c H locs 0 0 Q (F0 m 76 ls []) := by
                intro fu
                induction fu with
                | zero =>
                  intro z i cx mx9 g1 H locs ls j1 j2 j3 j4 j5 j6 hm
                  exact absurd hm (Nat.not_lt_zero _)
                | succ fu ih =>
                  have ih76 := ih; clear ih
                  intro z i cx mx9 g1 H locs ls j1 j2 j3 j4 j5 j6 hm76 hH f36 f37 f38 f39 f40 f41 f42 f43 f44 f45 f46 f47 fr hl
                  have hci : cx rv = nr rv + i := by rw [j4 rv (by omega), va_up_self]
                  refine lv_iload hx hb dX6_draw_76 (lv_at hl 0 rfl) ?_
                  refine lv_iload_n hx hb dX6_draw_78 rfl (lv_at hl 4 rfl) ?_
                  refine ni_cge hx hb 151 dX6_draw_79 (by decide) (by omega) (by omega) (fun c79 => ?_) (fun c79 => ?_)
                  · refine lv_aload_n hx hb dX6_draw_151 rfl (lv_at hl 2 rfl) ?_
                    refine rp_get C0 FX hH 36 (by decide) (ci := 6) (k := 9) f36 rfl kiX6 (by decide) kf35 rfl dX6_draw_152 ?_
                    refine lv_iload_n hx hb dX6_draw_155 rfl (lv_at hl 3 rfl) ?_
                    refine rp_iald C0 FX hH 43 (by decide) (v := nr rv + i) f43 rv (by omega) (by decide) hci dX6_draw_156 ?_
                    refine RET _ _ _ _ _ _ dX6_draw_157 rfl ?_ hH
                    rw [show nr rv + i = nr rv + nv by omega]
                    refine mod_row (n1 := nr rv + nv) (a1 := fun j => if j < nr rv then ar rv j else dr mv wv sv (j - nr rv)) rv2 (by unfold sp_draw; rw [if_pos ⟨(rng_iff (by omega)).mpr (by omega), (rng_iff (by omega)).mpr (by omega), (rng_iff (by omega)).mpr (by rw [tN_nI (by omega)]; omega), c45⟩, tN_nI (by omega), tN_nI (by omega), tN_nI (by omega), tN_nI (by omega), if_neg (by show ¬ 400 < nr rv + nv; omega)]) ⟨_, _, _, _, _, _, _, _, _, _, _, _, f36, f37, f38, f39, f40, f41, f42, f43, f44, f45, f46, f47, hrL, relR_up hrR hrok rv2 (fun r hr => by rw [j4 r hr, show i = nv by omega]) ?_ (fun k hk => j5 k (by omega)), hrS, hlok, ?_, hsok, hpm⟩ fr
                    · intro j hj
                      show _ = (if j < nr rv then ar rv j else _)
                      rcases Nat.lt_or_ge j (nr rv) with q | q
                      · rw [if_pos q, j5 (400 * rv + j) (by omega)]; exact hms rv (by omega) j q
                      · rw [if_neg (by omega), ← j6 (j - nr rv) (by omega), show 400 * rv + nr rv + (j - nr rv) = 400 * rv + j by omega]
                    · exact rowsOk_up hrok (by omega) (fun j hj => by
                        show (if j < nr rv then ar rv j else _) ≤ _
                        rcases Nat.lt_or_ge j (nr rv) with q | q
                        · rw [if_pos q]; exact hra9 j q
                        · rw [if_neg (by omega)]; unfold dr; have := Nat.mod_lt (lcg sv (j - nr rv + 1) / 65536) (show 0 < 2 * wv + 1 by omega); omega)
                  · refine lv_lload hx hb dX6_draw_82 (lv_at hl 1 rfl) ?_
                    refine lv_ldc2 hx hb C0.2.2.2.1 kl106 dX6_draw_84 ?_
                    refine ni_lmul hx hb dX6_draw_87 ?_
                    refine lv_ldc2 hx hb C0.2.2.2.1 kl108 dX6_draw_88 ?_
                    refine ni_ladd hx hb dX6_draw_91 ?_
                    refine lv_ldc2 hx hb C0.2.2.2.1 kl110 dX6_draw_92 ?_
                    refine lv_land hx hb dX6_draw_95 ?_
                    rw [and31]
                    refine lv_lstore (lv' := [(6, .long (lN ((((z * 1103515245) + 12345)) % 2147483648))), (8, .int (nI i)), (0, .ref (ad 36)), (1, .int (nI rv)), (2, .int (nI nv)), (3, .int (nI mv)), (4, .int (nI wv)), (5, .int (nI sv))]) hx hb dX6_draw_96 hl (by decide) rfl (fun ls hl => ?_)
                    refine lv_aload_n hx hb dX6_draw_98 rfl (lv_at hl 2 rfl) ?_
                    refine rp_get C0 FX hH 36 (by decide) (ci := 6) (k := 10) f36 rfl kiX6 (by decide) kf38 rfl dX6_draw_99 ?_
                    refine lv_sipush (v := nI 400) hx hb dX6_draw_102 (by decide) ?_
                    refine lv_iload_n hx hb dX6_draw_105 rfl (lv_at hl 3 rfl) ?_
                    refine ni_imul hx hb dX6_draw_106 ?_
                    refine lv_aload_n hx hb dX6_draw_107 rfl (lv_at hl 2 rfl) ?_
                    refine rp_get C0 FX hH 36 (by decide) (ci := 6) (k := 9) f36 rfl kiX6 (by decide) kf35 rfl dX6_draw_108 ?_
                    refine lv_iload_n hx hb dX6_draw_111 rfl (lv_at hl 3 rfl) ?_
                    refine rp_iald C0 FX hH 43 (by decide) (v := nr rv + i) f43 rv (by omega) (by decide) hci dX6_draw_112 ?_
                    refine ni_iadd hx hb dX6_draw_113 ?_
                    refine lv_iload_n hx hb dX6_draw_114 rfl (lv_at hl 5 rfl) ?_
                    refine lv_lload hx hb dX6_draw_115 (lv_at hl 0 rfl) ?_
                    refine lv_ldc2 hx hb C0.2.2.2.1 kl112 dX6_draw_117 ?_
                    refine ni_ldiv hx hb (by omega) (by omega) (by omega) dX6_draw_120 ?_
                    refine lv_iconst (v := nI 2) hx hb dX6_draw_121 (by decide) ?_
                    refine lv_iload hx hb dX6_draw_122 (lv_at hl 6 rfl) ?_
                    refine ni_imul hx hb dX6_draw_124 ?_
                    refine lv_iconst (v := nI 1) hx hb dX6_draw_125 (by decide) ?_
                    refine ni_iadd hx hb dX6_draw_126 ?_
                    refine ni_i2l hx hb (by omega) dX6_draw_127 ?_
                    refine ni_lrem hx hb (by omega) (by omega) (by omega) dX6_draw_128 ?_
                    refine ni_l2i hx hb dX6_draw_129 ?_
                    refine ni_iadd hx hb dX6_draw_130 ?_
                    refine lv_iload hx hb dX6_draw_131 (lv_at hl 6 rfl) ?_
                    refine ni_isub hx hb (by omega) dX6_draw_133 ?_
                    refine rp_iast C0 FX hH 44 (by decide) f44 ((400 * rv) + (nr rv + i)) ((mv + ((((((z * 1103515245) + 12345)) % 2147483648) / 65536) % ((2 * wv) + 1))) - wv) (by omega) (by decide) dX6_draw_134 (fun g2 H locs eq3 nq3 hH => ?_)
                    have f44 : g2 44 = arr X 3200 (va_up mx9 ((400 * rv) + (nr rv + i)) ((mv + ((((((z * 1103515245) + 12345)) % 2147483648) / 65536) % ((2 * wv) + 1))) - wv)) := eq3
                    have f36 : g2 36 = .inr (6, [.int (nI fa), .int (nI fb), .int (nI nm), .ref (ad 37), .ref (ad 38), .ref (ad 39), .ref (ad 40), .ref (ad 41), .ref (ad 42), .ref (ad 43), .ref (ad 44), .ref (ad 45), .int (nI nb), .ref (ad 46), .int (nI lay), .int (nI pm), .ref (ad 47), .int (nI tr)]) := (nq3 _ (by omega)).trans f36
                    have f37 : g2 37 = arr X 6 md := (nq3 _ (by omega)).trans f37
                    have f38 : g2 38 = arr X 6 ma := (nq3 _ (by omega)).trans f38
                    have f39 : g2 39 = arr X 6 mb := (nq3 _ (by omega)).trans f39
                    have f40 : g2 40 = arr X 6 ml := (nq3 _ (by omega)).trans f40
                    have f41 : g2 41 = arr X 6 mr := (nq3 _ (by omega)).trans f41
                    have f42 : g2 42 = arr X 18 mo := (nq3 _ (by omega)).trans f42
                    have f43 : g2 43 = arr X 8 cx := (nq3 _ (by omega)).trans f43
                    have f45 : g2 45 = arr X 400 fs := (nq3 _ (by omega)).trans f45
                    have f46 : g2 46 = arr X 12 nn := (nq3 _ (by omega)).trans f46
                    have f47 : g2 47 = arr X 12 pl := (nq3 _ (by omega)).trans f47
                    have fr : ∀ j, (j < 36) → g2 j = g j := fun j a0 => (nq3 j (by omega)).trans (fr j a0)
                    refine lv_aload_n hx hb dX6_draw_135 rfl (lv_at hl 2 rfl) ?_
                    refine rp_get C0 FX hH 36 (by decide) (ci := 6) (k := 9) f36 rfl kiX6 (by decide) kf35 rfl dX6_draw_136 ?_
                    refine lv_iload_n hx hb dX6_draw_139 rfl (lv_at hl 3 rfl) ?_
                    refine lv_dup2_11 hx hb dX6_draw_140 rfl rfl ?_
                    refine rp_iald C0 FX hH 43 (by decide) (v := nr rv + i) f43 rv (by omega) (by decide) hci dX6_draw_141 ?_
                    refine lv_iconst (v := nI 1) hx hb dX6_draw_142 (by decide) ?_
                    refine ni_iadd hx hb dX6_draw_143 ?_
                    refine rp_iast C0 FX hH 43 (by decide) f43 rv ((nr rv + i) + 1) (by omega) (by decide) dX6_draw_144 (fun g4 H locs eq5 nq5 hH => ?_)
                    have f43 : g4 43 = arr X 8 (va_up cx rv ((nr rv + i) + 1)) := eq5
                    have f36 : g4 36 = .inr (6, [.int (nI fa), .int (nI fb), .int (nI nm), .ref (ad 37), .ref (ad 38), .ref (ad 39), .ref (ad 40), .ref (ad 41), .ref (ad 42), .ref (ad 43), .ref (ad 44), .ref (ad 45), .int (nI nb), .ref (ad 46), .int (nI lay), .int (nI pm), .ref (ad 47), .int (nI tr)]) := (nq5 _ (by omega)).trans f36
                    have f37 : g4 37 = arr X 6 md := (nq5 _ (by omega)).trans f37
                    have f38 : g4 38 = arr X 6 ma := (nq5 _ (by omega)).trans f38
                    have f39 : g4 39 = arr X 6 mb := (nq5 _ (by omega)).trans f39
                    have f40 : g4 40 = arr X 6 ml := (nq5 _ (by omega)).trans f40
                    have f41 : g4 41 = arr X 6 mr := (nq5 _ (by omega)).trans f41
                    have f42 : g4 42 = arr X 18 mo := (nq5 _ (by omega)).trans f42
                    have f44 : g4 44 = arr X 3200 (va_up mx9 ((400 * rv) + (nr rv + i)) ((mv + ((((((z * 1103515245) + 12345)) % 2147483648) / 65536) % ((2 * wv) + 1))) - wv)) := (nq5 _ (by omega)).trans f44
                    have f45 : g4 45 = arr X 400 fs := (nq5 _ (by omega)).trans f45
                    have f46 : g4 46 = arr X 12 nn := (nq5 _ (by omega)).trans f46
                    have f47 : g4 47 = arr X 12 pl := (nq5 _ (by omega)).trans f47
                    have fr : ∀ j, (j < 36) → g4 j = g j := fun j a0 => (nq5 j (by omega)).trans (fr j a0)
                    refine lv_iinc (v := nI (i + 1)) (lv' := [(8, .int (nI (i + 1))), (6, .long (lN ((((z * 1103515245) + 12345)) % 2147483648))), (0, .ref (ad 36)), (1, .int (nI rv)), (2, .int (nI nv)), (3, .int (nI mv)), (4, .int (nI wv)), (5, .int (nI sv))]) hx hb dX6_draw_145 hl (k := 1) rfl (ni_inc1 _) (by decide) rfl (fun ls hl => ?_)
                    refine lv_goto (tgt := 76) hx hb dX6_draw_148 (by decide) ?_
                    exact ih76 ((((z * 1103515245) + 12345)) % 2147483648) (i + 1) (va_up cx rv ((nr rv + i) + 1)) (va_up mx9 ((400 * rv) + (nr rv + i)) ((mv + ((((((z * 1103515245) + 12345)) % 2147483648) / 65536) % ((2 * wv) + 1))) - wv)) _ _ _ ls (by omega) (by rw [j2]; rfl) (by omega) (fun r hr => by by_cases q : r = rv; rw [q, va_up_self, va_up_self]; omega; rw [va_up_ne _ _ q, va_up_ne _ _ q, j4 r hr, va_up_ne _ _ q]) (fun k hk => by rw [va_up_ne _ _ (by omega)]; exact j5 k hk) (fun j h => by by_cases q : j = i; rw [q, show 400 * rv + nr rv + i = 400 * rv + (nr rv + i) by omega, va_up_self]; unfold dr; rw [j2]; rfl; rw [va_up_ne _ _ (by omega)]; exact j6 j (by omega)) (by omega) hH f36 f37 f38 f39 f40 f41 f42 f43 f44 f45 f46 f47 fr (lv_sub hl [0, 1, 2, 3, 4, 5, 6, 7] rfl)
              exact L76 ((nv - 0) + 1) sv 0 cn ms _ _ _ ls (by omega) (by rfl) (by omega) (fun r hr => by rw [Nat.add_zero, va_up_id]; exact hcn r hr) (fun _ _ => rfl) (fun j h => absurd h (Nat.not_lt_zero _)) (Nat.lt_succ_self _) hH f36 f37 f38 f39 f40 f41 f42 f43 f44 f45 f46 f47 fr (lv_sub hl [0, 1, 2, 3, 4, 5, 6, 7] rfl)
            · refine lv_bipush (v := (-4)) hx hb dX6_draw_65 (by decide) ?_
              refine RET _ _ _ _ _ _ dX6_draw_67 rfl ?_ hH
              exact mod_same rv2 (by unfold sp_draw; rw [if_pos ⟨(rng_iff (by omega)).mpr (by omega), (rng_iff (by omega)).mpr (by omega), (rng_iff (by omega)).mpr (by rw [tN_nI (by omega)]; omega), c45⟩, tN_nI (by omega), if_pos (by show 400 < nr rv + nv; omega)]) ⟨_, _, _, _, _, _, _, _, _, _, _, _, f36, f37, f38, f39, f40, f41, f42, f43, f44, f45, f46, f47, hrL, hrR, hrS, hlok, hrok, hsok, hpm⟩ fr
          · refine lv_bipush (v := (-2)) hx hb dX6_draw_48 (by decide) ?_
            refine RET _ _ _ _ _ _ dX6_draw_50 rfl ?_ hH
            exact mod_same rv2 (by unfold sp_draw; rw [if_neg (fun z => by first | exact absurd z.1 (by assumption) | exact absurd z.2.1 (by assumption) | exact absurd z.2.2.2 (by assumption) | (have z3 := z.2.2.1; rw [tN_nI (by omega)] at z3; exact absurd z3 (by assumption)))]) ⟨_, _, _, _, _, _, _, _, _, _, _, _, f36, f37, f38, f39, f40, f41, f42, f43, f44, f45, f46, f47, hrL, hrR, hrS, hlok, hrok, hsok, hpm⟩ fr
