set_option maxHeartbeats 4000000 in
set_option maxRecDepth 100000 in
theorem k_X6_nextBale (l : Launch) (X : Cx) (ad : Nat → Nat) (hi : inj 48 ad) (g : PF) (fa fb nm nb lay pm tr : Nat) (pl : Nat → Nat) (f36 : g 36 = .inr (6, [.int (nI fa), .int (nI fb), .int (nI nm), .ref (ad 37), .ref (ad 38), .ref (ad 39), .ref (ad 40), .ref (ad 41), .ref (ad 42), .ref (ad 43), .ref (ad 44), .ref (ad 45), .int (nI nb), .ref (ad 46), .int (nI lay), .int (nI pm), .ref (ad 47), .int (nI tr)])) (f47 : g 47 = arr X 12 pl) (f pv : Nat) (hf : f ≤ nb) (hnb : nb ≤ 12) (hpv : pv ≤ 12) (hpb : ∀ j, j < pv → pl j ≤ 12) : Ki l yX6_nextBale wsX6_nextBale zr0 X 48 ad g [.ref (ad 36), .int (nI f), .int (nI pv)] (fun r g' => g' = g ∧ r = nI (lfr pl pv (nb - f) f)) := by
  refine Ki.of (cc := cX6_nextBale) (maxL := 6) hi (by decide) rfl (Nat.le_of_ble_eq_true rfl) ?_
  intro p e s m below meth c Q E RET ls hl
  obtain ⟨C0, FX, hH⟩ := E
  have hx := C0.1
  have hb := C0.2.1
  have kiX6 : ∀ w ∈ u_ws RX6 TX6 18, w ∈ wsX6_nextBale := (by decide +kernel)
  have kf149 : Cond.fieldLink RX6 149 "YarnMillModel" "bales" "I" ∈ wsX6_nextBale := (by decide +kernel)
  have kf47 : Cond.fieldLink RX6 47 "YarnMillModel" "plan" "[I" ∈ wsX6_nextBale := (by decide +kernel)
  have hl : lv_has ls 6 [(0, .ref (ad 36)), (1, .int (nI f)), (2, .int (nI pv))] := hl
  refine lv_iload_n hx hb dX6_nextBale_0 rfl (lv_at hl 1 rfl) ?_
  refine lv_istore_n (lv' := [(3, .int (nI f)), (0, .ref (ad 36)), (1, .int (nI f)), (2, .int (nI pv))]) hx hb dX6_nextBale_1 rfl hl (by decide) rfl (fun ls hl => ?_)
  refine lv_iconst (v := nI 1) hx hb dX6_nextBale_2 (by decide) ?_
  refine lv_istore (lv' := [(4, .int (nI 1)), (3, .int (nI f)), (0, .ref (ad 36)), (1, .int (nI f)), (2, .int (nI pv))]) hx hb dX6_nextBale_3 hl (by decide) rfl (fun ls hl => ?_)
  have L5 : ∀ (fu : Nat) (b9 : Nat) (us : Nat) (ls : Array Slot), (f ≤ b9) → (b9 ≤ nb) → (us ≤ 1) → ((us = 1 → lfr pl pv (nb - f) f = lfr pl pv (nb - b9) b9) ∧ (us = 0 → lfr pl pv (nb - f) f = b9)) → 2 * (nb - b9) + us < fu → lv_has ls 6 [(4, .int (nI us)), (3, .int (nI b9)), (0, .ref (ad 36)), (1, .int (nI f)), (2, .int (nI pv))] → W p l e zr0 s m ([.ref (ad 36), .int (nI f), .int (nI pv)] : List Value).toArray below meth c s.heap [] 0 0 Q (F0 m 5 ls []) := by
    intro fu
    induction fu with
    | zero =>
      intro b9 us  ls i1 i2 i3 i4 hm
      exact absurd hm (Nat.not_lt_zero _)
    | succ fu ih =>
      have ih5 := ih; clear ih
      intro b9 us  ls i1 i2 i3 i4 hm5  hl
      refine lv_iload hx hb dX6_nextBale_5 (lv_at hl 0 rfl) ?_
      refine ni_eq0 hx hb 75 dX6_nextBale_7 (by decide) (by omega) (fun c7 => ?_) (fun c7 => ?_)
      · refine lv_iload_n hx hb dX6_nextBale_75 rfl (lv_at hl 1 rfl) ?_
        refine RET _ _ _ _ _ _ dX6_nextBale_76 rfl ?_ hH
        refine ⟨rfl, ?_⟩
        rw [i4.2 c7]
      · refine lv_iload_n hx hb dX6_nextBale_10 rfl (lv_at hl 1 rfl) ?_
        refine lv_aload_n hx hb dX6_nextBale_11 rfl (lv_at hl 2 rfl) ?_
        refine rp_get C0 FX hH 36 (by decide) (ci := 6) (k := 12) f36 rfl kiX6 (by decide) kf149 rfl dX6_nextBale_12 ?_
        refine ni_cge hx hb 75 dX6_nextBale_15 (by decide) (by omega) (by omega) (fun c15 => ?_) (fun c15 => ?_)
        · refine lv_iload_n hx hb dX6_nextBale_75 rfl (lv_at hl 1 rfl) ?_
          refine RET _ _ _ _ _ _ dX6_nextBale_76 rfl ?_ hH
          refine ⟨rfl, ?_⟩
          rw [i4.1 (by omega), show nb - b9 = 0 by omega]; rfl
        · refine lv_iconst (v := nI 0) hx hb dX6_nextBale_18 (by decide) ?_
          refine lv_istore (lv' := [(4, .int (nI 0)), (3, .int (nI b9)), (0, .ref (ad 36)), (1, .int (nI f)), (2, .int (nI pv))]) hx hb dX6_nextBale_19 hl (by decide) rfl (fun ls hl => ?_)
          refine lv_iconst (v := nI 0) hx hb dX6_nextBale_21 (by decide) ?_
          refine lv_istore (lv' := [(5, .int (nI 0)), (4, .int (nI 0)), (3, .int (nI b9)), (0, .ref (ad 36)), (1, .int (nI f)), (2, .int (nI pv))]) hx hb dX6_nextBale_22 hl (by decide) rfl (fun ls hl => ?_)
          have L24 : ∀ (fu : Nat) (u2 : Nat) (k9 : Nat) (ls : Array Slot), (k9 ≤ pv) → (u2 ≤ 1) → (u2 = 0 ↔ ∀ j, j < k9 → pl j ≠ b9) → pv - k9 < fu → lv_has ls 6 [(5, .int (nI k9)), (4, .int (nI u2)), (3, .int (nI b9)), (0, .ref (ad 36)), (1, .int (nI f)), (2, .int (nI pv))] → W p l e zr0 s m ([.ref (ad 36), .int (nI f), .int (nI pv)] : List Value).toArray below meth c s.heap [] 0 0 Q (F0 m 24 ls []) := by
            intro fu
            induction fu with
            | zero =>
              intro u2 k9  ls j1 j2 j3 hm
              exact absurd hm (Nat.not_lt_zero _)
            | succ fu ih =>
              have ih24 := ih; clear ih
              intro u2 k9  ls j1 j2 j3 hm24  hl
              have hq := hpb k9
              refine lv_iload hx hb dX6_nextBale_24 (lv_at hl 0 rfl) ?_
              refine lv_iload_n hx hb dX6_nextBale_26 rfl (lv_at hl 5 rfl) ?_
              refine ni_cge hx hb 59 dX6_nextBale_27 (by decide) (by omega) (by omega) (fun c27 => ?_) (fun c27 => ?_)
              · refine lv_iload_n hx hb dX6_nextBale_59 rfl (lv_at hl 2 rfl) ?_
                refine lv_iload hx hb dX6_nextBale_60 (lv_at hl 1 rfl) ?_
                refine ni_eq0 hx hb 69 dX6_nextBale_62 (by decide) (by omega) (fun c62 => ?_) (fun c62 => ?_)
                · refine lv_iconst (v := nI 0) hx hb dX6_nextBale_69 (by decide) ?_
                  refine ni_iadd hx hb dX6_nextBale_70 ?_
                  refine lv_istore_n (lv' := [(3, .int (nI (b9 + 0))), (5, .int (nI k9)), (4, .int (nI u2)), (0, .ref (ad 36)), (1, .int (nI f)), (2, .int (nI pv))]) hx hb dX6_nextBale_71 rfl hl (by decide) rfl (fun ls hl => ?_)
                  refine lv_goto (tgt := 5) hx hb dX6_nextBale_72 (by decide) ?_
                  exact ih5 (b9 + 0) u2 ls (by omega) (by omega) (by omega) (⟨fun q => absurd q (by omega), fun _ => by rw [i4.1 (by omega), show nb - b9 = (nb - (b9 + 1)) + 1 by omega]; show (if fre pl pv b9 then _ else _) = _; rw [if_pos (fun j hj => j3.mp c62 j (by omega))]; rfl⟩) (by omega) (lv_sub hl [2, 0, 3, 4, 5] rfl)
                · refine lv_iconst (v := nI 1) hx hb dX6_nextBale_65 (by decide) ?_
                  refine lv_goto (tgt := 70) hx hb dX6_nextBale_66 (by decide) ?_
                  refine ni_iadd hx hb dX6_nextBale_70 ?_
                  refine lv_istore_n (lv' := [(3, .int (nI (b9 + 1))), (5, .int (nI k9)), (4, .int (nI u2)), (0, .ref (ad 36)), (1, .int (nI f)), (2, .int (nI pv))]) hx hb dX6_nextBale_71 rfl hl (by decide) rfl (fun ls hl => ?_)
                  refine lv_goto (tgt := 5) hx hb dX6_nextBale_72 (by decide) ?_
                  exact ih5 (b9 + 1) u2 ls (by omega) (by omega) (by omega) (⟨fun q => by rw [i4.1 (by omega), show nb - b9 = (nb - (b9 + 1)) + 1 by omega]; show (if fre pl pv b9 then _ else _) = _; rw [if_neg (fun q2 => by have := j3.mpr (fun j hj => q2 j (by omega)); omega)], fun q => absurd q (by omega)⟩) (by omega) (lv_sub hl [2, 0, 3, 4, 5] rfl)
              · refine lv_iload hx hb dX6_nextBale_30 (lv_at hl 1 rfl) ?_
                refine ni_ne0 hx hb 46 dX6_nextBale_32 (by decide) (by omega) (fun c32 => ?_) (fun c32 => ?_)
                · refine lv_iconst (v := nI 1) hx hb dX6_nextBale_46 (by decide) ?_
                  refine lv_goto (tgt := 51) hx hb dX6_nextBale_47 (by decide) ?_
                  refine lv_istore (lv' := [(4, .int (nI 1)), (5, .int (nI k9)), (3, .int (nI b9)), (0, .ref (ad 36)), (1, .int (nI f)), (2, .int (nI pv))]) hx hb dX6_nextBale_51 hl (by decide) rfl (fun ls hl => ?_)
                  refine lv_iinc (v := nI (k9 + 1)) (lv' := [(5, .int (nI (k9 + 1))), (4, .int (nI 1)), (3, .int (nI b9)), (0, .ref (ad 36)), (1, .int (nI f)), (2, .int (nI pv))]) hx hb dX6_nextBale_53 hl (k := 1) rfl (ni_inc1 _) (by decide) rfl (fun ls hl => ?_)
                  refine lv_goto (tgt := 24) hx hb dX6_nextBale_56 (by decide) ?_
                  exact ih24 1 (k9 + 1) ls (by omega) (by omega) (⟨fun q => absurd q (by decide), fun q => by have := j3.mpr (fun j hj => q j (by omega)); omega⟩) (by omega) (lv_sub hl [0, 1, 2, 3, 4, 5] rfl)
                · refine lv_aload_n hx hb dX6_nextBale_35 rfl (lv_at hl 3 rfl) ?_
                  refine rp_get C0 FX hH 36 (by decide) (ci := 6) (k := 16) f36 rfl kiX6 (by decide) kf47 rfl dX6_nextBale_36 ?_
                  refine lv_iload hx hb dX6_nextBale_39 (lv_at hl 0 rfl) ?_
                  refine rp_iald C0 FX hH 47 (by decide) (v := pl k9) f47 k9 (by omega) (by decide) rfl dX6_nextBale_41 ?_
                  refine lv_iload_n hx hb dX6_nextBale_42 rfl (lv_at hl 2 rfl) ?_
                  refine ni_cne hx hb 50 dX6_nextBale_43 (by decide) (by have := hq c27; omega) (by omega) (fun c43 => ?_) (fun c43 => ?_)
                  · refine lv_iconst (v := nI 0) hx hb dX6_nextBale_50 (by decide) ?_
                    refine lv_istore (lv' := [(4, .int (nI 0)), (5, .int (nI k9)), (3, .int (nI b9)), (0, .ref (ad 36)), (1, .int (nI f)), (2, .int (nI pv))]) hx hb dX6_nextBale_51 hl (by decide) rfl (fun ls hl => ?_)
                    refine lv_iinc (v := nI (k9 + 1)) (lv' := [(5, .int (nI (k9 + 1))), (4, .int (nI 0)), (3, .int (nI b9)), (0, .ref (ad 36)), (1, .int (nI f)), (2, .int (nI pv))]) hx hb dX6_nextBale_53 hl (k := 1) rfl (ni_inc1 _) (by decide) rfl (fun ls hl => ?_)
                    refine lv_goto (tgt := 24) hx hb dX6_nextBale_56 (by decide) ?_
                    exact ih24 0 (k9 + 1) ls (by omega) (by omega) (⟨fun _ j hj => by rcases Nat.lt_succ_iff_lt_or_eq.mp hj with q | q; exact j3.mp c32 j q; subst q; exact c43, fun _ => rfl⟩) (by omega) (lv_sub hl [0, 1, 2, 3, 4, 5] rfl)
                  · refine lv_iconst (v := nI 1) hx hb dX6_nextBale_46 (by decide) ?_
                    refine lv_goto (tgt := 51) hx hb dX6_nextBale_47 (by decide) ?_
                    refine lv_istore (lv' := [(4, .int (nI 1)), (5, .int (nI k9)), (3, .int (nI b9)), (0, .ref (ad 36)), (1, .int (nI f)), (2, .int (nI pv))]) hx hb dX6_nextBale_51 hl (by decide) rfl (fun ls hl => ?_)
                    refine lv_iinc (v := nI (k9 + 1)) (lv' := [(5, .int (nI (k9 + 1))), (4, .int (nI 1)), (3, .int (nI b9)), (0, .ref (ad 36)), (1, .int (nI f)), (2, .int (nI pv))]) hx hb dX6_nextBale_53 hl (k := 1) rfl (ni_inc1 _) (by decide) rfl (fun ls hl => ?_)
                    refine lv_goto (tgt := 24) hx hb dX6_nextBale_56 (by decide) ?_
                    exact ih24 1 (k9 + 1) ls (by omega) (by omega) (⟨fun q => absurd q (by decide), fun q => absurd c43 (q k9 (by omega))⟩) (by omega) (lv_sub hl [0, 1, 2, 3, 4, 5] rfl)
          exact L24 ((pv - 0) + 1) 0 0 ls (by omega) (by omega) (⟨fun _ j hj => absurd hj (Nat.not_lt_zero _), fun _ => rfl⟩) (Nat.lt_succ_self _) (lv_sub hl [0, 1, 2, 3, 4, 5] rfl)
  exact L5 ((2 * (nb - f) + 1) + 1) f 1 ls (by omega) (by omega) (by omega) (⟨fun _ => rfl, fun q => absurd q (by decide)⟩) (Nat.lt_succ_self _) (lv_sub hl [0, 1, 2, 3, 4] rfl)
theorem at_n {p n : Nat} (h : n ≤ p + 1) (hp : p < 1000) : (nI p) - (nI n) + nI 1 = nI (p + 1 - n) := by
  rcases Nat.lt_or_ge p n with q | q
  · have e : n = p + 1 := by omega
    subst e
    rw [Nat.sub_self]
    apply Int32.toInt_inj.mp
    have h1 := pk_sub_toInt (a := p) (b := p + 1) (by omega) (by omega)
    rw [Int32.toInt_add, h1, nI_toInt (by omega), nI_toInt (by omega)]
    have : ((p : Int) - ((p + 1 : Nat) : Int) + ((1 : Nat) : Int)) = 0 := by omega
    rw [this]
    rfl
  · rw [pk_sub q, nI_add]
    congr 1
    omega
set_option maxHeartbeats 4000000 in
set_option maxRecDepth 100000 in
theorem k_X6_isWhole (l : Launch) (X : Cx) (ad : Nat → Nat) (hi : inj 48 ad) (g : PF) (fa fb nm nb lay pm tr : Nat) (nn pl num : Nat → Nat) (f36 : g 36 = .inr (6, [.int (nI fa), .int (nI fb), .int (nI nm), .ref (ad 37), .ref (ad 38), .ref (ad 39), .ref (ad 40), .ref (ad 41), .ref (ad 42), .ref (ad 43), .ref (ad 44), .ref (ad 45), .int (nI nb), .ref (ad 46), .int (nI lay), .int (nI pm), .ref (ad 47), .int (nI tr)])) (f47 : g 47 = arr X 12 pl) (f46 : g 46 = arr X 12 nn) (hnn : ∀ j, j < nb → nn j = num j) (hk2 : ∀ j, j < nb → num j ≤ 10000) (pv nv lv hv : Nat) (hnb : nb ≤ 12) (hpv : pv < 12) (hnv : nv ≤ 6) (hnp : nv ≤ pv + 1) (lvb : lv ≤ 10000) (hvb : hv ≤ 10000) (hpb : ∀ j, j < pv + 1 → pl j < nb) : Ki l yX6_isWhole wsX6_isWhole zr1 X 48 ad g [.ref (ad 36), .int (nI pv), .int (nI nv), .int (nI lv), .int (nI hv)] (fun r g' => g' = g ∧ r = bI (nv * lv ≤ wsum num pl pv nv ∧ wsum num pl pv nv ≤ nv * hv)) := by
  refine Ki.of (cc := cX6_isWhole) (maxL := 7) hi (by decide) rfl (Nat.le_of_ble_eq_true rfl) ?_
  intro p e s m below meth c Q E RET ls hl
  obtain ⟨C0, FX, hH⟩ := E
  have hx := C0.1
  have hb := C0.2.1
  have kiX6 : ∀ w ∈ u_ws RX6 TX6 18, w ∈ wsX6_isWhole := (by decide +kernel)
  have kf44 : Cond.fieldLink RX6 44 "YarnMillModel" "number" "[I" ∈ wsX6_isWhole := (by decide +kernel)
  have kf47 : Cond.fieldLink RX6 47 "YarnMillModel" "plan" "[I" ∈ wsX6_isWhole := (by decide +kernel)
  have hl : lv_has ls 7 [(0, .ref (ad 36)), (1, .int (nI pv)), (2, .int (nI nv)), (3, .int (nI lv)), (4, .int (nI hv))] := hl
  have hb1 := Nat.mul_le_mul hnv lvb
  have hb2 := Nat.mul_le_mul hnv hvb
  refine lv_iconst (v := nI 0) hx hb dX6_isWhole_0 (by decide) ?_
  refine lv_istore (lv' := [(5, .int (nI 0)), (0, .ref (ad 36)), (1, .int (nI pv)), (2, .int (nI nv)), (3, .int (nI lv)), (4, .int (nI hv))]) hx hb dX6_isWhole_1 hl (by decide) rfl (fun ls hl => ?_)
  refine lv_iload_n hx hb dX6_isWhole_3 rfl (lv_at hl 2 rfl) ?_
  refine lv_iload_n hx hb dX6_isWhole_4 rfl (lv_at hl 3 rfl) ?_
  refine lv_isub hx hb dX6_isWhole_5 ?_
  refine lv_iconst (v := nI 1) hx hb dX6_isWhole_6 (by decide) ?_
  refine lv_iadd hx hb dX6_isWhole_7 ?_
  rw [at_n (by omega) (by omega)]
  refine lv_istore (lv' := [(6, .int (nI (pv + 1 - nv))), (5, .int (nI 0)), (0, .ref (ad 36)), (1, .int (nI pv)), (2, .int (nI nv)), (3, .int (nI lv)), (4, .int (nI hv))]) hx hb dX6_isWhole_8 hl (by decide) rfl (fun ls hl => ?_)
  have L10 : ∀ (fu : Nat) (S : Nat) (k9 : Nat) (ls : Array Slot), (pv + 1 - nv ≤ k9) → (k9 ≤ pv + 1) → (S = sm (fun j => num (pl (pv + 1 - nv + j))) (k9 - (pv + 1 - nv))) → (S ≤ 10000 * k9) → pv + 1 - k9 < fu → lv_has ls 7 [(6, .int (nI k9)), (5, .int (nI S)), (0, .ref (ad 36)), (1, .int (nI pv)), (2, .int (nI nv)), (3, .int (nI lv)), (4, .int (nI hv))] → W p l e zr1 s m ([.ref (ad 36), .int (nI pv), .int (nI nv), .int (nI lv), .int (nI hv)] : List Value).toArray below meth c s.heap [] 0 0 Q (F0 m 10 ls []) := by
    intro fu
    induction fu with
    | zero =>
      intro S k9  ls i1 i2 i3 i4 hm
      exact absurd hm (Nat.not_lt_zero _)
    | succ fu ih =>
      have ih10 := ih; clear ih
      intro S k9  ls i1 i2 i3 i4 hm10  hl
      have hq := hpb k9
      refine lv_iload hx hb dX6_isWhole_10 (lv_at hl 0 rfl) ?_
      refine lv_iload_n hx hb dX6_isWhole_12 rfl (lv_at hl 3 rfl) ?_
      refine ni_cgt hx hb 39 dX6_isWhole_13 (by decide) (by omega) (by omega) (fun c13 => ?_) (fun c13 => ?_)
      · refine lv_iload hx hb dX6_isWhole_39 (lv_at hl 1 rfl) ?_
        refine ni_i2l hx hb (by omega) dX6_isWhole_41 ?_
        refine lv_iload_n hx hb dX6_isWhole_42 rfl (lv_at hl 4 rfl) ?_
        refine lv_iload_n hx hb dX6_isWhole_43 rfl (lv_at hl 5 rfl) ?_
        refine ni_imul hx hb dX6_isWhole_44 ?_
        refine ni_i2l hx hb (by omega) dX6_isWhole_45 ?_
        refine lv_iload_n hx hb dX6_isWhole_46 rfl (lv_at hl 4 rfl) ?_
        refine lv_iload hx hb dX6_isWhole_47 (lv_at hl 6 rfl) ?_
        refine ni_imul hx hb dX6_isWhole_49 ?_
        refine ni_i2l hx hb (by omega) dX6_isWhole_50 ?_
        refine rc_Si (rest := []) C0 FX hH (k_X6_in_nat l X ad hi _ S (nv * lv) (nv * hv) (by omega) (by omega) (by omega)) (va_cwS 3 C0.2.2.2.2 gX6_isWhole_X6_in rfl rfl rfl (by decide +kernel) ⟨Nat.le_of_ble_eq_true rfl, Nat.le_of_ble_eq_true rfl⟩) rfl rfl hl.1 (Nat.le_of_ble_eq_true rfl) dX6_isWhole_51 ⟨Nat.le_of_ble_eq_true rfl, Nat.le_of_ble_eq_true rfl⟩ (fun r51 g51c H locs h51 hH => ?_)
        obtain ⟨e51, rfl⟩ := h51
        rw [e51] at hH
        refine RET _ _ _ _ _ _ dX6_isWhole_54 bI_nar ?_ hH
        refine ⟨rfl, bI_congr ?_⟩
        rw [i3, show k9 - (pv + 1 - nv) = nv by omega]
        exact Iff.rfl
      · refine lv_iload hx hb dX6_isWhole_16 (lv_at hl 1 rfl) ?_
        refine lv_aload_n hx hb dX6_isWhole_18 rfl (lv_at hl 2 rfl) ?_
        refine rp_get C0 FX hH 36 (by decide) (ci := 6) (k := 13) f36 rfl kiX6 (by decide) kf44 rfl dX6_isWhole_19 ?_
        refine lv_aload_n hx hb dX6_isWhole_22 rfl (lv_at hl 2 rfl) ?_
        refine rp_get C0 FX hH 36 (by decide) (ci := 6) (k := 16) f36 rfl kiX6 (by decide) kf47 rfl dX6_isWhole_23 ?_
        refine lv_iload hx hb dX6_isWhole_26 (lv_at hl 0 rfl) ?_
        refine rp_iald C0 FX hH 47 (by decide) (v := pl k9) f47 k9 (by omega) (by decide) rfl dX6_isWhole_28 ?_
        refine rp_iald C0 FX hH 46 (by decide) (v := num (pl k9)) f46 (pl k9) (by have := hq (by omega); omega) (by decide) (hnn _ (hq (by omega))) dX6_isWhole_29 ?_
        refine ni_iadd hx hb dX6_isWhole_30 ?_
        refine lv_istore (lv' := [(5, .int (nI (S + (num (pl k9))))), (6, .int (nI k9)), (0, .ref (ad 36)), (1, .int (nI pv)), (2, .int (nI nv)), (3, .int (nI lv)), (4, .int (nI hv))]) hx hb dX6_isWhole_31 hl (by decide) rfl (fun ls hl => ?_)
        refine lv_iinc (v := nI (k9 + 1)) (lv' := [(6, .int (nI (k9 + 1))), (5, .int (nI (S + (num (pl k9))))), (0, .ref (ad 36)), (1, .int (nI pv)), (2, .int (nI nv)), (3, .int (nI lv)), (4, .int (nI hv))]) hx hb dX6_isWhole_33 hl (k := 1) rfl (ni_inc1 _) (by decide) rfl (fun ls hl => ?_)
        refine lv_goto (tgt := 10) hx hb dX6_isWhole_36 (by decide) ?_
        exact ih10 (S + (num (pl k9))) (k9 + 1) ls (by omega) (by omega) (by rw [i3, sm_up i1, show pv + 1 - nv + (k9 - (pv + 1 - nv)) = k9 by omega]) (by have := hk2 (pl k9) (hpb k9 (by omega)); omega) (by omega) (lv_sub hl [0, 1, 2, 3, 4, 5, 6] rfl)
  exact L10 ((pv + 1 - (pv + 1 - nv)) + 1) 0 (pv + 1 - nv) ls (by omega) (by omega) (by rw [Nat.sub_self]; rfl) (by omega) (Nat.lt_succ_self _) (lv_sub hl [0, 1, 2, 3, 4, 5, 6] rfl)
