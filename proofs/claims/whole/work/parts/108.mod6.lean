set_option maxHeartbeats 4000000 in
set_option maxRecDepth 100000 in
theorem k_X6_isAbove (l : Launch) (X : Cx) (ad : Nat → Nat) (hi : inj 48 ad) (g : PF) (u b v d : Nat) (hu : u < 2 ^ 62) (hv : v < 2 ^ 62) (hb0 : 0 < b) (hb1 : b ≤ 80000) (hd0 : 0 < d) (hd1 : d ≤ 80000) : Ki l yX6_isAbove wsX6_isAbove zr0 X 48 ad g [.long (lN u), .long (lN b), .long (lN v), .long (lN d)] (fun r g' => g' = g ∧ r = bI (v * b < u * d)) := by
  refine Ki.of (cc := cX6_isAbove) (maxL := 25) hi (by decide) rfl (Nat.le_of_ble_eq_true rfl) ?_
  intro p e s m below meth c Q E RET ls hl
  obtain ⟨C0, FX, hH⟩ := E
  have hx := C0.1
  have hb := C0.2.1
  have hl : lv_has ls 25 [(0, .long (lN u)), (2, .long (lN b)), (4, .long (lN v)), (6, .long (lN d))] := hl
  refine lv_lload_n hx hb dX6_isAbove_0 rfl (lv_at hl 0 rfl) ?_
  refine lv_lstore (lv' := [(8, .long (lN u)), (0, .long (lN u)), (2, .long (lN b)), (4, .long (lN v)), (6, .long (lN d))]) hx hb dX6_isAbove_1 hl (by decide) rfl (fun ls hl => ?_)
  refine lv_lload_n hx hb dX6_isAbove_3 rfl (lv_at hl 2 rfl) ?_
  refine lv_lstore (lv' := [(10, .long (lN b)), (8, .long (lN u)), (0, .long (lN u)), (2, .long (lN b)), (4, .long (lN v)), (6, .long (lN d))]) hx hb dX6_isAbove_4 hl (by decide) rfl (fun ls hl => ?_)
  refine lv_lload hx hb dX6_isAbove_6 (lv_at hl 4 rfl) ?_
  refine lv_lstore (lv' := [(12, .long (lN v)), (10, .long (lN b)), (8, .long (lN u)), (0, .long (lN u)), (2, .long (lN b)), (4, .long (lN v)), (6, .long (lN d))]) hx hb dX6_isAbove_8 hl (by decide) rfl (fun ls hl => ?_)
  refine lv_lload hx hb dX6_isAbove_10 (lv_at hl 6 rfl) ?_
  refine lv_lstore (lv' := [(14, .long (lN d)), (12, .long (lN v)), (10, .long (lN b)), (8, .long (lN u)), (0, .long (lN u)), (2, .long (lN b)), (4, .long (lN v)), (6, .long (lN d))]) hx hb dX6_isAbove_12 hl (by decide) rfl (fun ls hl => ?_)
  refine lv_iconst (v := nI 0) hx hb dX6_isAbove_14 (by decide) ?_
  refine lv_istore (lv' := [(16, .int (nI 0)), (14, .long (lN d)), (12, .long (lN v)), (10, .long (lN b)), (8, .long (lN u)), (0, .long (lN u)), (2, .long (lN b)), (4, .long (lN v)), (6, .long (lN d))]) hx hb dX6_isAbove_15 hl (by decide) rfl (fun ls hl => ?_)
  have L17 : ∀ (fu : Nat) (x : Nat) (y : Nat) (z : Nat) (w : Nat) (tu : Nat) (ls : Array Slot), (0 < y ∧ y < 2 ^ 62) → (0 < w ∧ w < 2 ^ 62) → (x < 2 ^ 62 ∧ z < 2 ^ 62) → (tu ≤ 1) → (v * b < u * d ↔ (if tu = 0 then z * y < x * w else x * w < z * y)) → y < fu → lv_has ls 25 [(16, .int (nI tu)), (14, .long (lN w)), (12, .long (lN z)), (10, .long (lN y)), (8, .long (lN x)), (0, .long (lN u)), (2, .long (lN b)), (4, .long (lN v)), (6, .long (lN d))] → W p l e zr0 s m ([.long (lN u), .long (lN b), .long (lN v), .long (lN d)] : List Value).toArray below meth c s.heap [] 0 0 Q (F0 m 17 ls []) := by
    intro fu
    induction fu with
    | zero =>
      intro x y z w tu  ls i1 i2 i4 i5 i3 hm
      exact absurd hm (Nat.not_lt_zero _)
    | succ fu ih =>
      have ih17 := ih; clear ih
      intro x y z w tu  ls i1 i2 i4 i5 i3 hm17  hl
      have hy0 := i1.1
      have hw0 := i2.1
      have hp1 := Nat.div_le_self x y
      have hp2 := Nat.div_le_self z w
      have hp3 := Nat.div_mul_le_self x y
      have hp4 := Nat.div_mul_le_self z w
      have hr1 := Nat.mod_lt x hy0
      have hr2 := Nat.mod_lt z hw0
      refine lv_lload hx hb dX6_isAbove_17 (lv_at hl 4 rfl) ?_
      refine lv_lload hx hb dX6_isAbove_19 (lv_at hl 3 rfl) ?_
      refine ni_ldiv hx hb (by omega) (by omega) (by omega) dX6_isAbove_21 ?_
      refine lv_lstore (lv' := [(17, .long (lN (x / y))), (16, .int (nI tu)), (14, .long (lN w)), (12, .long (lN z)), (10, .long (lN y)), (8, .long (lN x)), (0, .long (lN u)), (2, .long (lN b)), (4, .long (lN v)), (6, .long (lN d))]) hx hb dX6_isAbove_22 hl (by decide) rfl (fun ls hl => ?_)
      refine lv_lload hx hb dX6_isAbove_24 (lv_at hl 3 rfl) ?_
      refine lv_lload hx hb dX6_isAbove_26 (lv_at hl 2 rfl) ?_
      refine ni_ldiv hx hb (by omega) (by omega) (by omega) dX6_isAbove_28 ?_
      refine lv_lstore (lv' := [(19, .long (lN (z / w))), (17, .long (lN (x / y))), (16, .int (nI tu)), (14, .long (lN w)), (12, .long (lN z)), (10, .long (lN y)), (8, .long (lN x)), (0, .long (lN u)), (2, .long (lN b)), (4, .long (lN v)), (6, .long (lN d))]) hx hb dX6_isAbove_29 hl (by decide) rfl (fun ls hl => ?_)
      refine lv_lload hx hb dX6_isAbove_31 (lv_at hl 1 rfl) ?_
      refine lv_lload hx hb dX6_isAbove_33 (lv_at hl 0 rfl) ?_
      refine nl_eq hx hb 63 dX6_isAbove_35 dX6_isAbove_36 (by decide) (by omega) (by omega) (fun c35 => ?_) (fun c35 => ?_)
      · refine lv_lload hx hb dX6_isAbove_63 (lv_at hl 6 rfl) ?_
        refine lv_lload hx hb dX6_isAbove_65 (lv_at hl 1 rfl) ?_
        refine lv_lload hx hb dX6_isAbove_67 (lv_at hl 5 rfl) ?_
        refine ni_lmul hx hb dX6_isAbove_69 ?_
        refine ni_lsub hx hb (by omega) dX6_isAbove_70 ?_
        rw [sub_mod x y]
        refine lv_lstore (lv' := [(21, .long (lN (x % y))), (19, .long (lN (z / w))), (17, .long (lN (x / y))), (16, .int (nI tu)), (14, .long (lN w)), (12, .long (lN z)), (10, .long (lN y)), (8, .long (lN x)), (0, .long (lN u)), (2, .long (lN b)), (4, .long (lN v)), (6, .long (lN d))]) hx hb dX6_isAbove_71 hl (by decide) rfl (fun ls hl => ?_)
        refine lv_lload hx hb dX6_isAbove_73 (lv_at hl 5 rfl) ?_
        refine lv_lload hx hb dX6_isAbove_75 (lv_at hl 1 rfl) ?_
        refine lv_lload hx hb dX6_isAbove_77 (lv_at hl 4 rfl) ?_
        refine ni_lmul hx hb dX6_isAbove_79 ?_
        refine ni_lsub hx hb (by omega) dX6_isAbove_80 ?_
        rw [sub_mod z w]
        refine lv_lstore (lv' := [(23, .long (lN (z % w))), (21, .long (lN (x % y))), (19, .long (lN (z / w))), (17, .long (lN (x / y))), (16, .int (nI tu)), (14, .long (lN w)), (12, .long (lN z)), (10, .long (lN y)), (8, .long (lN x)), (0, .long (lN u)), (2, .long (lN b)), (4, .long (lN v)), (6, .long (lN d))]) hx hb dX6_isAbove_81 hl (by decide) rfl (fun ls hl => ?_)
        refine lv_lload hx hb dX6_isAbove_83 (lv_at hl 1 rfl) ?_
        refine lv_lconst (v := lN 0) hx hb dX6_isAbove_85 (by decide) ?_
        refine nl_eq hx hb 97 dX6_isAbove_86 dX6_isAbove_87 (by decide) (by omega) (by omega) (fun c86 => ?_) (fun c86 => ?_)
        · refine lv_lload hx hb dX6_isAbove_97 (lv_at hl 1 rfl) ?_
          refine lv_lload hx hb dX6_isAbove_99 (lv_at hl 0 rfl) ?_
          refine nl_eq hx hb 126 dX6_isAbove_101 dX6_isAbove_102 (by decide) (by omega) (by omega) (fun c101 => ?_) (fun c101 => ?_)
          · refine lv_iconst (v := nI 0) hx hb dX6_isAbove_126 (by decide) ?_
            refine RET _ _ _ _ _ _ dX6_isAbove_127 (by decide) ?_ hH
            refine ⟨rfl, ?_⟩
            have h1 := div_cmp (a := x) (b := y) (c := z) (d := w) hy0 hw0
            have h2 := div_cmp (a := z) (b := w) (c := x) (d := y) hw0 hy0
            rw [if_pos c35] at h1
            rw [if_pos c35.symm] at h2
            obtain ⟨a1, a2⟩ := ab0 (R := x % y) (S := z % w) hy0 hw0 (by omega)
            rw [a1] at h1
            rw [a2] at h2
            refine (bI_f (fun zz => ?_)).symm
            have z2 := i3.mp zz
            by_cases ht : tu = 0
            · rw [if_pos ht] at z2; have := h1.mpr z2; omega
            · rw [if_neg ht] at z2; have := h2.mpr z2; omega
          · refine lv_lload hx hb dX6_isAbove_105 (lv_at hl 1 rfl) ?_
            refine lv_lconst (v := lN 0) hx hb dX6_isAbove_107 (by decide) ?_
            refine nl_le hx hb 116 dX6_isAbove_108 dX6_isAbove_109 (by decide) (by omega) (by omega) (fun c108 => ?_) (fun c108 => ?_)
            · refine lv_iconst (v := nI 0) hx hb dX6_isAbove_116 (by decide) ?_
              refine lv_iload hx hb dX6_isAbove_117 (lv_at hl 4 rfl) ?_
              refine ni_ceq hx hb 126 dX6_isAbove_119 (by decide) (by omega) (by omega) (fun c119 => ?_) (fun c119 => ?_)
              · refine lv_iconst (v := nI 0) hx hb dX6_isAbove_126 (by decide) ?_
                refine RET _ _ _ _ _ _ dX6_isAbove_127 (by decide) ?_ hH
                refine ⟨rfl, ?_⟩
                have h1 := div_cmp (a := x) (b := y) (c := z) (d := w) hy0 hw0
                have h2 := div_cmp (a := z) (b := w) (c := x) (d := y) hw0 hy0
                rw [if_pos c35] at h1
                rw [if_pos c35.symm] at h2
                obtain ⟨a1, a2⟩ := ab0 (R := x % y) (S := z % w) hy0 hw0 (by omega)
                rw [a1] at h1
                rw [a2] at h2
                refine (bI_f (fun zz => ?_)).symm
                have z2 := i3.mp zz
                by_cases ht : tu = 0
                · rw [if_pos ht] at z2; have := h1.mpr z2; omega
                · rw [if_neg ht] at z2; have := h2.mpr z2; omega
              · refine lv_iconst (v := nI 1) hx hb dX6_isAbove_122 (by decide) ?_
                refine lv_goto (tgt := 127) hx hb dX6_isAbove_123 (by decide) ?_
                refine RET _ _ _ _ _ _ dX6_isAbove_127 (by decide) ?_ hH
                refine ⟨rfl, ?_⟩
                have h1 := div_cmp (a := x) (b := y) (c := z) (d := w) hy0 hw0
                have h2 := div_cmp (a := z) (b := w) (c := x) (d := y) hw0 hy0
                rw [if_pos c35] at h1
                rw [if_pos c35.symm] at h2
                obtain ⟨a1, a2⟩ := ab0 (R := x % y) (S := z % w) hy0 hw0 (by omega)
                rw [a1] at h1
                rw [a2] at h2
                refine (bI_t (i3.mpr ?_)).symm
                by_cases ht : tu = 0
                · rw [if_pos ht]; exact h1.mp (by omega)
                · rw [if_neg ht]; exact h2.mp (by omega)
            · refine lv_iconst (v := nI 1) hx hb dX6_isAbove_112 (by decide) ?_
              refine lv_goto (tgt := 117) hx hb dX6_isAbove_113 (by decide) ?_
              refine lv_iload hx hb dX6_isAbove_117 (lv_at hl 4 rfl) ?_
              refine ni_ceq hx hb 126 dX6_isAbove_119 (by decide) (by omega) (by omega) (fun c119 => ?_) (fun c119 => ?_)
              · refine lv_iconst (v := nI 0) hx hb dX6_isAbove_126 (by decide) ?_
                refine RET _ _ _ _ _ _ dX6_isAbove_127 (by decide) ?_ hH
                refine ⟨rfl, ?_⟩
                have h1 := div_cmp (a := x) (b := y) (c := z) (d := w) hy0 hw0
                have h2 := div_cmp (a := z) (b := w) (c := x) (d := y) hw0 hy0
                rw [if_pos c35] at h1
                rw [if_pos c35.symm] at h2
                obtain ⟨a1, a2⟩ := ab0 (R := x % y) (S := z % w) hy0 hw0 (by omega)
                rw [a1] at h1
                rw [a2] at h2
                refine (bI_f (fun zz => ?_)).symm
                have z2 := i3.mp zz
                by_cases ht : tu = 0
                · rw [if_pos ht] at z2; have := h1.mpr z2; omega
                · rw [if_neg ht] at z2; have := h2.mpr z2; omega
              · refine lv_iconst (v := nI 1) hx hb dX6_isAbove_122 (by decide) ?_
                refine lv_goto (tgt := 127) hx hb dX6_isAbove_123 (by decide) ?_
                refine RET _ _ _ _ _ _ dX6_isAbove_127 (by decide) ?_ hH
                refine ⟨rfl, ?_⟩
                have h1 := div_cmp (a := x) (b := y) (c := z) (d := w) hy0 hw0
                have h2 := div_cmp (a := z) (b := w) (c := x) (d := y) hw0 hy0
                rw [if_pos c35] at h1
                rw [if_pos c35.symm] at h2
                obtain ⟨a1, a2⟩ := ab0 (R := x % y) (S := z % w) hy0 hw0 (by omega)
                rw [a1] at h1
                rw [a2] at h2
                refine (bI_t (i3.mpr ?_)).symm
                by_cases ht : tu = 0
                · rw [if_pos ht]; exact h1.mp (by omega)
                · rw [if_neg ht]; exact h2.mp (by omega)
        · refine lv_lload hx hb dX6_isAbove_90 (lv_at hl 0 rfl) ?_
          refine lv_lconst (v := lN 0) hx hb dX6_isAbove_92 (by decide) ?_
          refine nl_ne hx hb 128 dX6_isAbove_93 dX6_isAbove_94 (by decide) (by omega) (by omega) (fun c93 => ?_) (fun c93 => ?_)
          · refine lv_lload hx hb dX6_isAbove_128 (lv_at hl 7 rfl) ?_
            refine lv_lstore (lv' := [(8, .long (lN y)), (23, .long (lN (z % w))), (21, .long (lN (x % y))), (19, .long (lN (z / w))), (17, .long (lN (x / y))), (16, .int (nI tu)), (14, .long (lN w)), (12, .long (lN z)), (10, .long (lN y)), (0, .long (lN u)), (2, .long (lN b)), (4, .long (lN v)), (6, .long (lN d))]) hx hb dX6_isAbove_130 hl (by decide) rfl (fun ls hl => ?_)
            refine lv_lload hx hb dX6_isAbove_132 (lv_at hl 2 rfl) ?_
            refine lv_lstore (lv' := [(10, .long (lN (x % y))), (8, .long (lN y)), (23, .long (lN (z % w))), (21, .long (lN (x % y))), (19, .long (lN (z / w))), (17, .long (lN (x / y))), (16, .int (nI tu)), (14, .long (lN w)), (12, .long (lN z)), (0, .long (lN u)), (2, .long (lN b)), (4, .long (lN v)), (6, .long (lN d))]) hx hb dX6_isAbove_134 hl (by decide) rfl (fun ls hl => ?_)
            refine lv_lload hx hb dX6_isAbove_136 (lv_at hl 7 rfl) ?_
            refine lv_lstore (lv' := [(12, .long (lN w)), (10, .long (lN (x % y))), (8, .long (lN y)), (23, .long (lN (z % w))), (21, .long (lN (x % y))), (19, .long (lN (z / w))), (17, .long (lN (x / y))), (16, .int (nI tu)), (14, .long (lN w)), (0, .long (lN u)), (2, .long (lN b)), (4, .long (lN v)), (6, .long (lN d))]) hx hb dX6_isAbove_138 hl (by decide) rfl (fun ls hl => ?_)
            refine lv_lload hx hb dX6_isAbove_140 (lv_at hl 3 rfl) ?_
            refine lv_lstore (lv' := [(14, .long (lN (z % w))), (12, .long (lN w)), (10, .long (lN (x % y))), (8, .long (lN y)), (23, .long (lN (z % w))), (21, .long (lN (x % y))), (19, .long (lN (z / w))), (17, .long (lN (x / y))), (16, .int (nI tu)), (0, .long (lN u)), (2, .long (lN b)), (4, .long (lN v)), (6, .long (lN d))]) hx hb dX6_isAbove_142 hl (by decide) rfl (fun ls hl => ?_)
            refine lv_iload hx hb dX6_isAbove_144 (lv_at hl 8 rfl) ?_
            refine ni_ne0 hx hb 153 dX6_isAbove_146 (by decide) (by omega) (fun c146 => ?_) (fun c146 => ?_)
            · refine lv_iconst (v := nI 0) hx hb dX6_isAbove_153 (by decide) ?_
              refine lv_istore (lv' := [(16, .int (nI 0)), (14, .long (lN (z % w))), (12, .long (lN w)), (10, .long (lN (x % y))), (8, .long (lN y)), (23, .long (lN (z % w))), (21, .long (lN (x % y))), (19, .long (lN (z / w))), (17, .long (lN (x / y))), (0, .long (lN u)), (2, .long (lN b)), (4, .long (lN v)), (6, .long (lN d))]) hx hb dX6_isAbove_154 hl (by decide) rfl (fun ls hl => ?_)
              refine lv_goto (tgt := 17) hx hb dX6_isAbove_156 (by decide) ?_
              exact ih17 y (x % y) w (z % w) 0 ls (⟨by omega, by have := Nat.mod_lt x hy0; omega⟩) (⟨by omega, by have := Nat.mod_lt z hw0; omega⟩) (⟨i1.2, i2.2⟩) (by omega) (by rw [i3]; have h1 := div_cmp (a := x) (b := y) (c := z) (d := w) hy0 hw0; have h2 := div_cmp (a := z) (b := w) (c := x) (d := y) hw0 hy0; rw [if_pos c35] at h1; rw [if_pos c35.symm] at h2; rw [if_neg (by omega), if_pos rfl, ← h2, Nat.mul_comm w, Nat.mul_comm y]) (by have := Nat.mod_lt x hy0; omega) (lv_sub hl [0, 1, 2, 3, 4, 9, 10, 11, 12] rfl)
            · refine lv_iconst (v := nI 1) hx hb dX6_isAbove_149 (by decide) ?_
              refine lv_goto (tgt := 154) hx hb dX6_isAbove_150 (by decide) ?_
              refine lv_istore (lv' := [(16, .int (nI 1)), (14, .long (lN (z % w))), (12, .long (lN w)), (10, .long (lN (x % y))), (8, .long (lN y)), (23, .long (lN (z % w))), (21, .long (lN (x % y))), (19, .long (lN (z / w))), (17, .long (lN (x / y))), (0, .long (lN u)), (2, .long (lN b)), (4, .long (lN v)), (6, .long (lN d))]) hx hb dX6_isAbove_154 hl (by decide) rfl (fun ls hl => ?_)
              refine lv_goto (tgt := 17) hx hb dX6_isAbove_156 (by decide) ?_
              exact ih17 y (x % y) w (z % w) 1 ls (⟨by omega, by have := Nat.mod_lt x hy0; omega⟩) (⟨by omega, by have := Nat.mod_lt z hw0; omega⟩) (⟨i1.2, i2.2⟩) (by omega) (by rw [i3]; have h1 := div_cmp (a := x) (b := y) (c := z) (d := w) hy0 hw0; have h2 := div_cmp (a := z) (b := w) (c := x) (d := y) hw0 hy0; rw [if_pos c35] at h1; rw [if_pos c35.symm] at h2; rw [if_pos c146, if_neg (by decide), ← h1, Nat.mul_comm w, Nat.mul_comm y]) (by have := Nat.mod_lt x hy0; omega) (lv_sub hl [0, 1, 2, 3, 4, 9, 10, 11, 12] rfl)
          · refine lv_lload hx hb dX6_isAbove_97 (lv_at hl 1 rfl) ?_
            refine lv_lload hx hb dX6_isAbove_99 (lv_at hl 0 rfl) ?_
            refine nl_eq hx hb 126 dX6_isAbove_101 dX6_isAbove_102 (by decide) (by omega) (by omega) (fun c101 => ?_) (fun c101 => ?_)
            · refine lv_iconst (v := nI 0) hx hb dX6_isAbove_126 (by decide) ?_
              refine RET _ _ _ _ _ _ dX6_isAbove_127 (by decide) ?_ hH
              refine ⟨rfl, ?_⟩
              have h1 := div_cmp (a := x) (b := y) (c := z) (d := w) hy0 hw0
              have h2 := div_cmp (a := z) (b := w) (c := x) (d := y) hw0 hy0
              rw [if_pos c35] at h1
              rw [if_pos c35.symm] at h2
              obtain ⟨a1, a2⟩ := ab0 (R := x % y) (S := z % w) hy0 hw0 (by omega)
              rw [a1] at h1
              rw [a2] at h2
              refine (bI_f (fun zz => ?_)).symm
              have z2 := i3.mp zz
              by_cases ht : tu = 0
              · rw [if_pos ht] at z2; have := h1.mpr z2; omega
              · rw [if_neg ht] at z2; have := h2.mpr z2; omega
            · refine lv_lload hx hb dX6_isAbove_105 (lv_at hl 1 rfl) ?_
              refine lv_lconst (v := lN 0) hx hb dX6_isAbove_107 (by decide) ?_
              refine nl_le hx hb 116 dX6_isAbove_108 dX6_isAbove_109 (by decide) (by omega) (by omega) (fun c108 => ?_) (fun c108 => ?_)
              · refine lv_iconst (v := nI 0) hx hb dX6_isAbove_116 (by decide) ?_
                refine lv_iload hx hb dX6_isAbove_117 (lv_at hl 4 rfl) ?_
                refine ni_ceq hx hb 126 dX6_isAbove_119 (by decide) (by omega) (by omega) (fun c119 => ?_) (fun c119 => ?_)
                · refine lv_iconst (v := nI 0) hx hb dX6_isAbove_126 (by decide) ?_
                  refine RET _ _ _ _ _ _ dX6_isAbove_127 (by decide) ?_ hH
                  refine ⟨rfl, ?_⟩
                  have h1 := div_cmp (a := x) (b := y) (c := z) (d := w) hy0 hw0
                  have h2 := div_cmp (a := z) (b := w) (c := x) (d := y) hw0 hy0
                  rw [if_pos c35] at h1
                  rw [if_pos c35.symm] at h2
                  obtain ⟨a1, a2⟩ := ab0 (R := x % y) (S := z % w) hy0 hw0 (by omega)
                  rw [a1] at h1
                  rw [a2] at h2
                  refine (bI_f (fun zz => ?_)).symm
                  have z2 := i3.mp zz
                  by_cases ht : tu = 0
                  · rw [if_pos ht] at z2; have := h1.mpr z2; omega
                  · rw [if_neg ht] at z2; have := h2.mpr z2; omega
                · refine lv_iconst (v := nI 1) hx hb dX6_isAbove_122 (by decide) ?_
                  refine lv_goto (tgt := 127) hx hb dX6_isAbove_123 (by decide) ?_
                  refine RET _ _ _ _ _ _ dX6_isAbove_127 (by decide) ?_ hH
                  refine ⟨rfl, ?_⟩
                  have h1 := div_cmp (a := x) (b := y) (c := z) (d := w) hy0 hw0
                  have h2 := div_cmp (a := z) (b := w) (c := x) (d := y) hw0 hy0
                  rw [if_pos c35] at h1
                  rw [if_pos c35.symm] at h2
                  obtain ⟨a1, a2⟩ := ab0 (R := x % y) (S := z % w) hy0 hw0 (by omega)
                  rw [a1] at h1
                  rw [a2] at h2
                  refine (bI_t (i3.mpr ?_)).symm
                  by_cases ht : tu = 0
                  · rw [if_pos ht]; exact h1.mp (by omega)
                  · rw [if_neg ht]; exact h2.mp (by omega)
              · refine lv_iconst (v := nI 1) hx hb dX6_isAbove_112 (by decide) ?_
                refine lv_goto (tgt := 117) hx hb dX6_isAbove_113 (by decide) ?_
                refine lv_iload hx hb dX6_isAbove_117 (lv_at hl 4 rfl) ?_
                refine ni_ceq hx hb 126 dX6_isAbove_119 (by decide) (by omega) (by omega) (fun c119 => ?_) (fun c119 => ?_)
                · refine lv_iconst (v := nI 0) hx hb dX6_isAbove_126 (by decide) ?_
                  refine RET _ _ _ _ _ _ dX6_isAbove_127 (by decide) ?_ hH
                  refine ⟨rfl, ?_⟩
                  have h1 := div_cmp (a := x) (b := y) (c := z) (d := w) hy0 hw0
                  have h2 := div_cmp (a := z) (b := w) (c := x) (d := y) hw0 hy0
                  rw [if_pos c35] at h1
                  rw [if_pos c35.symm] at h2
                  obtain ⟨a1, a2⟩ := ab0 (R := x % y) (S := z % w) hy0 hw0 (by omega)
                  rw [a1] at h1
                  rw [a2] at h2
                  refine (bI_f (fun zz => ?_)).symm
                  have z2 := i3.mp zz
                  by_cases ht : tu = 0
                  · rw [if_pos ht] at z2; have := h1.mpr z2; omega
                  · rw [if_neg ht] at z2; have := h2.mpr z2; omega
                · refine lv_iconst (v := nI 1) hx hb dX6_isAbove_122 (by decide) ?_
                  refine lv_goto (tgt := 127) hx hb dX6_isAbove_123 (by decide) ?_
                  refine RET _ _ _ _ _ _ dX6_isAbove_127 (by decide) ?_ hH
                  refine ⟨rfl, ?_⟩
                  have h1 := div_cmp (a := x) (b := y) (c := z) (d := w) hy0 hw0
                  have h2 := div_cmp (a := z) (b := w) (c := x) (d := y) hw0 hy0
                  rw [if_pos c35] at h1
                  rw [if_pos c35.symm] at h2
                  obtain ⟨a1, a2⟩ := ab0 (R := x % y) (S := z % w) hy0 hw0 (by omega)
                  rw [a1] at h1
                  rw [a2] at h2
                  refine (bI_t (i3.mpr ?_)).symm
                  by_cases ht : tu = 0
                  · rw [if_pos ht]; exact h1.mp (by omega)
                  · rw [if_neg ht]; exact h2.mp (by omega)
      · refine lv_lload hx hb dX6_isAbove_39 (lv_at hl 1 rfl) ?_
        refine lv_lload hx hb dX6_isAbove_41 (lv_at hl 0 rfl) ?_
        refine nl_le hx hb 51 dX6_isAbove_43 dX6_isAbove_44 (by decide) (by omega) (by omega) (fun c43 => ?_) (fun c43 => ?_)
        · refine lv_iconst (v := nI 0) hx hb dX6_isAbove_51 (by decide) ?_
          refine lv_iload hx hb dX6_isAbove_52 (lv_at hl 2 rfl) ?_
          refine ni_ceq hx hb 61 dX6_isAbove_54 (by decide) (by omega) (by omega) (fun c54 => ?_) (fun c54 => ?_)
          · refine lv_iconst (v := nI 0) hx hb dX6_isAbove_61 (by decide) ?_
            refine RET _ _ _ _ _ _ dX6_isAbove_62 (by decide) ?_ hH
            refine ⟨rfl, ?_⟩
            have h1 := div_cmp (a := x) (b := y) (c := z) (d := w) hy0 hw0
            have h2 := div_cmp (a := z) (b := w) (c := x) (d := y) hw0 hy0
            rw [if_neg c35] at h1
            rw [if_neg (fun q => c35 q.symm)] at h2
            refine (bI_f (fun zz => ?_)).symm
            have z2 := i3.mp zz
            by_cases ht : tu = 0
            · rw [if_pos ht] at z2; have := h1.mpr z2; omega
            · rw [if_neg ht] at z2; have := h2.mpr z2; omega
          · refine lv_iconst (v := nI 1) hx hb dX6_isAbove_57 (by decide) ?_
            refine lv_goto (tgt := 62) hx hb dX6_isAbove_58 (by decide) ?_
            refine RET _ _ _ _ _ _ dX6_isAbove_62 (by decide) ?_ hH
            refine ⟨rfl, ?_⟩
            have h1 := div_cmp (a := x) (b := y) (c := z) (d := w) hy0 hw0
            have h2 := div_cmp (a := z) (b := w) (c := x) (d := y) hw0 hy0
            rw [if_neg c35] at h1
            rw [if_neg (fun q => c35 q.symm)] at h2
            refine (bI_t (i3.mpr ?_)).symm
            by_cases ht : tu = 0
            · rw [if_pos ht]; exact h1.mp (by omega)
            · rw [if_neg ht]; exact h2.mp (by omega)
        · refine lv_iconst (v := nI 1) hx hb dX6_isAbove_47 (by decide) ?_
          refine lv_goto (tgt := 52) hx hb dX6_isAbove_48 (by decide) ?_
          refine lv_iload hx hb dX6_isAbove_52 (lv_at hl 2 rfl) ?_
          refine ni_ceq hx hb 61 dX6_isAbove_54 (by decide) (by omega) (by omega) (fun c54 => ?_) (fun c54 => ?_)
          · refine lv_iconst (v := nI 0) hx hb dX6_isAbove_61 (by decide) ?_
            refine RET _ _ _ _ _ _ dX6_isAbove_62 (by decide) ?_ hH
            refine ⟨rfl, ?_⟩
            have h1 := div_cmp (a := x) (b := y) (c := z) (d := w) hy0 hw0
            have h2 := div_cmp (a := z) (b := w) (c := x) (d := y) hw0 hy0
            rw [if_neg c35] at h1
            rw [if_neg (fun q => c35 q.symm)] at h2
            refine (bI_f (fun zz => ?_)).symm
            have z2 := i3.mp zz
            by_cases ht : tu = 0
            · rw [if_pos ht] at z2; have := h1.mpr z2; omega
            · rw [if_neg ht] at z2; have := h2.mpr z2; omega
          · refine lv_iconst (v := nI 1) hx hb dX6_isAbove_57 (by decide) ?_
            refine lv_goto (tgt := 62) hx hb dX6_isAbove_58 (by decide) ?_
            refine RET _ _ _ _ _ _ dX6_isAbove_62 (by decide) ?_ hH
            refine ⟨rfl, ?_⟩
            have h1 := div_cmp (a := x) (b := y) (c := z) (d := w) hy0 hw0
            have h2 := div_cmp (a := z) (b := w) (c := x) (d := y) hw0 hy0
            rw [if_neg c35] at h1
            rw [if_neg (fun q => c35 q.symm)] at h2
            refine (bI_t (i3.mpr ?_)).symm
            by_cases ht : tu = 0
            · rw [if_pos ht]; exact h1.mp (by omega)
            · rw [if_neg ht]; exact h2.mp (by omega)
  exact L17 (b + 1) u b v d 0 ls (⟨hb0, by omega⟩) (⟨hd0, by omega⟩) (⟨hu, hv⟩) (by omega) (by rw [if_pos rfl]) (Nat.lt_succ_self _) (lv_sub hl [0, 1, 2, 3, 4, 5, 6, 7, 8] rfl)
theorem bst_neg {b : Nat} (h : b < 2147483648) : bst b < 0 ↔ b = 0 := by
  unfold bst
  by_cases z : b = 0
  · rw [if_pos z]; exact ⟨fun _ => z, fun _ => by decide⟩
  · rw [if_neg z]
    exact ⟨fun q => absurd q (nI_pos (by omega)), fun q => absurd q z⟩
set_option maxHeartbeats 4000000 in
set_option maxRecDepth 100000 in
theorem k_X6_greatest (l : Launch) (X : Cx) (ad : Nat → Nat) (hi : inj 48 ad) (g : PF) (nm fa fb : Nat) (mc rd : Nat → Nat → Nat) (nr : Nat → Nat) (ar : Nat → Nat → Nat) (nb : Nat) (num : Nat → Nat) (lay pev : Nat) (pln : Nat → Nat) (tr : Nat) (hR : rMod X ad ((nm, fa, fb, mc, rd), nr, ar, (nb, num, lay, pev, pln, tr)) g) (p0 p1 : Int32) : Ki l yX6_greatest wsX6_greatest zr2 X 48 ad g [.ref (ad 36), .int p0, .int p1] (fun r g' => g' = g ∧ r = rowRd (sp_greatest p1) (-2) p0 ((nm, fa, fb, mc, rd), nr, ar, (nb, num, lay, pev, pln, tr))) := by
  refine Ki.of (cc := cX6_greatest) (maxL := 13) hi (by decide) rfl (Nat.le_of_ble_eq_true rfl) ?_
  intro p e s m below meth c Q E RET ls hl
  obtain ⟨C0, FX, hH⟩ := E
  have hx := C0.1
  have hb := C0.2.1
  have kl118 := C0.2.2.2.2 (.constantLong RX6 118 (lN 2)) (by decide +kernel)
  have kl130 := C0.2.2.2.2 (.constantLong RX6 130 (lN 200)) (by decide +kernel)
  have kiX6 : ∀ w ∈ u_ws RX6 TX6 18, w ∈ wsX6_greatest := (by decide +kernel)
  have kf35 : Cond.fieldLink RX6 35 "YarnMillModel" "cells" "[I" ∈ wsX6_greatest := (by decide +kernel)
  have hl : lv_has ls 13 [(0, .ref (ad 36)), (1, .int p0), (2, .int p1)] := hl
  obtain ⟨md, ma, mb, ml, mr, mo, cn, ms, fs, nn, pl, pm, f36, f37, f38, f39, f40, f41, f42, f43, f44, f45, f46, f47, hrL, hrR, hrS, hlok, hrok, hsok, hpm⟩ := hR
  have f36 : g 36 = .inr (6, [.int (nI fa), .int (nI fb), .int (nI nm), .ref (ad 37), .ref (ad 38), .ref (ad 39), .ref (ad 40), .ref (ad 41), .ref (ad 42), .ref (ad 43), .ref (ad 44), .ref (ad 45), .int (nI nb), .ref (ad 46), .int (nI lay), .int (nI pm), .ref (ad 47), .int (nI tr)]) := f36
  have hq37 : ∀ j, j < nm → md j = mc j 0 := fun j hj => (hrL.1 j hj).1
  have hq38 : ∀ j, j < nm → ma j = mc j 1 := fun j hj => (hrL.1 j hj).2.1
  have hq39 : ∀ j, j < nm → mb j = mc j 2 := fun j hj => (hrL.1 j hj).2.2.1
  have hq40 : ∀ j, j < nm → ml j = mc j 3 := fun j hj => (hrL.1 j hj).2.2.2.1
  have hq41 : ∀ j, j < nm → mr j = mc j 4 := fun j hj => (hrL.1 j hj).2.2.2.2
  have hmo : ∀ j, j < nm → ∀ r, r < mc j 4 → mo (3 * j + r) = rd j r := hrL.2
  have h6 : nm ≤ 6 := hlok.1
  have hfa : 1 ≤ fa ∧ fa ≤ 10000 := hlok.2.1
  have hfb : 1 ≤ fb ∧ fb ≤ 10000 := hlok.2.2.1
  have hmk : ∀ j, j < nm → mcOk (mc j) ∧ ∀ r, r < mc j 4 → 1 ≤ rd j r ∧ rd j r ≤ 1000 := hlok.2.2.2
  have hcn : ∀ r, r < 8 → cn r = nr r := hrR.1
  have hms : ∀ r, r < 8 → ∀ j, j < nr r → ms (400 * r + j) = ar r j := hrR.2
  have hro : ∀ r, r < 8 → nr r ≤ 400 ∧ ∀ j, j < nr r → ar r j ≤ 1000000 := hrok
  have hnn : ∀ j, j < nb → nn j = num j := hrS.1
  have hper : 0 < lay → pm = pev := hrS.2.1
  have hpl : ∀ j, j < lay * pev → pl j = pln j := hrS.2.2
  obtain ⟨k1, k2, k3, k4, k5, k6, k7⟩ := id hsok
  have k1 : nb ≤ 12 := k1
  have k2 : ∀ j, j < nb → num j ≤ 10000 := k2
  have k3 : 0 < lay → (1 ≤ pev ∧ pev ≤ 6) := k3
  have k4 : lay * pev ≤ 12 := k4
  have k5 : ∀ j, j < lay * pev → pln j ≤ 12 := k5
  have k6 : tr ≤ 100000 := k6
  have k7 : lay ≤ 12 := k7
  refine lv_iload_n hx hb dX6_greatest_0 rfl (lv_at hl 1 rfl) ?_
  refine rc_Si (rest := []) C0 FX hH (k_X6_isRow l X ad hi _ p0) (va_cwS 1 C0.2.2.2.2 gX6_greatest_X6_isRow rfl rfl rfl (by decide +kernel) ⟨Nat.le_of_ble_eq_true rfl, Nat.le_of_ble_eq_true rfl⟩) rfl rfl hl.1 (Nat.le_of_ble_eq_true rfl) dX6_greatest_1 ⟨Nat.le_of_ble_eq_true rfl, Nat.le_of_ble_eq_true rfl⟩ (fun r1 g1c H locs h1 hH => ?_)
  obtain ⟨e1, rfl⟩ := h1
  rw [e1] at hH
  refine rb_eq hx hb 21 dX6_greatest_4 (by decide) (fun c4 => ?_) (fun c4 => ?_)
  · refine lv_bipush (v := (-2)) hx hb dX6_greatest_21 (by decide) ?_
    refine RET _ _ _ _ _ _ dX6_greatest_23 rfl ?_ hH
    exact ⟨rfl, (rd_bad (by assumption)).symm⟩
  · obtain ⟨rv, rfl, rv1, rv2, rv3⟩ := rng_nI c4
    refine lv_iload_n hx hb dX6_greatest_7 rfl (lv_at hl 2 rfl) ?_
    refine lv_i2l hx hb dX6_greatest_8 rfl ?_
    refine lv_ldc2 hx hb C0.2.2.2.1 kl118 dX6_greatest_9 ?_
    refine lv_ldc2 hx hb C0.2.2.2.1 kl130 dX6_greatest_12 ?_
    refine rc_Si (rest := []) C0 FX hH (k_X6_in_rng l X ad hi _ p1 2 200 (by omega) (by omega)) (va_cwS 3 C0.2.2.2.2 gX6_greatest_X6_in rfl rfl rfl (by decide +kernel) ⟨Nat.le_of_ble_eq_true rfl, Nat.le_of_ble_eq_true rfl⟩) rfl rfl hl.1 (Nat.le_of_ble_eq_true rfl) dX6_greatest_15 ⟨Nat.le_of_ble_eq_true rfl, Nat.le_of_ble_eq_true rfl⟩ (fun r15 g15c H locs h15 hH => ?_)
    obtain ⟨e15, rfl⟩ := h15
    rw [e15] at hH
    refine rb_ne hx hb 24 dX6_greatest_18 (by decide) (fun c18 => ?_) (fun c18 => ?_)
    · obtain ⟨mo, rfl, mo1, mo2, mo3⟩ := rng_nI c18
      have hro9 := (hro rv (by omega)).1
      have hra9 := (hro rv (by omega)).2
      refine lv_iconst (v := (-1)) hx hb dX6_greatest_24 (by decide) ?_
      refine lv_istore_n (lv' := [(3, .int ((-1))), (0, .ref (ad 36)), (1, .int (nI rv)), (2, .int (nI mo))]) hx hb dX6_greatest_25 rfl hl (by decide) rfl (fun ls hl => ?_)
      refine lv_lconst (v := lN 0) hx hb dX6_greatest_26 (by decide) ?_
      refine lv_lstore (lv' := [(4, .long (lN 0)), (3, .int ((-1))), (0, .ref (ad 36)), (1, .int (nI rv)), (2, .int (nI mo))]) hx hb dX6_greatest_27 hl (by decide) rfl (fun ls hl => ?_)
      refine lv_lconst (v := lN 1) hx hb dX6_greatest_29 (by decide) ?_
      refine lv_lstore (lv' := [(6, .long (lN 1)), (4, .long (lN 0)), (3, .int ((-1))), (0, .ref (ad 36)), (1, .int (nI rv)), (2, .int (nI mo))]) hx hb dX6_greatest_30 hl (by decide) rfl (fun ls hl => ?_)
      refine lv_iconst (v := nI 2) hx hb dX6_greatest_32 (by decide) ?_
      refine lv_istore (lv' := [(8, .int (nI 2)), (6, .long (lN 1)), (4, .long (lN 0)), (3, .int ((-1))), (0, .ref (ad 36)), (1, .int (nI rv)), (2, .int (nI mo))]) hx hb dX6_greatest_33 hl (by decide) rfl (fun ls hl => ?_)
      have L35 : ∀ (fu : Nat) (Bv : Int32) (bw : Nat) (bb : Nat) (w : Nat) (b : Nat) (H : Heap) (locs : List Loc) (ls : Array Slot), (2 ≤ w) → (w ≤ max 2 (min mo (nr rv / 2) + 1)) → (Bv = bst b) → ((b, bw, bb) = gr (nr rv) (ar rv) (w - 2)) → 202 - w < fu → WH X 48 ad (pA 48 ad s.heap.size) s g H locs → lv_has ls 13 [(8, .int (nI w)), (6, .long (lN bb)), (4, .long (lN bw)), (3, .int Bv), (0, .ref (ad 36)), (1, .int (nI rv)), (2, .int (nI mo))] → W p l e zr2 s m ([.ref (ad 36), .int (nI rv), .int (nI mo)] : List Value).toArray below meth c H locs 0 0 Q (F0 m 35 ls []) := by
        intro fu
        induction fu with
        | zero =>
          intro Bv bw bb w b H locs ls i1 i2 i3 i4 hm
          exact absurd hm (Nat.not_lt_zero _)
        | succ fu ih =>
          have ih35 := ih; clear ih
          intro Bv bw bb w b H locs ls i1 i2 i3 i4 hm35 hH hl
          have hG := gr_in hro9 hra9 (w - 2) (by omega)
          rw [← i4] at hG
          have hGa := hG.1
          have hGb := hG.2.1
          have hGc := hG.2.2.1
          have hGd := hG.2.2.2
          simp only at hGa hGb hGc hGd
          refine lv_iload hx hb dX6_greatest_35 (lv_at hl 0 rfl) ?_
          refine lv_iload_n hx hb dX6_greatest_37 rfl (lv_at hl 6 rfl) ?_
          refine ni_cgt hx hb 117 dX6_greatest_38 (by decide) (by omega) (by omega) (fun c38 => ?_) (fun c38 => ?_)
          · refine lv_iload_n hx hb dX6_greatest_117 rfl (lv_at hl 3 rfl) ?_
            refine RET _ _ _ _ _ _ dX6_greatest_118 rfl ?_ hH
            refine ⟨rfl, (?_ : _ = _)⟩
            rw [rd_row rv2]
            show _ = sp_greatest _ (nr rv) (ar rv)
            unfold sp_greatest
            rw [if_pos ((rng_iff (by omega)).mpr (by omega)), tN_nI (by omega), show min mo (nr rv / 2) - 1 = w - 2 by omega, ← i4, i3]
          · refine lv_iload hx hb dX6_greatest_41 (lv_at hl 0 rfl) ?_
            refine lv_aload_n hx hb dX6_greatest_43 rfl (lv_at hl 4 rfl) ?_
            refine rp_get C0 FX hH 36 (by decide) (ci := 6) (k := 9) f36 rfl kiX6 (by decide) kf35 rfl dX6_greatest_44 ?_
            refine lv_iload_n hx hb dX6_greatest_47 rfl (lv_at hl 5 rfl) ?_
            refine rp_iald C0 FX hH 43 (by decide) (v := nr rv) f43 rv (by omega) (by decide) (hcn _ (by omega)) dX6_greatest_48 ?_
            refine lv_iconst (v := nI 2) hx hb dX6_greatest_49 (by decide) ?_
            refine ni_idiv hx hb (by omega) (by omega) (by omega) dX6_greatest_50 ?_
            refine ni_cgt hx hb 117 dX6_greatest_51 (by decide) (by omega) (by omega) (fun c51 => ?_) (fun c51 => ?_)
            · refine lv_iload_n hx hb dX6_greatest_117 rfl (lv_at hl 3 rfl) ?_
              refine RET _ _ _ _ _ _ dX6_greatest_118 rfl ?_ hH
              refine ⟨rfl, (?_ : _ = _)⟩
              rw [rd_row rv2]
              show _ = sp_greatest _ (nr rv) (ar rv)
              unfold sp_greatest
              rw [if_pos ((rng_iff (by omega)).mpr (by omega)), tN_nI (by omega), show min mo (nr rv / 2) - 1 = w - 2 by omega, ← i4, i3]
            · have hwv := wv_le (w := w) hro9 hra9
              have hby := by3_in hro9 i1 (by omega) (show w ≤ nr rv by omega)
              have hw2 : w + 1 - 2 = (w - 2) + 1 := by omega
              have hw3 : w - 2 + 2 = w := by omega
              have hdm := Nat.div_mul_le_self (nr rv) w
              unfold by3 at hby
              refine lv_aload_n hx hb dX6_greatest_54 rfl (lv_at hl 4 rfl) ?_
              refine lv_iload_n hx hb dX6_greatest_55 rfl (lv_at hl 5 rfl) ?_
              refine lv_iload hx hb dX6_greatest_56 (lv_at hl 0 rfl) ?_
              refine rc_Vl (rest := []) C0 FX hH 36 (by decide) f36 rfl (k_X6_waveOf l X ad hi _ nm fa fb mc rd nr ar nb num lay pev pln tr ⟨_, _, _, _, _, _, _, _, _, _, _, _, f36, f37, f38, f39, f40, f41, f42, f43, f44, f45, f46, f47, hrL, hrR, hrS, hlok, hrok, hsok, hpm⟩ rv w (by omega) (by omega) (by omega)) (cwV 2 C0.2.2.2.2 gX6_greatest_X6_waveOf rfl rfl rfl (by decide +kernel) ⟨Nat.le_of_ble_eq_true rfl, Nat.le_of_ble_eq_true rfl⟩) rfl rfl hl.1 (Nat.le_of_ble_eq_true rfl) dX6_greatest_58 ⟨Nat.le_of_ble_eq_true rfl, Nat.le_of_ble_eq_true rfl⟩ (fun r58 g58c H locs h58 hH => ?_)
              obtain ⟨e58, rfl⟩ := h58
              rw [e58] at hH
              refine lv_lstore (lv' := [(9, .long (lN (wv w (nr rv) (ar rv)))), (8, .int (nI w)), (6, .long (lN bb)), (4, .long (lN bw)), (3, .int Bv), (0, .ref (ad 36)), (1, .int (nI rv)), (2, .int (nI mo))]) hx hb dX6_greatest_61 hl (by decide) rfl (fun ls hl => ?_)
              refine lv_aload_n hx hb dX6_greatest_63 rfl (lv_at hl 5 rfl) ?_
              refine rp_get C0 FX hH 36 (by decide) (ci := 6) (k := 9) f36 rfl kiX6 (by decide) kf35 rfl dX6_greatest_64 ?_
              refine lv_iload_n hx hb dX6_greatest_67 rfl (lv_at hl 6 rfl) ?_
              refine rp_iald C0 FX hH 43 (by decide) (v := nr rv) f43 rv (by omega) (by decide) (hcn _ (by omega)) dX6_greatest_68 ?_
              refine lv_iload hx hb dX6_greatest_69 (lv_at hl 1 rfl) ?_
              refine ni_idiv hx hb (by omega) (by omega) (by omega) dX6_greatest_71 ?_
              refine lv_iload hx hb dX6_greatest_72 (lv_at hl 1 rfl) ?_
              refine ni_imul hx hb dX6_greatest_74 ?_
              refine ni_i2l hx hb (by omega) dX6_greatest_75 ?_
              refine lv_iload hx hb dX6_greatest_76 (lv_at hl 1 rfl) ?_
              refine ni_i2l hx hb (by omega) dX6_greatest_78 ?_
              refine ni_lmul hx hb dX6_greatest_79 ?_
              refine lv_lstore (lv' := [(11, .long (lN ((((nr rv) / w) * w) * w))), (9, .long (lN (wv w (nr rv) (ar rv)))), (8, .int (nI w)), (6, .long (lN bb)), (4, .long (lN bw)), (3, .int Bv), (0, .ref (ad 36)), (1, .int (nI rv)), (2, .int (nI mo))]) hx hb dX6_greatest_80 hl (by decide) rfl (fun ls hl => ?_)
              refine lv_iload_n hx hb dX6_greatest_82 rfl (lv_at hl 5 rfl) ?_
              refine lv_if_lt (tgt := 100) hx hb dX6_greatest_83 (by decide) (fun c83 => ?_) (fun c83 => ?_)
              · refine lv_iload hx hb dX6_greatest_100 (lv_at hl 2 rfl) ?_
                refine lv_istore_n (lv' := [(3, .int (nI w)), (11, .long (lN ((((nr rv) / w) * w) * w))), (9, .long (lN (wv w (nr rv) (ar rv)))), (8, .int (nI w)), (6, .long (lN bb)), (4, .long (lN bw)), (0, .ref (ad 36)), (1, .int (nI rv)), (2, .int (nI mo))]) hx hb dX6_greatest_102 rfl hl (by decide) rfl (fun ls hl => ?_)
                refine lv_lload hx hb dX6_greatest_103 (lv_at hl 2 rfl) ?_
                refine lv_lstore (lv' := [(4, .long (lN (wv w (nr rv) (ar rv)))), (3, .int (nI w)), (11, .long (lN ((((nr rv) / w) * w) * w))), (9, .long (lN (wv w (nr rv) (ar rv)))), (8, .int (nI w)), (6, .long (lN bb)), (0, .ref (ad 36)), (1, .int (nI rv)), (2, .int (nI mo))]) hx hb dX6_greatest_105 hl (by decide) rfl (fun ls hl => ?_)
                refine lv_lload hx hb dX6_greatest_107 (lv_at hl 2 rfl) ?_
                refine lv_lstore (lv' := [(6, .long (lN ((((nr rv) / w) * w) * w))), (4, .long (lN (wv w (nr rv) (ar rv)))), (3, .int (nI w)), (11, .long (lN ((((nr rv) / w) * w) * w))), (9, .long (lN (wv w (nr rv) (ar rv)))), (8, .int (nI w)), (0, .ref (ad 36)), (1, .int (nI rv)), (2, .int (nI mo))]) hx hb dX6_greatest_109 hl (by decide) rfl (fun ls hl => ?_)
                refine lv_iinc (v := nI (w + 1)) (lv' := [(8, .int (nI (w + 1))), (6, .long (lN ((((nr rv) / w) * w) * w))), (4, .long (lN (wv w (nr rv) (ar rv)))), (3, .int (nI w)), (11, .long (lN ((((nr rv) / w) * w) * w))), (9, .long (lN (wv w (nr rv) (ar rv)))), (0, .ref (ad 36)), (1, .int (nI rv)), (2, .int (nI mo))]) hx hb dX6_greatest_111 hl (k := 5) rfl (ni_inc1 _) (by decide) rfl (fun ls hl => ?_)
                refine lv_goto (tgt := 35) hx hb dX6_greatest_114 (by decide) ?_
                exact ih35 (nI w) (wv w (nr rv) (ar rv)) ((((nr rv) / w) * w) * w) (w + 1) w _ _ ls (by omega) (by omega) (by unfold bst; rw [if_neg (by omega)]) (by rw [hw2]; show _ = ite _ _ _; rw [← i4]; rw [if_pos (by rw [hw3]; first | exact Or.inr c97 | exact Or.inl ((bst_neg (by omega)).mp (i3 ▸ c83)))]; rw [hw3]; rfl) (by omega) hH (lv_sub hl [0, 1, 2, 3, 6, 7, 8] rfl)
              · refine lv_lload hx hb dX6_greatest_86 (lv_at hl 1 rfl) ?_
                refine lv_lload hx hb dX6_greatest_88 (lv_at hl 0 rfl) ?_
                refine lv_lload hx hb dX6_greatest_90 (lv_at hl 4 rfl) ?_
                refine lv_lload hx hb dX6_greatest_92 (lv_at hl 3 rfl) ?_
                refine rc_Si (rest := []) C0 FX hH (k_X6_isAbove l X ad hi _ (wv w (nr rv) (ar rv)) ((((nr rv) / w) * w) * w) bw bb (by omega) (by omega) hby.1 hby.2 (by omega) (by omega)) (va_cwS 4 C0.2.2.2.2 gX6_greatest_X6_isAbove rfl rfl rfl (by decide +kernel) ⟨Nat.le_of_ble_eq_true rfl, Nat.le_of_ble_eq_true rfl⟩) rfl rfl hl.1 (Nat.le_of_ble_eq_true rfl) dX6_greatest_94 ⟨Nat.le_of_ble_eq_true rfl, Nat.le_of_ble_eq_true rfl⟩ (fun r94 g94c H locs h94 hH => ?_)
                obtain ⟨e94, rfl⟩ := h94
                rw [e94] at hH
                refine rb_eq hx hb 111 dX6_greatest_97 (by decide) (fun c97 => ?_) (fun c97 => ?_)
                · refine lv_iinc (v := nI (w + 1)) (lv' := [(8, .int (nI (w + 1))), (11, .long (lN ((((nr rv) / w) * w) * w))), (9, .long (lN (wv w (nr rv) (ar rv)))), (6, .long (lN bb)), (4, .long (lN bw)), (3, .int Bv), (0, .ref (ad 36)), (1, .int (nI rv)), (2, .int (nI mo))]) hx hb dX6_greatest_111 hl (k := 2) rfl (ni_inc1 _) (by decide) rfl (fun ls hl => ?_)
                  refine lv_goto (tgt := 35) hx hb dX6_greatest_114 (by decide) ?_
                  exact ih35 Bv bw bb (w + 1) b _ _ ls (by omega) (by omega) (i3) (by rw [hw2]; show _ = ite _ _ _; rw [← i4]; rw [if_neg (by rw [hw3]; exact fun z => z.elim (fun z => c83 (by have z : b = 0 := z; rw [i3]; exact (bst_neg (by omega)).mpr z)) c97)]) (by omega) hH (lv_sub hl [0, 3, 4, 5, 6, 7, 8] rfl)
                · refine lv_iload hx hb dX6_greatest_100 (lv_at hl 2 rfl) ?_
                  refine lv_istore_n (lv' := [(3, .int (nI w)), (11, .long (lN ((((nr rv) / w) * w) * w))), (9, .long (lN (wv w (nr rv) (ar rv)))), (8, .int (nI w)), (6, .long (lN bb)), (4, .long (lN bw)), (0, .ref (ad 36)), (1, .int (nI rv)), (2, .int (nI mo))]) hx hb dX6_greatest_102 rfl hl (by decide) rfl (fun ls hl => ?_)
                  refine lv_lload hx hb dX6_greatest_103 (lv_at hl 2 rfl) ?_
                  refine lv_lstore (lv' := [(4, .long (lN (wv w (nr rv) (ar rv)))), (3, .int (nI w)), (11, .long (lN ((((nr rv) / w) * w) * w))), (9, .long (lN (wv w (nr rv) (ar rv)))), (8, .int (nI w)), (6, .long (lN bb)), (0, .ref (ad 36)), (1, .int (nI rv)), (2, .int (nI mo))]) hx hb dX6_greatest_105 hl (by decide) rfl (fun ls hl => ?_)
                  refine lv_lload hx hb dX6_greatest_107 (lv_at hl 2 rfl) ?_
                  refine lv_lstore (lv' := [(6, .long (lN ((((nr rv) / w) * w) * w))), (4, .long (lN (wv w (nr rv) (ar rv)))), (3, .int (nI w)), (11, .long (lN ((((nr rv) / w) * w) * w))), (9, .long (lN (wv w (nr rv) (ar rv)))), (8, .int (nI w)), (0, .ref (ad 36)), (1, .int (nI rv)), (2, .int (nI mo))]) hx hb dX6_greatest_109 hl (by decide) rfl (fun ls hl => ?_)
                  refine lv_iinc (v := nI (w + 1)) (lv' := [(8, .int (nI (w + 1))), (6, .long (lN ((((nr rv) / w) * w) * w))), (4, .long (lN (wv w (nr rv) (ar rv)))), (3, .int (nI w)), (11, .long (lN ((((nr rv) / w) * w) * w))), (9, .long (lN (wv w (nr rv) (ar rv)))), (0, .ref (ad 36)), (1, .int (nI rv)), (2, .int (nI mo))]) hx hb dX6_greatest_111 hl (k := 5) rfl (ni_inc1 _) (by decide) rfl (fun ls hl => ?_)
                  refine lv_goto (tgt := 35) hx hb dX6_greatest_114 (by decide) ?_
                  exact ih35 (nI w) (wv w (nr rv) (ar rv)) ((((nr rv) / w) * w) * w) (w + 1) w _ _ ls (by omega) (by omega) (by unfold bst; rw [if_neg (by omega)]) (by rw [hw2]; show _ = ite _ _ _; rw [← i4]; rw [if_pos (by rw [hw3]; first | exact Or.inr c97 | exact Or.inl ((bst_neg (by omega)).mp (i3 ▸ c83)))]; rw [hw3]; rfl) (by omega) hH (lv_sub hl [0, 1, 2, 3, 6, 7, 8] rfl)
      exact L35 ((202 - 2) + 1) ((-1)) 0 1 2 0 _ _ ls (by omega) (by omega) (by rfl) (by rfl) (Nat.lt_succ_self _) hH (lv_sub hl [0, 1, 2, 3, 4, 5, 6] rfl)
    · refine lv_bipush (v := (-2)) hx hb dX6_greatest_21 (by decide) ?_
      refine RET _ _ _ _ _ _ dX6_greatest_23 rfl ?_ hH
      refine ⟨rfl, (?_ : _ = _)⟩
      rw [rd_row rv2]
      show _ = sp_greatest _ (nr rv) (ar rv)
      unfold sp_greatest
      rw [if_neg (by assumption)]
set_option maxHeartbeats 4000000 in
set_option maxRecDepth 100000 in
theorem k_X6_run_0 (l : Launch) (X : Cx) (ad : Nat → Nat) (hi : inj 48 ad) (g : PF) (nm fa fb : Nat) (mc rd : Nat → Nat → Nat) (nr : Nat → Nat) (ar : Nat → Nat → Nat) (nb : Nat) (num : Nat → Nat) (lay pev : Nat) (pln : Nat → Nat) (tr : Nat) (hR : rMod X ad ((nm, fa, fb, mc, rd), nr, ar, (nb, num, lay, pev, pln, tr)) g) (rv f M bv : Nat) (hrv : rv ≤ 7) (hf : f ≤ nr rv) (hM : M ≤ 400000000) (hbv : bv ≤ 1000) : Ki l yX6_run wsX6_run zr1 X 48 ad g [.ref (ad 36), .int (nI rv), .int (nI f), .long (lN M), .int (nI 0), .int (nI bv)] (fun r g' => g' = g ∧ r = nI (run 1 (nr rv) (ar rv) (M * (100 + bv)) f)) := by
  refine Ki.of (cc := cX6_run) (maxL := 11) hi (by decide) rfl (Nat.le_of_ble_eq_true rfl) ?_
  intro p e s m below meth c Q E RET ls hl
  obtain ⟨C0, FX, hH⟩ := E
  have hx := C0.1
  have hb := C0.2.1
  have kl104 := C0.2.2.2.2 (.constantLong RX6 104 (lN 100)) (by decide +kernel)
  have kiX6 : ∀ w ∈ u_ws RX6 TX6 18, w ∈ wsX6_run := (by decide +kernel)
  have kf35 : Cond.fieldLink RX6 35 "YarnMillModel" "cells" "[I" ∈ wsX6_run := (by decide +kernel)
  have kf38 : Cond.fieldLink RX6 38 "YarnMillModel" "mass" "[I" ∈ wsX6_run := (by decide +kernel)
  have hl : lv_has ls 11 [(0, .ref (ad 36)), (1, .int (nI rv)), (2, .int (nI f)), (3, .long (lN M)), (5, .int (nI 0)), (6, .int (nI bv))] := hl
  obtain ⟨md, ma, mb, ml, mr, mo, cn, ms, fs, nn, pl, pm, f36, f37, f38, f39, f40, f41, f42, f43, f44, f45, f46, f47, hrL, hrR, hrS, hlok, hrok, hsok, hpm⟩ := hR
  have f36 : g 36 = .inr (6, [.int (nI fa), .int (nI fb), .int (nI nm), .ref (ad 37), .ref (ad 38), .ref (ad 39), .ref (ad 40), .ref (ad 41), .ref (ad 42), .ref (ad 43), .ref (ad 44), .ref (ad 45), .int (nI nb), .ref (ad 46), .int (nI lay), .int (nI pm), .ref (ad 47), .int (nI tr)]) := f36
  have hq37 : ∀ j, j < nm → md j = mc j 0 := fun j hj => (hrL.1 j hj).1
  have hq38 : ∀ j, j < nm → ma j = mc j 1 := fun j hj => (hrL.1 j hj).2.1
  have hq39 : ∀ j, j < nm → mb j = mc j 2 := fun j hj => (hrL.1 j hj).2.2.1
  have hq40 : ∀ j, j < nm → ml j = mc j 3 := fun j hj => (hrL.1 j hj).2.2.2.1
  have hq41 : ∀ j, j < nm → mr j = mc j 4 := fun j hj => (hrL.1 j hj).2.2.2.2
  have hmo : ∀ j, j < nm → ∀ r, r < mc j 4 → mo (3 * j + r) = rd j r := hrL.2
  have h6 : nm ≤ 6 := hlok.1
  have hfa : 1 ≤ fa ∧ fa ≤ 10000 := hlok.2.1
  have hfb : 1 ≤ fb ∧ fb ≤ 10000 := hlok.2.2.1
  have hmk : ∀ j, j < nm → mcOk (mc j) ∧ ∀ r, r < mc j 4 → 1 ≤ rd j r ∧ rd j r ≤ 1000 := hlok.2.2.2
  have hcn : ∀ r, r < 8 → cn r = nr r := hrR.1
  have hms : ∀ r, r < 8 → ∀ j, j < nr r → ms (400 * r + j) = ar r j := hrR.2
  have hro : ∀ r, r < 8 → nr r ≤ 400 ∧ ∀ j, j < nr r → ar r j ≤ 1000000 := hrok
  have hnn : ∀ j, j < nb → nn j = num j := hrS.1
  have hper : 0 < lay → pm = pev := hrS.2.1
  have hpl : ∀ j, j < lay * pev → pl j = pln j := hrS.2.2
  obtain ⟨k1, k2, k3, k4, k5, k6, k7⟩ := id hsok
  have k1 : nb ≤ 12 := k1
  have k2 : ∀ j, j < nb → num j ≤ 10000 := k2
  have k3 : 0 < lay → (1 ≤ pev ∧ pev ≤ 6) := k3
  have k4 : lay * pev ≤ 12 := k4
  have k5 : ∀ j, j < lay * pev → pln j ≤ 12 := k5
  have k6 : tr ≤ 100000 := k6
  have k7 : lay ≤ 12 := k7
  have hro9 := (hro rv (by omega)).1
  have hra9 := (hro rv (by omega)).2
  have hMb := Nat.mul_le_mul hM (show 100 + bv ≤ 1100 by omega)
  have hMc := Nat.mul_le_mul hM (show 100 - bv ≤ 1100 by omega)
  refine lv_iconst (v := nI 0) hx hb dX6_run_0 (by decide) ?_
  refine lv_istore (lv' := [(7, .int (nI 0)), (0, .ref (ad 36)), (1, .int (nI rv)), (2, .int (nI f)), (3, .long (lN M)), (5, .int (nI 0)), (6, .int (nI bv))]) hx hb dX6_run_1 hl (by decide) rfl (fun ls hl => ?_)
  refine lv_iconst (v := nI 1) hx hb dX6_run_3 (by decide) ?_
  refine lv_istore (lv' := [(8, .int (nI 1)), (7, .int (nI 0)), (0, .ref (ad 36)), (1, .int (nI rv)), (2, .int (nI f)), (3, .long (lN M)), (5, .int (nI 0)), (6, .int (nI bv))]) hx hb dX6_run_4 hl (by decide) rfl (fun ls hl => ?_)
  have L6 : ∀ (fu : Nat) (k9 : Nat) (iz : Nat) (ls : Array Slot), (f + k9 ≤ nr rv) → (iz ≤ 1) → ((iz = 1 → run 1 (nr rv) (ar rv) (M * (100 + bv)) f = k9 + run 1 (nr rv) (ar rv) (M * (100 + bv)) (f + k9)) ∧ (iz = 0 → run 1 (nr rv) (ar rv) (M * (100 + bv)) f = k9)) → 2 * (nr rv - (f + k9)) + iz < fu → lv_has ls 11 [(8, .int (nI iz)), (7, .int (nI k9)), (0, .ref (ad 36)), (1, .int (nI rv)), (2, .int (nI f)), (3, .long (lN M)), (5, .int (nI 0)), (6, .int (nI bv))] → W p l e zr1 s m ([.ref (ad 36), .int (nI rv), .int (nI f), .long (lN M), .int (nI 0), .int (nI bv)] : List Value).toArray below meth c s.heap [] 0 0 Q (F0 m 6 ls []) := by
    intro fu
    induction fu with
    | zero =>
      intro k9 iz  ls i1 i2 i3 hm
      exact absurd hm (Nat.not_lt_zero _)
    | succ fu ih =>
      have ih6 := ih; clear ih
      intro k9 iz  ls i1 i2 i3 hm6  hl
      have hq := hra9 (f + k9)
      refine lv_iload hx hb dX6_run_6 (lv_at hl 0 rfl) ?_
      refine ni_eq0 hx hb 112 dX6_run_8 (by decide) (by omega) (fun c8 => ?_) (fun c8 => ?_)
      · refine lv_iload hx hb dX6_run_112 (lv_at hl 1 rfl) ?_
        refine RET _ _ _ _ _ _ dX6_run_114 rfl ?_ hH
        refine ⟨rfl, ?_⟩
        rw [i3.2 c8]
      · refine lv_iload_n hx hb dX6_run_11 rfl (lv_at hl 4 rfl) ?_
        refine lv_iload hx hb dX6_run_12 (lv_at hl 1 rfl) ?_
        refine ni_iadd hx hb dX6_run_14 ?_
        refine lv_aload_n hx hb dX6_run_15 rfl (lv_at hl 2 rfl) ?_
        refine rp_get C0 FX hH 36 (by decide) (ci := 6) (k := 9) f36 rfl kiX6 (by decide) kf35 rfl dX6_run_16 ?_
        refine lv_iload_n hx hb dX6_run_19 rfl (lv_at hl 3 rfl) ?_
        refine rp_iald C0 FX hH 43 (by decide) (v := nr rv) f43 rv (by omega) (by decide) (hcn _ (by omega)) dX6_run_20 ?_
        refine ni_cge hx hb 112 dX6_run_21 (by decide) (by omega) (by omega) (fun c21 => ?_) (fun c21 => ?_)
        · refine lv_iload hx hb dX6_run_112 (lv_at hl 1 rfl) ?_
          refine RET _ _ _ _ _ _ dX6_run_114 rfl ?_ hH
          refine ⟨rfl, ?_⟩
          rw [i3.1 (by omega), show run 1 (nr rv) (ar rv) (M * (100 + bv)) (f + k9) = 0 from rn_end (q := qt 1 (ar rv) (M * (100 + bv))) (by omega)]; rfl
        · refine lv_ldc2 hx hb C0.2.2.2.1 kl104 dX6_run_24 ?_
          refine lv_aload_n hx hb dX6_run_27 rfl (lv_at hl 2 rfl) ?_
          refine rp_get C0 FX hH 36 (by decide) (ci := 6) (k := 10) f36 rfl kiX6 (by decide) kf38 rfl dX6_run_28 ?_
          refine lv_sipush (v := nI 400) hx hb dX6_run_31 (by decide) ?_
          refine lv_iload_n hx hb dX6_run_34 rfl (lv_at hl 3 rfl) ?_
          refine ni_imul hx hb dX6_run_35 ?_
          refine lv_iload_n hx hb dX6_run_36 rfl (lv_at hl 4 rfl) ?_
          refine ni_iadd hx hb dX6_run_37 ?_
          refine lv_iload hx hb dX6_run_38 (lv_at hl 1 rfl) ?_
          refine ni_iadd hx hb dX6_run_40 ?_
          refine rp_iald C0 FX hH 44 (by decide) (v := ar rv (f + k9)) f44 (((400 * rv) + f) + k9) (by omega) (by decide) (by rw [Nat.add_assoc]; exact hms rv (by omega) _ (by omega)) dX6_run_41 ?_
          refine ni_i2l hx hb (by have := hq c21; omega) dX6_run_42 ?_
          refine ni_lmul hx hb dX6_run_43 ?_
          refine lv_lstore (lv' := [(9, .long (lN (100 * (ar rv (f + k9))))), (8, .int (nI iz)), (7, .int (nI k9)), (0, .ref (ad 36)), (1, .int (nI rv)), (2, .int (nI f)), (3, .long (lN M)), (5, .int (nI 0)), (6, .int (nI bv))]) hx hb dX6_run_44 hl (by decide) rfl (fun ls hl => ?_)
          refine lv_iload hx hb dX6_run_46 (lv_at hl 7 rfl) ?_
          refine lv_if_ne (tgt := 73) hx hb dX6_run_48 (by decide) (fun c48 => absurd (by decide) c48) (fun c48 => ?_)
          refine lv_lload hx hb dX6_run_51 (lv_at hl 0 rfl) ?_
          refine lv_lload_n hx hb dX6_run_53 rfl (lv_at hl 6 rfl) ?_
          refine lv_bipush (v := nI 100) hx hb dX6_run_54 (by decide) ?_
          refine lv_iload hx hb dX6_run_56 (lv_at hl 8 rfl) ?_
          refine ni_iadd hx hb dX6_run_58 ?_
          refine ni_i2l hx hb (by omega) dX6_run_59 ?_
          refine ni_lmul hx hb dX6_run_60 ?_
          refine nl_lt hx hb 69 dX6_run_61 dX6_run_62 (by decide) (by have := hq c21; omega) (by omega) (fun c61 => ?_) (fun c61 => ?_)
          · refine lv_iconst (v := nI 0) hx hb dX6_run_69 (by decide) ?_
            refine lv_goto (tgt := 92) hx hb dX6_run_70 (by decide) ?_
            refine lv_istore (lv' := [(8, .int (nI 0)), (9, .long (lN (100 * (ar rv (f + k9))))), (7, .int (nI k9)), (0, .ref (ad 36)), (1, .int (nI rv)), (2, .int (nI f)), (3, .long (lN M)), (5, .int (nI 0)), (6, .int (nI bv))]) hx hb dX6_run_92 hl (by decide) rfl (fun ls hl => ?_)
            refine lv_iload hx hb dX6_run_94 (lv_at hl 2 rfl) ?_
            refine lv_iload hx hb dX6_run_96 (lv_at hl 0 rfl) ?_
            refine lv_if_eq (tgt := 105) hx hb dX6_run_98 (by decide) (fun c98 => ?_) (fun c98 => absurd (by decide) c98)
            refine lv_iconst (v := nI 0) hx hb dX6_run_105 (by decide) ?_
            refine ni_iadd hx hb dX6_run_106 ?_
            refine lv_istore (lv' := [(7, .int (nI (k9 + 0))), (8, .int (nI 0)), (9, .long (lN (100 * (ar rv (f + k9))))), (0, .ref (ad 36)), (1, .int (nI rv)), (2, .int (nI f)), (3, .long (lN M)), (5, .int (nI 0)), (6, .int (nI bv))]) hx hb dX6_run_107 hl (by decide) rfl (fun ls hl => ?_)
            refine lv_goto (tgt := 6) hx hb dX6_run_109 (by decide) ?_
            exact ih6 (k9 + 0) 0 ls (by omega) (by omega) (⟨fun q => absurd q (by decide), fun _ => by have hs := (i3.1 (by omega)); have hy : run 1 (nr rv) (ar rv) (M * (100 + bv)) (f + k9) = 0 := rn_no (q := qt 1 (ar rv) (M * (100 + bv))) (fun zz => by have zz : qt 1 (ar rv) (M * (100 + bv)) (f + k9) := zz; unfold qt at zz; rw [if_neg (by decide)] at zz; rw [Nat.mul_comm (ar rv (f + k9)) 100] at zz; omega); omega⟩) (by omega) (lv_sub hl [1, 0, 3, 4, 5, 6, 7, 8] rfl)
          · refine lv_iconst (v := nI 1) hx hb dX6_run_65 (by decide) ?_
            refine lv_goto (tgt := 92) hx hb dX6_run_66 (by decide) ?_
            refine lv_istore (lv' := [(8, .int (nI 1)), (9, .long (lN (100 * (ar rv (f + k9))))), (7, .int (nI k9)), (0, .ref (ad 36)), (1, .int (nI rv)), (2, .int (nI f)), (3, .long (lN M)), (5, .int (nI 0)), (6, .int (nI bv))]) hx hb dX6_run_92 hl (by decide) rfl (fun ls hl => ?_)
            refine lv_iload hx hb dX6_run_94 (lv_at hl 2 rfl) ?_
            refine lv_iload hx hb dX6_run_96 (lv_at hl 0 rfl) ?_
            refine lv_if_eq (tgt := 105) hx hb dX6_run_98 (by decide) (fun c98 => absurd c98 (by decide)) (fun c98 => ?_)
            refine lv_iconst (v := nI 1) hx hb dX6_run_101 (by decide) ?_
            refine lv_goto (tgt := 106) hx hb dX6_run_102 (by decide) ?_
            refine ni_iadd hx hb dX6_run_106 ?_
            refine lv_istore (lv' := [(7, .int (nI (k9 + 1))), (8, .int (nI 1)), (9, .long (lN (100 * (ar rv (f + k9))))), (0, .ref (ad 36)), (1, .int (nI rv)), (2, .int (nI f)), (3, .long (lN M)), (5, .int (nI 0)), (6, .int (nI bv))]) hx hb dX6_run_107 hl (by decide) rfl (fun ls hl => ?_)
            refine lv_goto (tgt := 6) hx hb dX6_run_109 (by decide) ?_
            exact ih6 (k9 + 1) 1 ls (by omega) (by omega) (⟨fun _ => by have hs := (i3.1 (by omega)); have hy : run 1 (nr rv) (ar rv) (M * (100 + bv)) (f + k9) = run 1 (nr rv) (ar rv) (M * (100 + bv)) (f + k9 + 1) + 1 := rn_yes (q := qt 1 (ar rv) (M * (100 + bv))) (by omega) (by show qt 1 (ar rv) (M * (100 + bv)) (f + k9); unfold qt; rw [if_neg (by decide)]; rw [Nat.mul_comm (ar rv (f + k9)) 100]; exact c61); rw [show f + (k9 + 1) = f + k9 + 1 by omega]; omega, fun q => absurd q (by decide)⟩) (by omega) (lv_sub hl [1, 0, 3, 4, 5, 6, 7, 8] rfl)
  exact L6 ((2 * (nr rv - (f + 0)) + 1) + 1) 0 1 ls (by omega) (by omega) (⟨fun _ => by rw [Nat.add_zero, Nat.zero_add], fun q => absurd q (by decide)⟩) (Nat.lt_succ_self _) (lv_sub hl [0, 1, 2, 3, 4, 5, 6, 7] rfl)
set_option maxHeartbeats 4000000 in
set_option maxRecDepth 100000 in
theorem k_X6_run_1 (l : Launch) (X : Cx) (ad : Nat → Nat) (hi : inj 48 ad) (g : PF) (nm fa fb : Nat) (mc rd : Nat → Nat → Nat) (nr : Nat → Nat) (ar : Nat → Nat → Nat) (nb : Nat) (num : Nat → Nat) (lay pev : Nat) (pln : Nat → Nat) (tr : Nat) (hR : rMod X ad ((nm, fa, fb, mc, rd), nr, ar, (nb, num, lay, pev, pln, tr)) g) (rv f M bv : Nat) (hrv : rv ≤ 7) (hf : f ≤ nr rv) (hM : M ≤ 400000000) (hbv : bv ≤ 100) : Ki l yX6_run wsX6_run zr1 X 48 ad g [.ref (ad 36), .int (nI rv), .int (nI f), .long (lN M), .int (nI 1), .int (nI bv)] (fun r g' => g' = g ∧ r = nI (run 0 (nr rv) (ar rv) (M * (100 - bv)) f)) := by
  refine Ki.of (cc := cX6_run) (maxL := 11) hi (by decide) rfl (Nat.le_of_ble_eq_true rfl) ?_
  intro p e s m below meth c Q E RET ls hl
  obtain ⟨C0, FX, hH⟩ := E
  have hx := C0.1
  have hb := C0.2.1
  have kl104 := C0.2.2.2.2 (.constantLong RX6 104 (lN 100)) (by decide +kernel)
  have kiX6 : ∀ w ∈ u_ws RX6 TX6 18, w ∈ wsX6_run := (by decide +kernel)
  have kf35 : Cond.fieldLink RX6 35 "YarnMillModel" "cells" "[I" ∈ wsX6_run := (by decide +kernel)
  have kf38 : Cond.fieldLink RX6 38 "YarnMillModel" "mass" "[I" ∈ wsX6_run := (by decide +kernel)
  have hl : lv_has ls 11 [(0, .ref (ad 36)), (1, .int (nI rv)), (2, .int (nI f)), (3, .long (lN M)), (5, .int (nI 1)), (6, .int (nI bv))] := hl
  obtain ⟨md, ma, mb, ml, mr, mo, cn, ms, fs, nn, pl, pm, f36, f37, f38, f39, f40, f41, f42, f43, f44, f45, f46, f47, hrL, hrR, hrS, hlok, hrok, hsok, hpm⟩ := hR
  have f36 : g 36 = .inr (6, [.int (nI fa), .int (nI fb), .int (nI nm), .ref (ad 37), .ref (ad 38), .ref (ad 39), .ref (ad 40), .ref (ad 41), .ref (ad 42), .ref (ad 43), .ref (ad 44), .ref (ad 45), .int (nI nb), .ref (ad 46), .int (nI lay), .int (nI pm), .ref (ad 47), .int (nI tr)]) := f36
  have hq37 : ∀ j, j < nm → md j = mc j 0 := fun j hj => (hrL.1 j hj).1
  have hq38 : ∀ j, j < nm → ma j = mc j 1 := fun j hj => (hrL.1 j hj).2.1
  have hq39 : ∀ j, j < nm → mb j = mc j 2 := fun j hj => (hrL.1 j hj).2.2.1
  have hq40 : ∀ j, j < nm → ml j = mc j 3 := fun j hj => (hrL.1 j hj).2.2.2.1
  have hq41 : ∀ j, j < nm → mr j = mc j 4 := fun j hj => (hrL.1 j hj).2.2.2.2
  have hmo : ∀ j, j < nm → ∀ r, r < mc j 4 → mo (3 * j + r) = rd j r := hrL.2
  have h6 : nm ≤ 6 := hlok.1
  have hfa : 1 ≤ fa ∧ fa ≤ 10000 := hlok.2.1
  have hfb : 1 ≤ fb ∧ fb ≤ 10000 := hlok.2.2.1
  have hmk : ∀ j, j < nm → mcOk (mc j) ∧ ∀ r, r < mc j 4 → 1 ≤ rd j r ∧ rd j r ≤ 1000 := hlok.2.2.2
  have hcn : ∀ r, r < 8 → cn r = nr r := hrR.1
  have hms : ∀ r, r < 8 → ∀ j, j < nr r → ms (400 * r + j) = ar r j := hrR.2
  have hro : ∀ r, r < 8 → nr r ≤ 400 ∧ ∀ j, j < nr r → ar r j ≤ 1000000 := hrok
  have hnn : ∀ j, j < nb → nn j = num j := hrS.1
  have hper : 0 < lay → pm = pev := hrS.2.1
  have hpl : ∀ j, j < lay * pev → pl j = pln j := hrS.2.2
  obtain ⟨k1, k2, k3, k4, k5, k6, k7⟩ := id hsok
  have k1 : nb ≤ 12 := k1
  have k2 : ∀ j, j < nb → num j ≤ 10000 := k2
  have k3 : 0 < lay → (1 ≤ pev ∧ pev ≤ 6) := k3
  have k4 : lay * pev ≤ 12 := k4
  have k5 : ∀ j, j < lay * pev → pln j ≤ 12 := k5
  have k6 : tr ≤ 100000 := k6
  have k7 : lay ≤ 12 := k7
  have hro9 := (hro rv (by omega)).1
  have hra9 := (hro rv (by omega)).2
  have hMb := Nat.mul_le_mul hM (show 100 + bv ≤ 1100 by omega)
  have hMc := Nat.mul_le_mul hM (show 100 - bv ≤ 1100 by omega)
  refine lv_iconst (v := nI 0) hx hb dX6_run_0 (by decide) ?_
  refine lv_istore (lv' := [(7, .int (nI 0)), (0, .ref (ad 36)), (1, .int (nI rv)), (2, .int (nI f)), (3, .long (lN M)), (5, .int (nI 1)), (6, .int (nI bv))]) hx hb dX6_run_1 hl (by decide) rfl (fun ls hl => ?_)
  refine lv_iconst (v := nI 1) hx hb dX6_run_3 (by decide) ?_
  refine lv_istore (lv' := [(8, .int (nI 1)), (7, .int (nI 0)), (0, .ref (ad 36)), (1, .int (nI rv)), (2, .int (nI f)), (3, .long (lN M)), (5, .int (nI 1)), (6, .int (nI bv))]) hx hb dX6_run_4 hl (by decide) rfl (fun ls hl => ?_)
  have L6 : ∀ (fu : Nat) (k9 : Nat) (iz : Nat) (ls : Array Slot), (f + k9 ≤ nr rv) → (iz ≤ 1) → ((iz = 1 → run 0 (nr rv) (ar rv) (M * (100 - bv)) f = k9 + run 0 (nr rv) (ar rv) (M * (100 - bv)) (f + k9)) ∧ (iz = 0 → run 0 (nr rv) (ar rv) (M * (100 - bv)) f = k9)) → 2 * (nr rv - (f + k9)) + iz < fu → lv_has ls 11 [(8, .int (nI iz)), (7, .int (nI k9)), (0, .ref (ad 36)), (1, .int (nI rv)), (2, .int (nI f)), (3, .long (lN M)), (5, .int (nI 1)), (6, .int (nI bv))] → W p l e zr1 s m ([.ref (ad 36), .int (nI rv), .int (nI f), .long (lN M), .int (nI 1), .int (nI bv)] : List Value).toArray below meth c s.heap [] 0 0 Q (F0 m 6 ls []) := by
    intro fu
    induction fu with
    | zero =>
      intro k9 iz  ls i1 i2 i3 hm
      exact absurd hm (Nat.not_lt_zero _)
    | succ fu ih =>
      have ih6 := ih; clear ih
      intro k9 iz  ls i1 i2 i3 hm6  hl
      have hq := hra9 (f + k9)
      refine lv_iload hx hb dX6_run_6 (lv_at hl 0 rfl) ?_
      refine ni_eq0 hx hb 112 dX6_run_8 (by decide) (by omega) (fun c8 => ?_) (fun c8 => ?_)
      · refine lv_iload hx hb dX6_run_112 (lv_at hl 1 rfl) ?_
        refine RET _ _ _ _ _ _ dX6_run_114 rfl ?_ hH
        refine ⟨rfl, ?_⟩
        rw [i3.2 c8]
      · refine lv_iload_n hx hb dX6_run_11 rfl (lv_at hl 4 rfl) ?_
        refine lv_iload hx hb dX6_run_12 (lv_at hl 1 rfl) ?_
        refine ni_iadd hx hb dX6_run_14 ?_
        refine lv_aload_n hx hb dX6_run_15 rfl (lv_at hl 2 rfl) ?_
        refine rp_get C0 FX hH 36 (by decide) (ci := 6) (k := 9) f36 rfl kiX6 (by decide) kf35 rfl dX6_run_16 ?_
        refine lv_iload_n hx hb dX6_run_19 rfl (lv_at hl 3 rfl) ?_
        refine rp_iald C0 FX hH 43 (by decide) (v := nr rv) f43 rv (by omega) (by decide) (hcn _ (by omega)) dX6_run_20 ?_
        refine ni_cge hx hb 112 dX6_run_21 (by decide) (by omega) (by omega) (fun c21 => ?_) (fun c21 => ?_)
        · refine lv_iload hx hb dX6_run_112 (lv_at hl 1 rfl) ?_
          refine RET _ _ _ _ _ _ dX6_run_114 rfl ?_ hH
          refine ⟨rfl, ?_⟩
          rw [i3.1 (by omega), show run 0 (nr rv) (ar rv) (M * (100 - bv)) (f + k9) = 0 from rn_end (q := qt 0 (ar rv) (M * (100 - bv))) (by omega)]; rfl
        · refine lv_ldc2 hx hb C0.2.2.2.1 kl104 dX6_run_24 ?_
          refine lv_aload_n hx hb dX6_run_27 rfl (lv_at hl 2 rfl) ?_
          refine rp_get C0 FX hH 36 (by decide) (ci := 6) (k := 10) f36 rfl kiX6 (by decide) kf38 rfl dX6_run_28 ?_
          refine lv_sipush (v := nI 400) hx hb dX6_run_31 (by decide) ?_
          refine lv_iload_n hx hb dX6_run_34 rfl (lv_at hl 3 rfl) ?_
          refine ni_imul hx hb dX6_run_35 ?_
          refine lv_iload_n hx hb dX6_run_36 rfl (lv_at hl 4 rfl) ?_
          refine ni_iadd hx hb dX6_run_37 ?_
          refine lv_iload hx hb dX6_run_38 (lv_at hl 1 rfl) ?_
          refine ni_iadd hx hb dX6_run_40 ?_
          refine rp_iald C0 FX hH 44 (by decide) (v := ar rv (f + k9)) f44 (((400 * rv) + f) + k9) (by omega) (by decide) (by rw [Nat.add_assoc]; exact hms rv (by omega) _ (by omega)) dX6_run_41 ?_
          refine ni_i2l hx hb (by have := hq c21; omega) dX6_run_42 ?_
          refine ni_lmul hx hb dX6_run_43 ?_
          refine lv_lstore (lv' := [(9, .long (lN (100 * (ar rv (f + k9))))), (8, .int (nI iz)), (7, .int (nI k9)), (0, .ref (ad 36)), (1, .int (nI rv)), (2, .int (nI f)), (3, .long (lN M)), (5, .int (nI 1)), (6, .int (nI bv))]) hx hb dX6_run_44 hl (by decide) rfl (fun ls hl => ?_)
          refine lv_iload hx hb dX6_run_46 (lv_at hl 7 rfl) ?_
          refine lv_if_ne (tgt := 73) hx hb dX6_run_48 (by decide) (fun c48 => ?_) (fun c48 => absurd c48 (by decide))
          refine lv_lload hx hb dX6_run_73 (lv_at hl 0 rfl) ?_
          refine lv_lload_n hx hb dX6_run_75 rfl (lv_at hl 6 rfl) ?_
          refine lv_bipush (v := nI 100) hx hb dX6_run_76 (by decide) ?_
          refine lv_iload hx hb dX6_run_78 (lv_at hl 8 rfl) ?_
          refine ni_isub hx hb (by omega) dX6_run_80 ?_
          refine ni_i2l hx hb (by omega) dX6_run_81 ?_
          refine ni_lmul hx hb dX6_run_82 ?_
          refine nl_gt hx hb 91 dX6_run_83 dX6_run_84 (by decide) (by have := hq c21; omega) (by omega) (fun c83 => ?_) (fun c83 => ?_)
          · refine lv_iconst (v := nI 0) hx hb dX6_run_91 (by decide) ?_
            refine lv_istore (lv' := [(8, .int (nI 0)), (9, .long (lN (100 * (ar rv (f + k9))))), (7, .int (nI k9)), (0, .ref (ad 36)), (1, .int (nI rv)), (2, .int (nI f)), (3, .long (lN M)), (5, .int (nI 1)), (6, .int (nI bv))]) hx hb dX6_run_92 hl (by decide) rfl (fun ls hl => ?_)
            refine lv_iload hx hb dX6_run_94 (lv_at hl 2 rfl) ?_
            refine lv_iload hx hb dX6_run_96 (lv_at hl 0 rfl) ?_
            refine lv_if_eq (tgt := 105) hx hb dX6_run_98 (by decide) (fun c98 => ?_) (fun c98 => absurd (by decide) c98)
            refine lv_iconst (v := nI 0) hx hb dX6_run_105 (by decide) ?_
            refine ni_iadd hx hb dX6_run_106 ?_
            refine lv_istore (lv' := [(7, .int (nI (k9 + 0))), (8, .int (nI 0)), (9, .long (lN (100 * (ar rv (f + k9))))), (0, .ref (ad 36)), (1, .int (nI rv)), (2, .int (nI f)), (3, .long (lN M)), (5, .int (nI 1)), (6, .int (nI bv))]) hx hb dX6_run_107 hl (by decide) rfl (fun ls hl => ?_)
            refine lv_goto (tgt := 6) hx hb dX6_run_109 (by decide) ?_
            exact ih6 (k9 + 0) 0 ls (by omega) (by omega) (⟨fun q => absurd q (by decide), fun _ => by have hs := (i3.1 (by omega)); have hy : run 0 (nr rv) (ar rv) (M * (100 - bv)) (f + k9) = 0 := rn_no (q := qt 0 (ar rv) (M * (100 - bv))) (fun zz => by have zz : qt 0 (ar rv) (M * (100 - bv)) (f + k9) := zz; unfold qt at zz; rw [if_pos rfl] at zz; rw [Nat.mul_comm (ar rv (f + k9)) 100] at zz; omega); omega⟩) (by omega) (lv_sub hl [1, 0, 3, 4, 5, 6, 7, 8] rfl)
          · refine lv_iconst (v := nI 1) hx hb dX6_run_87 (by decide) ?_
            refine lv_goto (tgt := 92) hx hb dX6_run_88 (by decide) ?_
            refine lv_istore (lv' := [(8, .int (nI 1)), (9, .long (lN (100 * (ar rv (f + k9))))), (7, .int (nI k9)), (0, .ref (ad 36)), (1, .int (nI rv)), (2, .int (nI f)), (3, .long (lN M)), (5, .int (nI 1)), (6, .int (nI bv))]) hx hb dX6_run_92 hl (by decide) rfl (fun ls hl => ?_)
            refine lv_iload hx hb dX6_run_94 (lv_at hl 2 rfl) ?_
            refine lv_iload hx hb dX6_run_96 (lv_at hl 0 rfl) ?_
            refine lv_if_eq (tgt := 105) hx hb dX6_run_98 (by decide) (fun c98 => absurd c98 (by decide)) (fun c98 => ?_)
            refine lv_iconst (v := nI 1) hx hb dX6_run_101 (by decide) ?_
            refine lv_goto (tgt := 106) hx hb dX6_run_102 (by decide) ?_
            refine ni_iadd hx hb dX6_run_106 ?_
            refine lv_istore (lv' := [(7, .int (nI (k9 + 1))), (8, .int (nI 1)), (9, .long (lN (100 * (ar rv (f + k9))))), (0, .ref (ad 36)), (1, .int (nI rv)), (2, .int (nI f)), (3, .long (lN M)), (5, .int (nI 1)), (6, .int (nI bv))]) hx hb dX6_run_107 hl (by decide) rfl (fun ls hl => ?_)
            refine lv_goto (tgt := 6) hx hb dX6_run_109 (by decide) ?_
            exact ih6 (k9 + 1) 1 ls (by omega) (by omega) (⟨fun _ => by have hs := (i3.1 (by omega)); have hy : run 0 (nr rv) (ar rv) (M * (100 - bv)) (f + k9) = run 0 (nr rv) (ar rv) (M * (100 - bv)) (f + k9 + 1) + 1 := rn_yes (q := qt 0 (ar rv) (M * (100 - bv))) (by omega) (by show qt 0 (ar rv) (M * (100 - bv)) (f + k9); unfold qt; rw [if_pos rfl]; rw [Nat.mul_comm (ar rv (f + k9)) 100]; exact c83); rw [show f + (k9 + 1) = f + k9 + 1 by omega]; omega, fun q => absurd q (by decide)⟩) (by omega) (lv_sub hl [1, 0, 3, 4, 5, 6, 7, 8] rfl)
  exact L6 ((2 * (nr rv - (f + 0)) + 1) + 1) 0 1 ls (by omega) (by omega) (⟨fun _ => by rw [Nat.add_zero, Nat.zero_add], fun q => absurd q (by decide)⟩) (Nat.lt_succ_self _) (lv_sub hl [0, 1, 2, 3, 4, 5, 6, 7] rfl)
set_option maxHeartbeats 4000000 in
set_option maxRecDepth 100000 in
theorem k_X6_places (l : Launch) (X : Cx) (ad : Nat → Nat) (hi : inj 48 ad) (g : PF) (nm fa fb : Nat) (mc rd : Nat → Nat → Nat) (nr : Nat → Nat) (ar : Nat → Nat → Nat) (nb : Nat) (num : Nat → Nat) (lay pev : Nat) (pln : Nat → Nat) (tr : Nat) (hR : rMod X ad ((nm, fa, fb, mc, rd), nr, ar, (nb, num, lay, pev, pln, tr)) g) (p0 p1 p2 p3 p4 : Int32) : Ki l yX6_places wsX6_places zr3 X 48 ad g [.ref (ad 36), .int p0, .int p1, .int p2, .int p3, .int p4] (fun r g' => g' = g ∧ r = rowRd (sp_places p1 p2 p3 p4) (-2) p0 ((nm, fa, fb, mc, rd), nr, ar, (nb, num, lay, pev, pln, tr))) := by
  refine Ki.of (cc := cX6_places) (maxL := 11) hi (by decide) rfl (Nat.le_of_ble_eq_true rfl) ?_
  intro p e s m below meth c Q E RET ls hl
  obtain ⟨C0, FX, hH⟩ := E
  have hx := C0.1
  have hb := C0.2.1
  have kiX6 : ∀ w ∈ u_ws RX6 TX6 18, w ∈ wsX6_places := (by decide +kernel)
  have kf35 : Cond.fieldLink RX6 35 "YarnMillModel" "cells" "[I" ∈ wsX6_places := (by decide +kernel)
  have hl : lv_has ls 11 [(0, .ref (ad 36)), (1, .int p0), (2, .int p1), (3, .int p2), (4, .int p3), (5, .int p4)] := hl
  obtain ⟨md, ma, mb, ml, mr, mo, cn, ms, fs, nn, pl, pm, f36, f37, f38, f39, f40, f41, f42, f43, f44, f45, f46, f47, hrL, hrR, hrS, hlok, hrok, hsok, hpm⟩ := hR
  have f36 : g 36 = .inr (6, [.int (nI fa), .int (nI fb), .int (nI nm), .ref (ad 37), .ref (ad 38), .ref (ad 39), .ref (ad 40), .ref (ad 41), .ref (ad 42), .ref (ad 43), .ref (ad 44), .ref (ad 45), .int (nI nb), .ref (ad 46), .int (nI lay), .int (nI pm), .ref (ad 47), .int (nI tr)]) := f36
  have hq37 : ∀ j, j < nm → md j = mc j 0 := fun j hj => (hrL.1 j hj).1
  have hq38 : ∀ j, j < nm → ma j = mc j 1 := fun j hj => (hrL.1 j hj).2.1
  have hq39 : ∀ j, j < nm → mb j = mc j 2 := fun j hj => (hrL.1 j hj).2.2.1
  have hq40 : ∀ j, j < nm → ml j = mc j 3 := fun j hj => (hrL.1 j hj).2.2.2.1
  have hq41 : ∀ j, j < nm → mr j = mc j 4 := fun j hj => (hrL.1 j hj).2.2.2.2
  have hmo : ∀ j, j < nm → ∀ r, r < mc j 4 → mo (3 * j + r) = rd j r := hrL.2
  have h6 : nm ≤ 6 := hlok.1
  have hfa : 1 ≤ fa ∧ fa ≤ 10000 := hlok.2.1
  have hfb : 1 ≤ fb ∧ fb ≤ 10000 := hlok.2.2.1
  have hmk : ∀ j, j < nm → mcOk (mc j) ∧ ∀ r, r < mc j 4 → 1 ≤ rd j r ∧ rd j r ≤ 1000 := hlok.2.2.2
  have hcn : ∀ r, r < 8 → cn r = nr r := hrR.1
  have hms : ∀ r, r < 8 → ∀ j, j < nr r → ms (400 * r + j) = ar r j := hrR.2
  have hro : ∀ r, r < 8 → nr r ≤ 400 ∧ ∀ j, j < nr r → ar r j ≤ 1000000 := hrok
  have hnn : ∀ j, j < nb → nn j = num j := hrS.1
  have hper : 0 < lay → pm = pev := hrS.2.1
  have hpl : ∀ j, j < lay * pev → pl j = pln j := hrS.2.2
  obtain ⟨k1, k2, k3, k4, k5, k6, k7⟩ := id hsok
  have k1 : nb ≤ 12 := k1
  have k2 : ∀ j, j < nb → num j ≤ 10000 := k2
  have k3 : 0 < lay → (1 ≤ pev ∧ pev ≤ 6) := k3
  have k4 : lay * pev ≤ 12 := k4
  have k5 : ∀ j, j < lay * pev → pln j ≤ 12 := k5
  have k6 : tr ≤ 100000 := k6
  have k7 : lay ≤ 12 := k7
  refine lv_iload_n hx hb dX6_places_0 rfl (lv_at hl 1 rfl) ?_
  refine rc_Si (rest := []) C0 FX hH (k_X6_isRow l X ad hi _ p0) (va_cwS 1 C0.2.2.2.2 gX6_places_X6_isRow rfl rfl rfl (by decide +kernel) ⟨Nat.le_of_ble_eq_true rfl, Nat.le_of_ble_eq_true rfl⟩) rfl rfl hl.1 (Nat.le_of_ble_eq_true rfl) dX6_places_1 ⟨Nat.le_of_ble_eq_true rfl, Nat.le_of_ble_eq_true rfl⟩ (fun r1 g1c H locs h1 hH => ?_)
  obtain ⟨e1, rfl⟩ := h1
  rw [e1] at hH
  refine rb_eq hx hb 28 dX6_places_4 (by decide) (fun c4 => ?_) (fun c4 => ?_)
  · refine lv_bipush (v := (-2)) hx hb dX6_places_28 (by decide) ?_
    refine RET _ _ _ _ _ _ dX6_places_30 rfl ?_ hH
    exact ⟨rfl, (rd_bad (by assumption)).symm⟩
  · obtain ⟨rv, rfl, rv1, rv2, rv3⟩ := rng_nI c4
    refine lv_iload_n hx hb dX6_places_7 rfl (lv_at hl 2 rfl) ?_
    refine lv_iload_n hx hb dX6_places_8 rfl (lv_at hl 3 rfl) ?_
    refine lv_iload hx hb dX6_places_9 (lv_at hl 4 rfl) ?_
    refine rc_Si (rest := []) C0 FX hH (k_X6_isLaw l X ad hi _ p1 p2 p3) (va_cwS 3 C0.2.2.2.2 gX6_places_X6_isLaw rfl rfl rfl (by decide +kernel) ⟨Nat.le_of_ble_eq_true rfl, Nat.le_of_ble_eq_true rfl⟩) rfl rfl hl.1 (Nat.le_of_ble_eq_true rfl) dX6_places_11 ⟨Nat.le_of_ble_eq_true rfl, Nat.le_of_ble_eq_true rfl⟩ (fun r11 g11c H locs h11 hH => ?_)
    obtain ⟨e11, rfl⟩ := h11
    rw [e11] at hH
    refine rb_eq hx hb 28 dX6_places_14 (by decide) (fun c14 => ?_) (fun c14 => ?_)
    · refine lv_bipush (v := (-2)) hx hb dX6_places_28 (by decide) ?_
      refine RET _ _ _ _ _ _ dX6_places_30 rfl ?_ hH
      refine ⟨rfl, (?_ : _ = _)⟩
      rw [rd_row rv2]
      show _ = sp_places _ _ _ _ (nr rv) (ar rv)
      unfold sp_places
      rw [if_neg (fun z => by first | exact absurd z.1 (by assumption) | exact absurd z.2 (by assumption))]
    · obtain ⟨tv, rfl, tv1, tv2, tv3⟩ := rng_nI c14.1
      obtain ⟨uv, rfl, uv1, uv2, uv3⟩ := rng_nI c14.2.1
      obtain ⟨lv, rfl, lv1, lv2, lv3⟩ := rng_nI c14.2.2
      refine lv_iload hx hb dX6_places_17 (lv_at hl 5 rfl) ?_
      refine lv_i2l hx hb dX6_places_19 rfl ?_
      refine lv_lconst (v := lN 0) hx hb dX6_places_20 (by decide) ?_
      refine lv_lconst (v := lN 1) hx hb dX6_places_21 (by decide) ?_
      refine rc_Si (rest := []) C0 FX hH (k_X6_in_rng l X ad hi _ p4 0 1 (by omega) (by omega)) (va_cwS 3 C0.2.2.2.2 gX6_places_X6_in rfl rfl rfl (by decide +kernel) ⟨Nat.le_of_ble_eq_true rfl, Nat.le_of_ble_eq_true rfl⟩) rfl rfl hl.1 (Nat.le_of_ble_eq_true rfl) dX6_places_22 ⟨Nat.le_of_ble_eq_true rfl, Nat.le_of_ble_eq_true rfl⟩ (fun r22 g22c H locs h22 hH => ?_)
      obtain ⟨e22, rfl⟩ := h22
      rw [e22] at hH
      refine rb_ne hx hb 31 dX6_places_25 (by decide) (fun c25 => ?_) (fun c25 => ?_)
      · obtain ⟨sv, rfl, sv1, sv2, sv3⟩ := rng_nI c25
        have hro9 := (hro rv (by omega)).1
        have hra9 := (hro rv (by omega)).2
        have hml := mean_le hro9 hra9
        have hsm := sm_le hra9
        refine lv_aload_n hx hb dX6_places_31 rfl (lv_at hl 0 rfl) ?_
        refine rp_get C0 FX hH 36 (by decide) (ci := 6) (k := 9) f36 rfl kiX6 (by decide) kf35 rfl dX6_places_32 ?_
        refine lv_iload_n hx hb dX6_places_35 rfl (lv_at hl 1 rfl) ?_
        refine rp_iald C0 FX hH 43 (by decide) (v := nr rv) f43 rv (by omega) (by decide) (hcn _ (by omega)) dX6_places_36 ?_
        refine ni_ne0 hx hb 44 dX6_places_37 (by decide) (by omega) (fun c37 => ?_) (fun c37 => ?_)
        · refine lv_aload_n hx hb dX6_places_44 rfl (lv_at hl 0 rfl) ?_
          refine lv_iload_n hx hb dX6_places_45 rfl (lv_at hl 1 rfl) ?_
          refine rc_Vl (rest := []) C0 FX hH 36 (by decide) f36 rfl (k_X6_sum l X ad hi _ nm fa fb mc rd nr ar nb num lay pev pln tr ⟨_, _, _, _, _, _, _, _, _, _, _, _, f36, f37, f38, f39, f40, f41, f42, f43, f44, f45, f46, f47, hrL, hrR, hrS, hlok, hrok, hsok, hpm⟩ rv (by omega)) (cwV 1 C0.2.2.2.2 gX6_places_X6_sum rfl rfl rfl (by decide +kernel) ⟨Nat.le_of_ble_eq_true rfl, Nat.le_of_ble_eq_true rfl⟩) rfl rfl hl.1 (Nat.le_of_ble_eq_true rfl) dX6_places_46 ⟨Nat.le_of_ble_eq_true rfl, Nat.le_of_ble_eq_true rfl⟩ (fun r46 g46c H locs h46 hH => ?_)
          obtain ⟨e46, rfl⟩ := h46
          rw [e46] at hH
          refine lv_aload_n hx hb dX6_places_49 rfl (lv_at hl 0 rfl) ?_
          refine rp_get C0 FX hH 36 (by decide) (ci := 6) (k := 9) f36 rfl kiX6 (by decide) kf35 rfl dX6_places_50 ?_
          refine lv_iload_n hx hb dX6_places_53 rfl (lv_at hl 1 rfl) ?_
          refine rp_iald C0 FX hH 43 (by decide) (v := nr rv) f43 rv (by omega) (by decide) (hcn _ (by omega)) dX6_places_54 ?_
          refine ni_i2l hx hb (by omega) dX6_places_55 ?_
          refine ni_ldiv hx hb (by omega) (by omega) (by omega) dX6_places_56 ?_
          refine ni_topl (b := sp_mean (nr rv) (ar rv)) (rfl) ?_
          refine lv_lstore (lv' := [(6, .long (lN (sp_mean (nr rv) (ar rv)))), (0, .ref (ad 36)), (1, .int (nI rv)), (2, .int (nI tv)), (3, .int (nI uv)), (4, .int (nI lv)), (5, .int (nI sv))]) hx hb dX6_places_57 hl (by decide) rfl (fun ls hl => ?_)
          rcases (show sv = 0 ∨ sv = 1 by omega) with rfl | rfl
          · refine lv_iconst (v := nI 0) hx hb dX6_places_59 (by decide) ?_
            refine lv_istore (lv' := [(8, .int (nI 0)), (6, .long (lN (sp_mean (nr rv) (ar rv)))), (0, .ref (ad 36)), (1, .int (nI rv)), (2, .int (nI tv)), (3, .int (nI uv)), (4, .int (nI lv)), (5, .int (nI 0))]) hx hb dX6_places_60 hl (by decide) rfl (fun ls hl => ?_)
            refine lv_iconst (v := nI 0) hx hb dX6_places_62 (by decide) ?_
            refine lv_istore (lv' := [(9, .int (nI 0)), (8, .int (nI 0)), (6, .long (lN (sp_mean (nr rv) (ar rv)))), (0, .ref (ad 36)), (1, .int (nI rv)), (2, .int (nI tv)), (3, .int (nI uv)), (4, .int (nI lv)), (5, .int (nI 0))]) hx hb dX6_places_63 hl (by decide) rfl (fun ls hl => ?_)
            have L65 : ∀ (fu : Nat) (F : Nat) (i : Nat) (H : Heap) (locs : List Loc) (ls : Array Slot), (i ≤ nr rv) → (cur (run 1 (nr rv) (ar rv) (sp_mean (nr rv) (ar rv) * (100 + tv))) (cpf (run 1 (nr rv) (ar rv) (sp_mean (nr rv) (ar rv) * (100 + tv))) lv) (nr rv) (nr rv - i) i F = cur (run 1 (nr rv) (ar rv) (sp_mean (nr rv) (ar rv) * (100 + tv))) (cpf (run 1 (nr rv) (ar rv) (sp_mean (nr rv) (ar rv) * (100 + tv))) lv) (nr rv) (nr rv) 0 0) → (F ≤ i) → nr rv - i < fu → WH X 48 ad (pA 48 ad s.heap.size) s g H locs → lv_has ls 11 [(9, .int (nI i)), (8, .int (nI F)), (6, .long (lN (sp_mean (nr rv) (ar rv)))), (0, .ref (ad 36)), (1, .int (nI rv)), (2, .int (nI tv)), (3, .int (nI uv)), (4, .int (nI lv)), (5, .int (nI 0))] → W p l e zr3 s m ([.ref (ad 36), .int (nI rv), .int (nI tv), .int (nI uv), .int (nI lv), .int (nI 0)] : List Value).toArray below meth c H locs 0 0 Q (F0 m 65 ls []) := by
              intro fu
              induction fu with
              | zero =>
                intro F i H locs ls i2 i3 i4 hm
                exact absurd hm (Nat.not_lt_zero _)
              | succ fu ih =>
                have ih65 := ih; clear ih
                intro F i H locs ls i2 i3 i4 hm65 hH hl
                have hrl := run_le 1 (nr rv) (ar rv) (sp_mean (nr rv) (ar rv) * (100 + tv)) i
                refine lv_iload hx hb dX6_places_65 (lv_at hl 0 rfl) ?_
                refine lv_aload_n hx hb dX6_places_67 rfl (lv_at hl 3 rfl) ?_
                refine rp_get C0 FX hH 36 (by decide) (ci := 6) (k := 9) f36 rfl kiX6 (by decide) kf35 rfl dX6_places_68 ?_
                refine lv_iload_n hx hb dX6_places_71 rfl (lv_at hl 4 rfl) ?_
                refine rp_iald C0 FX hH 43 (by decide) (v := nr rv) f43 rv (by omega) (by decide) (hcn _ (by omega)) dX6_places_72 ?_
                refine ni_cge hx hb 135 dX6_places_73 (by decide) (by omega) (by omega) (fun c73 => ?_) (fun c73 => ?_)
                · refine lv_iload hx hb dX6_places_135 (lv_at hl 1 rfl) ?_
                  refine RET _ _ _ _ _ _ dX6_places_137 rfl ?_ hH
                  refine ⟨rfl, (?_ : _ = _)⟩
                  rw [rd_row rv2]
                  show _ = sp_places _ _ _ _ (nr rv) (ar rv)
                  unfold sp_places
                  rw [if_pos ⟨c14, by decide⟩, if_pos rfl, tN_nI (by omega), tN_nI (by omega), ← i3, cur_no _ _ (by omega)]
                · refine lv_aload_n hx hb dX6_places_76 rfl (lv_at hl 3 rfl) ?_
                  refine lv_iload_n hx hb dX6_places_77 rfl (lv_at hl 4 rfl) ?_
                  refine lv_iload hx hb dX6_places_78 (lv_at hl 0 rfl) ?_
                  refine lv_lload hx hb dX6_places_80 (lv_at hl 2 rfl) ?_
                  refine lv_iload hx hb dX6_places_82 (lv_at hl 8 rfl) ?_
                  refine lv_iload hx hb dX6_places_84 (lv_at hl 8 rfl) ?_
                  refine lv_if_ne (tgt := 93) hx hb dX6_places_86 (by decide) (fun c86 => absurd (by decide) c86) (fun c86 => ?_)
                  refine lv_iload_n hx hb dX6_places_89 rfl (lv_at hl 5 rfl) ?_
                  refine lv_goto (tgt := 94) hx hb dX6_places_90 (by decide) ?_
                  refine rc_Vi (rest := []) C0 FX hH 36 (by decide) f36 rfl (k_X6_run_0 l X ad hi _ nm fa fb mc rd nr ar nb num lay pev pln tr ⟨_, _, _, _, _, _, _, _, _, _, _, _, f36, f37, f38, f39, f40, f41, f42, f43, f44, f45, f46, f47, hrL, hrR, hrS, hlok, hrok, hsok, hpm⟩ rv i (sp_mean (nr rv) (ar rv)) tv (by omega) (by omega) (by omega) (by omega)) (cwV 5 C0.2.2.2.2 gX6_places_X6_run rfl rfl rfl (by decide +kernel) ⟨Nat.le_of_ble_eq_true rfl, Nat.le_of_ble_eq_true rfl⟩) rfl rfl hl.1 (Nat.le_of_ble_eq_true rfl) dX6_places_94 ⟨Nat.le_of_ble_eq_true rfl, Nat.le_of_ble_eq_true rfl⟩ (fun r94 g94c H locs h94 hH => ?_)
                  obtain ⟨e94, rfl⟩ := h94
                  rw [e94] at hH
                  refine lv_istore (lv' := [(10, .int (nI (run 1 (nr rv) (ar rv) ((sp_mean (nr rv) (ar rv)) * (100 + tv)) i))), (9, .int (nI i)), (8, .int (nI F)), (6, .long (lN (sp_mean (nr rv) (ar rv)))), (0, .ref (ad 36)), (1, .int (nI rv)), (2, .int (nI tv)), (3, .int (nI uv)), (4, .int (nI lv)), (5, .int (nI 0))]) hx hb dX6_places_97 hl (by decide) rfl (fun ls hl => ?_)
                  refine lv_iload hx hb dX6_places_99 (lv_at hl 2 rfl) ?_
                  refine lv_iload hx hb dX6_places_101 (lv_at hl 0 rfl) ?_
                  refine lv_iload hx hb dX6_places_103 (lv_at hl 8 rfl) ?_
                  refine ni_clt hx hb 112 dX6_places_105 (by decide) (by omega) (by omega) (fun c105 => ?_) (fun c105 => ?_)
                  · refine lv_iconst (v := nI 0) hx hb dX6_places_112 (by decide) ?_
                    refine ni_iadd hx hb dX6_places_113 ?_
                    refine lv_istore (lv' := [(8, .int (nI (F + 0))), (10, .int (nI (run 1 (nr rv) (ar rv) ((sp_mean (nr rv) (ar rv)) * (100 + tv)) i))), (9, .int (nI i)), (6, .long (lN (sp_mean (nr rv) (ar rv)))), (0, .ref (ad 36)), (1, .int (nI rv)), (2, .int (nI tv)), (3, .int (nI uv)), (4, .int (nI lv)), (5, .int (nI 0))]) hx hb dX6_places_114 hl (by decide) rfl (fun ls hl => ?_)
                    refine lv_iload hx hb dX6_places_116 (lv_at hl 2 rfl) ?_
                    refine lv_iload hx hb dX6_places_118 (lv_at hl 1 rfl) ?_
                    refine ni_le0 hx hb 128 dX6_places_120 (by decide) (by omega) (fun c120 => ?_) (fun c120 => ?_)
                    · refine lv_iconst (v := nI 1) hx hb dX6_places_128 (by decide) ?_
                      refine ni_iadd hx hb dX6_places_129 ?_
                      refine lv_istore (lv' := [(9, .int (nI (i + 1))), (8, .int (nI (F + 0))), (10, .int (nI (run 1 (nr rv) (ar rv) ((sp_mean (nr rv) (ar rv)) * (100 + tv)) i))), (6, .long (lN (sp_mean (nr rv) (ar rv)))), (0, .ref (ad 36)), (1, .int (nI rv)), (2, .int (nI tv)), (3, .int (nI uv)), (4, .int (nI lv)), (5, .int (nI 0))]) hx hb dX6_places_130 hl (by decide) rfl (fun ls hl => ?_)
                      refine lv_goto (tgt := 65) hx hb dX6_places_132 (by decide) ?_
                      exact ih65 (F + 0) (i + 1) _ _ ls (by omega) (by rw [← i3, cur_step _ _ c73, show cpf (run 1 (nr rv) (ar rv) (sp_mean (nr rv) (ar rv) * (100 + tv))) lv i F = F + 0 from if_neg (by omega), Nat.max_eq_right (by omega)]) (by omega) (by omega) hH (lv_sub hl [0, 1, 3, 4, 5, 6, 7, 8, 9] rfl)
                    · refine lv_iload hx hb dX6_places_123 (lv_at hl 1 rfl) ?_
                      refine lv_goto (tgt := 129) hx hb dX6_places_125 (by decide) ?_
                      refine ni_iadd hx hb dX6_places_129 ?_
                      refine lv_istore (lv' := [(9, .int (nI (i + (run 1 (nr rv) (ar rv) ((sp_mean (nr rv) (ar rv)) * (100 + tv)) i)))), (8, .int (nI (F + 0))), (10, .int (nI (run 1 (nr rv) (ar rv) ((sp_mean (nr rv) (ar rv)) * (100 + tv)) i))), (6, .long (lN (sp_mean (nr rv) (ar rv)))), (0, .ref (ad 36)), (1, .int (nI rv)), (2, .int (nI tv)), (3, .int (nI uv)), (4, .int (nI lv)), (5, .int (nI 0))]) hx hb dX6_places_130 hl (by decide) rfl (fun ls hl => ?_)
                      refine lv_goto (tgt := 65) hx hb dX6_places_132 (by decide) ?_
                      exact ih65 (F + 0) (i + (run 1 (nr rv) (ar rv) ((sp_mean (nr rv) (ar rv)) * (100 + tv)) i)) _ _ ls (by omega) (by rw [← i3, cur_step _ _ c73, show cpf (run 1 (nr rv) (ar rv) (sp_mean (nr rv) (ar rv) * (100 + tv))) lv i F = F + 0 from if_neg (by omega), Nat.max_eq_left (by omega)]) (by omega) (by omega) hH (lv_sub hl [0, 1, 3, 4, 5, 6, 7, 8, 9] rfl)
                  · refine lv_iconst (v := nI 1) hx hb dX6_places_108 (by decide) ?_
                    refine lv_goto (tgt := 113) hx hb dX6_places_109 (by decide) ?_
                    refine ni_iadd hx hb dX6_places_113 ?_
                    refine lv_istore (lv' := [(8, .int (nI (F + 1))), (10, .int (nI (run 1 (nr rv) (ar rv) ((sp_mean (nr rv) (ar rv)) * (100 + tv)) i))), (9, .int (nI i)), (6, .long (lN (sp_mean (nr rv) (ar rv)))), (0, .ref (ad 36)), (1, .int (nI rv)), (2, .int (nI tv)), (3, .int (nI uv)), (4, .int (nI lv)), (5, .int (nI 0))]) hx hb dX6_places_114 hl (by decide) rfl (fun ls hl => ?_)
                    refine lv_iload hx hb dX6_places_116 (lv_at hl 2 rfl) ?_
                    refine lv_iload hx hb dX6_places_118 (lv_at hl 1 rfl) ?_
                    refine ni_le0 hx hb 128 dX6_places_120 (by decide) (by omega) (fun c120 => ?_) (fun c120 => ?_)
                    · refine lv_iconst (v := nI 1) hx hb dX6_places_128 (by decide) ?_
                      refine ni_iadd hx hb dX6_places_129 ?_
                      refine lv_istore (lv' := [(9, .int (nI (i + 1))), (8, .int (nI (F + 1))), (10, .int (nI (run 1 (nr rv) (ar rv) ((sp_mean (nr rv) (ar rv)) * (100 + tv)) i))), (6, .long (lN (sp_mean (nr rv) (ar rv)))), (0, .ref (ad 36)), (1, .int (nI rv)), (2, .int (nI tv)), (3, .int (nI uv)), (4, .int (nI lv)), (5, .int (nI 0))]) hx hb dX6_places_130 hl (by decide) rfl (fun ls hl => ?_)
                      refine lv_goto (tgt := 65) hx hb dX6_places_132 (by decide) ?_
                      exact ih65 (F + 1) (i + 1) _ _ ls (by omega) (by rw [← i3, cur_step _ _ c73, show cpf (run 1 (nr rv) (ar rv) (sp_mean (nr rv) (ar rv) * (100 + tv))) lv i F = F + 1 from if_pos c105, Nat.max_eq_right (by omega)]) (by omega) (by omega) hH (lv_sub hl [0, 1, 3, 4, 5, 6, 7, 8, 9] rfl)
                    · refine lv_iload hx hb dX6_places_123 (lv_at hl 1 rfl) ?_
                      refine lv_goto (tgt := 129) hx hb dX6_places_125 (by decide) ?_
                      refine ni_iadd hx hb dX6_places_129 ?_
                      refine lv_istore (lv' := [(9, .int (nI (i + (run 1 (nr rv) (ar rv) ((sp_mean (nr rv) (ar rv)) * (100 + tv)) i)))), (8, .int (nI (F + 1))), (10, .int (nI (run 1 (nr rv) (ar rv) ((sp_mean (nr rv) (ar rv)) * (100 + tv)) i))), (6, .long (lN (sp_mean (nr rv) (ar rv)))), (0, .ref (ad 36)), (1, .int (nI rv)), (2, .int (nI tv)), (3, .int (nI uv)), (4, .int (nI lv)), (5, .int (nI 0))]) hx hb dX6_places_130 hl (by decide) rfl (fun ls hl => ?_)
                      refine lv_goto (tgt := 65) hx hb dX6_places_132 (by decide) ?_
                      exact ih65 (F + 1) (i + (run 1 (nr rv) (ar rv) ((sp_mean (nr rv) (ar rv)) * (100 + tv)) i)) _ _ ls (by omega) (by rw [← i3, cur_step _ _ c73, show cpf (run 1 (nr rv) (ar rv) (sp_mean (nr rv) (ar rv) * (100 + tv))) lv i F = F + 1 from if_pos c105, Nat.max_eq_left (by omega)]) (by omega) (by omega) hH (lv_sub hl [0, 1, 3, 4, 5, 6, 7, 8, 9] rfl)
            exact L65 ((nr rv - 0) + 1) 0 0 _ _ ls (by omega) (by rfl) (by omega) (Nat.lt_succ_self _) hH (lv_sub hl [0, 1, 2, 3, 4, 5, 6, 7, 8] rfl)
          · refine lv_iconst (v := nI 0) hx hb dX6_places_59 (by decide) ?_
            refine lv_istore (lv' := [(8, .int (nI 0)), (6, .long (lN (sp_mean (nr rv) (ar rv)))), (0, .ref (ad 36)), (1, .int (nI rv)), (2, .int (nI tv)), (3, .int (nI uv)), (4, .int (nI lv)), (5, .int (nI 1))]) hx hb dX6_places_60 hl (by decide) rfl (fun ls hl => ?_)
            refine lv_iconst (v := nI 0) hx hb dX6_places_62 (by decide) ?_
            refine lv_istore (lv' := [(9, .int (nI 0)), (8, .int (nI 0)), (6, .long (lN (sp_mean (nr rv) (ar rv)))), (0, .ref (ad 36)), (1, .int (nI rv)), (2, .int (nI tv)), (3, .int (nI uv)), (4, .int (nI lv)), (5, .int (nI 1))]) hx hb dX6_places_63 hl (by decide) rfl (fun ls hl => ?_)
            have L65 : ∀ (fu : Nat) (F : Nat) (i : Nat) (H : Heap) (locs : List Loc) (ls : Array Slot), (i ≤ nr rv) → (cur (run 0 (nr rv) (ar rv) (sp_mean (nr rv) (ar rv) * (100 - uv))) (cpf (run 0 (nr rv) (ar rv) (sp_mean (nr rv) (ar rv) * (100 - uv))) lv) (nr rv) (nr rv - i) i F = cur (run 0 (nr rv) (ar rv) (sp_mean (nr rv) (ar rv) * (100 - uv))) (cpf (run 0 (nr rv) (ar rv) (sp_mean (nr rv) (ar rv) * (100 - uv))) lv) (nr rv) (nr rv) 0 0) → (F ≤ i) → nr rv - i < fu → WH X 48 ad (pA 48 ad s.heap.size) s g H locs → lv_has ls 11 [(9, .int (nI i)), (8, .int (nI F)), (6, .long (lN (sp_mean (nr rv) (ar rv)))), (0, .ref (ad 36)), (1, .int (nI rv)), (2, .int (nI tv)), (3, .int (nI uv)), (4, .int (nI lv)), (5, .int (nI 1))] → W p l e zr3 s m ([.ref (ad 36), .int (nI rv), .int (nI tv), .int (nI uv), .int (nI lv), .int (nI 1)] : List Value).toArray below meth c H locs 0 0 Q (F0 m 65 ls []) := by
              intro fu
              induction fu with
              | zero =>
                intro F i H locs ls i2 i3 i4 hm
                exact absurd hm (Nat.not_lt_zero _)
              | succ fu ih =>
                have ih65 := ih; clear ih
                intro F i H locs ls i2 i3 i4 hm65 hH hl
                have hrl := run_le 0 (nr rv) (ar rv) (sp_mean (nr rv) (ar rv) * (100 - uv)) i
                refine lv_iload hx hb dX6_places_65 (lv_at hl 0 rfl) ?_
                refine lv_aload_n hx hb dX6_places_67 rfl (lv_at hl 3 rfl) ?_
                refine rp_get C0 FX hH 36 (by decide) (ci := 6) (k := 9) f36 rfl kiX6 (by decide) kf35 rfl dX6_places_68 ?_
                refine lv_iload_n hx hb dX6_places_71 rfl (lv_at hl 4 rfl) ?_
                refine rp_iald C0 FX hH 43 (by decide) (v := nr rv) f43 rv (by omega) (by decide) (hcn _ (by omega)) dX6_places_72 ?_
                refine ni_cge hx hb 135 dX6_places_73 (by decide) (by omega) (by omega) (fun c73 => ?_) (fun c73 => ?_)
                · refine lv_iload hx hb dX6_places_135 (lv_at hl 1 rfl) ?_
                  refine RET _ _ _ _ _ _ dX6_places_137 rfl ?_ hH
                  refine ⟨rfl, (?_ : _ = _)⟩
                  rw [rd_row rv2]
                  show _ = sp_places _ _ _ _ (nr rv) (ar rv)
                  unfold sp_places
                  rw [if_pos ⟨c14, by decide⟩, if_neg (by decide), tN_nI (by omega), tN_nI (by omega), ← i3, cur_no _ _ (by omega)]
                · refine lv_aload_n hx hb dX6_places_76 rfl (lv_at hl 3 rfl) ?_
                  refine lv_iload_n hx hb dX6_places_77 rfl (lv_at hl 4 rfl) ?_
                  refine lv_iload hx hb dX6_places_78 (lv_at hl 0 rfl) ?_
                  refine lv_lload hx hb dX6_places_80 (lv_at hl 2 rfl) ?_
                  refine lv_iload hx hb dX6_places_82 (lv_at hl 8 rfl) ?_
                  refine lv_iload hx hb dX6_places_84 (lv_at hl 8 rfl) ?_
                  refine lv_if_ne (tgt := 93) hx hb dX6_places_86 (by decide) (fun c86 => ?_) (fun c86 => absurd c86 (by decide))
                  refine lv_iload_n hx hb dX6_places_93 rfl (lv_at hl 6 rfl) ?_
                  refine rc_Vi (rest := []) C0 FX hH 36 (by decide) f36 rfl (k_X6_run_1 l X ad hi _ nm fa fb mc rd nr ar nb num lay pev pln tr ⟨_, _, _, _, _, _, _, _, _, _, _, _, f36, f37, f38, f39, f40, f41, f42, f43, f44, f45, f46, f47, hrL, hrR, hrS, hlok, hrok, hsok, hpm⟩ rv i (sp_mean (nr rv) (ar rv)) uv (by omega) (by omega) (by omega) (by omega)) (cwV 5 C0.2.2.2.2 gX6_places_X6_run rfl rfl rfl (by decide +kernel) ⟨Nat.le_of_ble_eq_true rfl, Nat.le_of_ble_eq_true rfl⟩) rfl rfl hl.1 (Nat.le_of_ble_eq_true rfl) dX6_places_94 ⟨Nat.le_of_ble_eq_true rfl, Nat.le_of_ble_eq_true rfl⟩ (fun r94 g94c H locs h94 hH => ?_)
                  obtain ⟨e94, rfl⟩ := h94
                  rw [e94] at hH
                  refine lv_istore (lv' := [(10, .int (nI (run 0 (nr rv) (ar rv) ((sp_mean (nr rv) (ar rv)) * (100 - uv)) i))), (9, .int (nI i)), (8, .int (nI F)), (6, .long (lN (sp_mean (nr rv) (ar rv)))), (0, .ref (ad 36)), (1, .int (nI rv)), (2, .int (nI tv)), (3, .int (nI uv)), (4, .int (nI lv)), (5, .int (nI 1))]) hx hb dX6_places_97 hl (by decide) rfl (fun ls hl => ?_)
                  refine lv_iload hx hb dX6_places_99 (lv_at hl 2 rfl) ?_
                  refine lv_iload hx hb dX6_places_101 (lv_at hl 0 rfl) ?_
                  refine lv_iload hx hb dX6_places_103 (lv_at hl 8 rfl) ?_
                  refine ni_clt hx hb 112 dX6_places_105 (by decide) (by omega) (by omega) (fun c105 => ?_) (fun c105 => ?_)
                  · refine lv_iconst (v := nI 0) hx hb dX6_places_112 (by decide) ?_
                    refine ni_iadd hx hb dX6_places_113 ?_
                    refine lv_istore (lv' := [(8, .int (nI (F + 0))), (10, .int (nI (run 0 (nr rv) (ar rv) ((sp_mean (nr rv) (ar rv)) * (100 - uv)) i))), (9, .int (nI i)), (6, .long (lN (sp_mean (nr rv) (ar rv)))), (0, .ref (ad 36)), (1, .int (nI rv)), (2, .int (nI tv)), (3, .int (nI uv)), (4, .int (nI lv)), (5, .int (nI 1))]) hx hb dX6_places_114 hl (by decide) rfl (fun ls hl => ?_)
                    refine lv_iload hx hb dX6_places_116 (lv_at hl 2 rfl) ?_
                    refine lv_iload hx hb dX6_places_118 (lv_at hl 1 rfl) ?_
                    refine ni_le0 hx hb 128 dX6_places_120 (by decide) (by omega) (fun c120 => ?_) (fun c120 => ?_)
                    · refine lv_iconst (v := nI 1) hx hb dX6_places_128 (by decide) ?_
                      refine ni_iadd hx hb dX6_places_129 ?_
                      refine lv_istore (lv' := [(9, .int (nI (i + 1))), (8, .int (nI (F + 0))), (10, .int (nI (run 0 (nr rv) (ar rv) ((sp_mean (nr rv) (ar rv)) * (100 - uv)) i))), (6, .long (lN (sp_mean (nr rv) (ar rv)))), (0, .ref (ad 36)), (1, .int (nI rv)), (2, .int (nI tv)), (3, .int (nI uv)), (4, .int (nI lv)), (5, .int (nI 1))]) hx hb dX6_places_130 hl (by decide) rfl (fun ls hl => ?_)
                      refine lv_goto (tgt := 65) hx hb dX6_places_132 (by decide) ?_
                      exact ih65 (F + 0) (i + 1) _ _ ls (by omega) (by rw [← i3, cur_step _ _ c73, show cpf (run 0 (nr rv) (ar rv) (sp_mean (nr rv) (ar rv) * (100 - uv))) lv i F = F + 0 from if_neg (by omega), Nat.max_eq_right (by omega)]) (by omega) (by omega) hH (lv_sub hl [0, 1, 3, 4, 5, 6, 7, 8, 9] rfl)
                    · refine lv_iload hx hb dX6_places_123 (lv_at hl 1 rfl) ?_
                      refine lv_goto (tgt := 129) hx hb dX6_places_125 (by decide) ?_
                      refine ni_iadd hx hb dX6_places_129 ?_
                      refine lv_istore (lv' := [(9, .int (nI (i + (run 0 (nr rv) (ar rv) ((sp_mean (nr rv) (ar rv)) * (100 - uv)) i)))), (8, .int (nI (F + 0))), (10, .int (nI (run 0 (nr rv) (ar rv) ((sp_mean (nr rv) (ar rv)) * (100 - uv)) i))), (6, .long (lN (sp_mean (nr rv) (ar rv)))), (0, .ref (ad 36)), (1, .int (nI rv)), (2, .int (nI tv)), (3, .int (nI uv)), (4, .int (nI lv)), (5, .int (nI 1))]) hx hb dX6_places_130 hl (by decide) rfl (fun ls hl => ?_)
                      refine lv_goto (tgt := 65) hx hb dX6_places_132 (by decide) ?_
                      exact ih65 (F + 0) (i + (run 0 (nr rv) (ar rv) ((sp_mean (nr rv) (ar rv)) * (100 - uv)) i)) _ _ ls (by omega) (by rw [← i3, cur_step _ _ c73, show cpf (run 0 (nr rv) (ar rv) (sp_mean (nr rv) (ar rv) * (100 - uv))) lv i F = F + 0 from if_neg (by omega), Nat.max_eq_left (by omega)]) (by omega) (by omega) hH (lv_sub hl [0, 1, 3, 4, 5, 6, 7, 8, 9] rfl)
                  · refine lv_iconst (v := nI 1) hx hb dX6_places_108 (by decide) ?_
                    refine lv_goto (tgt := 113) hx hb dX6_places_109 (by decide) ?_
                    refine ni_iadd hx hb dX6_places_113 ?_
                    refine lv_istore (lv' := [(8, .int (nI (F + 1))), (10, .int (nI (run 0 (nr rv) (ar rv) ((sp_mean (nr rv) (ar rv)) * (100 - uv)) i))), (9, .int (nI i)), (6, .long (lN (sp_mean (nr rv) (ar rv)))), (0, .ref (ad 36)), (1, .int (nI rv)), (2, .int (nI tv)), (3, .int (nI uv)), (4, .int (nI lv)), (5, .int (nI 1))]) hx hb dX6_places_114 hl (by decide) rfl (fun ls hl => ?_)
                    refine lv_iload hx hb dX6_places_116 (lv_at hl 2 rfl) ?_
                    refine lv_iload hx hb dX6_places_118 (lv_at hl 1 rfl) ?_
                    refine ni_le0 hx hb 128 dX6_places_120 (by decide) (by omega) (fun c120 => ?_) (fun c120 => ?_)
                    · refine lv_iconst (v := nI 1) hx hb dX6_places_128 (by decide) ?_
                      refine ni_iadd hx hb dX6_places_129 ?_
                      refine lv_istore (lv' := [(9, .int (nI (i + 1))), (8, .int (nI (F + 1))), (10, .int (nI (run 0 (nr rv) (ar rv) ((sp_mean (nr rv) (ar rv)) * (100 - uv)) i))), (6, .long (lN (sp_mean (nr rv) (ar rv)))), (0, .ref (ad 36)), (1, .int (nI rv)), (2, .int (nI tv)), (3, .int (nI uv)), (4, .int (nI lv)), (5, .int (nI 1))]) hx hb dX6_places_130 hl (by decide) rfl (fun ls hl => ?_)
                      refine lv_goto (tgt := 65) hx hb dX6_places_132 (by decide) ?_
                      exact ih65 (F + 1) (i + 1) _ _ ls (by omega) (by rw [← i3, cur_step _ _ c73, show cpf (run 0 (nr rv) (ar rv) (sp_mean (nr rv) (ar rv) * (100 - uv))) lv i F = F + 1 from if_pos c105, Nat.max_eq_right (by omega)]) (by omega) (by omega) hH (lv_sub hl [0, 1, 3, 4, 5, 6, 7, 8, 9] rfl)
                    · refine lv_iload hx hb dX6_places_123 (lv_at hl 1 rfl) ?_
                      refine lv_goto (tgt := 129) hx hb dX6_places_125 (by decide) ?_
                      refine ni_iadd hx hb dX6_places_129 ?_
                      refine lv_istore (lv' := [(9, .int (nI (i + (run 0 (nr rv) (ar rv) ((sp_mean (nr rv) (ar rv)) * (100 - uv)) i)))), (8, .int (nI (F + 1))), (10, .int (nI (run 0 (nr rv) (ar rv) ((sp_mean (nr rv) (ar rv)) * (100 - uv)) i))), (6, .long (lN (sp_mean (nr rv) (ar rv)))), (0, .ref (ad 36)), (1, .int (nI rv)), (2, .int (nI tv)), (3, .int (nI uv)), (4, .int (nI lv)), (5, .int (nI 1))]) hx hb dX6_places_130 hl (by decide) rfl (fun ls hl => ?_)
                      refine lv_goto (tgt := 65) hx hb dX6_places_132 (by decide) ?_
                      exact ih65 (F + 1) (i + (run 0 (nr rv) (ar rv) ((sp_mean (nr rv) (ar rv)) * (100 - uv)) i)) _ _ ls (by omega) (by rw [← i3, cur_step _ _ c73, show cpf (run 0 (nr rv) (ar rv) (sp_mean (nr rv) (ar rv) * (100 - uv))) lv i F = F + 1 from if_pos c105, Nat.max_eq_left (by omega)]) (by omega) (by omega) hH (lv_sub hl [0, 1, 3, 4, 5, 6, 7, 8, 9] rfl)
            exact L65 ((nr rv - 0) + 1) 0 0 _ _ ls (by omega) (by rfl) (by omega) (Nat.lt_succ_self _) hH (lv_sub hl [0, 1, 2, 3, 4, 5, 6, 7, 8] rfl)
        · have hz0 : nr rv = 0 := c37
          refine lv_lconst (v := lN 0) hx hb dX6_places_40 (by decide) ?_
          refine lv_goto (tgt := 57) hx hb dX6_places_41 (by decide) ?_
          refine ni_topl (b := sp_mean (nr rv) (ar rv)) (by unfold sp_mean; rw [hz0, Nat.div_zero]) ?_
          refine lv_lstore (lv' := [(6, .long (lN (sp_mean (nr rv) (ar rv)))), (0, .ref (ad 36)), (1, .int (nI rv)), (2, .int (nI tv)), (3, .int (nI uv)), (4, .int (nI lv)), (5, .int (nI sv))]) hx hb dX6_places_57 hl (by decide) rfl (fun ls hl => ?_)
          rcases (show sv = 0 ∨ sv = 1 by omega) with rfl | rfl
          · refine lv_iconst (v := nI 0) hx hb dX6_places_59 (by decide) ?_
            refine lv_istore (lv' := [(8, .int (nI 0)), (6, .long (lN (sp_mean (nr rv) (ar rv)))), (0, .ref (ad 36)), (1, .int (nI rv)), (2, .int (nI tv)), (3, .int (nI uv)), (4, .int (nI lv)), (5, .int (nI 0))]) hx hb dX6_places_60 hl (by decide) rfl (fun ls hl => ?_)
            refine lv_iconst (v := nI 0) hx hb dX6_places_62 (by decide) ?_
            refine lv_istore (lv' := [(9, .int (nI 0)), (8, .int (nI 0)), (6, .long (lN (sp_mean (nr rv) (ar rv)))), (0, .ref (ad 36)), (1, .int (nI rv)), (2, .int (nI tv)), (3, .int (nI uv)), (4, .int (nI lv)), (5, .int (nI 0))]) hx hb dX6_places_63 hl (by decide) rfl (fun ls hl => ?_)
            have L65 : ∀ (fu : Nat) (F : Nat) (i : Nat) (H : Heap) (locs : List Loc) (ls : Array Slot), (i ≤ nr rv) → (cur (run 1 (nr rv) (ar rv) (sp_mean (nr rv) (ar rv) * (100 + tv))) (cpf (run 1 (nr rv) (ar rv) (sp_mean (nr rv) (ar rv) * (100 + tv))) lv) (nr rv) (nr rv - i) i F = cur (run 1 (nr rv) (ar rv) (sp_mean (nr rv) (ar rv) * (100 + tv))) (cpf (run 1 (nr rv) (ar rv) (sp_mean (nr rv) (ar rv) * (100 + tv))) lv) (nr rv) (nr rv) 0 0) → (F ≤ i) → nr rv - i < fu → WH X 48 ad (pA 48 ad s.heap.size) s g H locs → lv_has ls 11 [(9, .int (nI i)), (8, .int (nI F)), (6, .long (lN (sp_mean (nr rv) (ar rv)))), (0, .ref (ad 36)), (1, .int (nI rv)), (2, .int (nI tv)), (3, .int (nI uv)), (4, .int (nI lv)), (5, .int (nI 0))] → W p l e zr3 s m ([.ref (ad 36), .int (nI rv), .int (nI tv), .int (nI uv), .int (nI lv), .int (nI 0)] : List Value).toArray below meth c H locs 0 0 Q (F0 m 65 ls []) := by
              intro fu
              induction fu with
              | zero =>
                intro F i H locs ls i2 i3 i4 hm
                exact absurd hm (Nat.not_lt_zero _)
              | succ fu ih =>
                have ih65 := ih; clear ih
                intro F i H locs ls i2 i3 i4 hm65 hH hl
                have hrl := run_le 1 (nr rv) (ar rv) (sp_mean (nr rv) (ar rv) * (100 + tv)) i
                refine lv_iload hx hb dX6_places_65 (lv_at hl 0 rfl) ?_
                refine lv_aload_n hx hb dX6_places_67 rfl (lv_at hl 3 rfl) ?_
                refine rp_get C0 FX hH 36 (by decide) (ci := 6) (k := 9) f36 rfl kiX6 (by decide) kf35 rfl dX6_places_68 ?_
                refine lv_iload_n hx hb dX6_places_71 rfl (lv_at hl 4 rfl) ?_
                refine rp_iald C0 FX hH 43 (by decide) (v := nr rv) f43 rv (by omega) (by decide) (hcn _ (by omega)) dX6_places_72 ?_
                refine ni_cge hx hb 135 dX6_places_73 (by decide) (by omega) (by omega) (fun c73 => ?_) (fun c73 => ?_)
                · refine lv_iload hx hb dX6_places_135 (lv_at hl 1 rfl) ?_
                  refine RET _ _ _ _ _ _ dX6_places_137 rfl ?_ hH
                  refine ⟨rfl, (?_ : _ = _)⟩
                  rw [rd_row rv2]
                  show _ = sp_places _ _ _ _ (nr rv) (ar rv)
                  unfold sp_places
                  rw [if_pos ⟨c14, by decide⟩, if_pos rfl, tN_nI (by omega), tN_nI (by omega), ← i3, cur_no _ _ (by omega)]
                · refine lv_aload_n hx hb dX6_places_76 rfl (lv_at hl 3 rfl) ?_
                  refine lv_iload_n hx hb dX6_places_77 rfl (lv_at hl 4 rfl) ?_
                  refine lv_iload hx hb dX6_places_78 (lv_at hl 0 rfl) ?_
                  refine lv_lload hx hb dX6_places_80 (lv_at hl 2 rfl) ?_
                  refine lv_iload hx hb dX6_places_82 (lv_at hl 8 rfl) ?_
                  refine lv_iload hx hb dX6_places_84 (lv_at hl 8 rfl) ?_
                  refine lv_if_ne (tgt := 93) hx hb dX6_places_86 (by decide) (fun c86 => absurd (by decide) c86) (fun c86 => ?_)
                  refine lv_iload_n hx hb dX6_places_89 rfl (lv_at hl 5 rfl) ?_
                  refine lv_goto (tgt := 94) hx hb dX6_places_90 (by decide) ?_
                  refine rc_Vi (rest := []) C0 FX hH 36 (by decide) f36 rfl (k_X6_run_0 l X ad hi _ nm fa fb mc rd nr ar nb num lay pev pln tr ⟨_, _, _, _, _, _, _, _, _, _, _, _, f36, f37, f38, f39, f40, f41, f42, f43, f44, f45, f46, f47, hrL, hrR, hrS, hlok, hrok, hsok, hpm⟩ rv i (sp_mean (nr rv) (ar rv)) tv (by omega) (by omega) (by omega) (by omega)) (cwV 5 C0.2.2.2.2 gX6_places_X6_run rfl rfl rfl (by decide +kernel) ⟨Nat.le_of_ble_eq_true rfl, Nat.le_of_ble_eq_true rfl⟩) rfl rfl hl.1 (Nat.le_of_ble_eq_true rfl) dX6_places_94 ⟨Nat.le_of_ble_eq_true rfl, Nat.le_of_ble_eq_true rfl⟩ (fun r94 g94c H locs h94 hH => ?_)
                  obtain ⟨e94, rfl⟩ := h94
                  rw [e94] at hH
                  refine lv_istore (lv' := [(10, .int (nI (run 1 (nr rv) (ar rv) ((sp_mean (nr rv) (ar rv)) * (100 + tv)) i))), (9, .int (nI i)), (8, .int (nI F)), (6, .long (lN (sp_mean (nr rv) (ar rv)))), (0, .ref (ad 36)), (1, .int (nI rv)), (2, .int (nI tv)), (3, .int (nI uv)), (4, .int (nI lv)), (5, .int (nI 0))]) hx hb dX6_places_97 hl (by decide) rfl (fun ls hl => ?_)
                  refine lv_iload hx hb dX6_places_99 (lv_at hl 2 rfl) ?_
                  refine lv_iload hx hb dX6_places_101 (lv_at hl 0 rfl) ?_
                  refine lv_iload hx hb dX6_places_103 (lv_at hl 8 rfl) ?_
                  refine ni_clt hx hb 112 dX6_places_105 (by decide) (by omega) (by omega) (fun c105 => ?_) (fun c105 => ?_)
                  · refine lv_iconst (v := nI 0) hx hb dX6_places_112 (by decide) ?_
                    refine ni_iadd hx hb dX6_places_113 ?_
                    refine lv_istore (lv' := [(8, .int (nI (F + 0))), (10, .int (nI (run 1 (nr rv) (ar rv) ((sp_mean (nr rv) (ar rv)) * (100 + tv)) i))), (9, .int (nI i)), (6, .long (lN (sp_mean (nr rv) (ar rv)))), (0, .ref (ad 36)), (1, .int (nI rv)), (2, .int (nI tv)), (3, .int (nI uv)), (4, .int (nI lv)), (5, .int (nI 0))]) hx hb dX6_places_114 hl (by decide) rfl (fun ls hl => ?_)
                    refine lv_iload hx hb dX6_places_116 (lv_at hl 2 rfl) ?_
                    refine lv_iload hx hb dX6_places_118 (lv_at hl 1 rfl) ?_
                    refine ni_le0 hx hb 128 dX6_places_120 (by decide) (by omega) (fun c120 => ?_) (fun c120 => ?_)
                    · refine lv_iconst (v := nI 1) hx hb dX6_places_128 (by decide) ?_
                      refine ni_iadd hx hb dX6_places_129 ?_
                      refine lv_istore (lv' := [(9, .int (nI (i + 1))), (8, .int (nI (F + 0))), (10, .int (nI (run 1 (nr rv) (ar rv) ((sp_mean (nr rv) (ar rv)) * (100 + tv)) i))), (6, .long (lN (sp_mean (nr rv) (ar rv)))), (0, .ref (ad 36)), (1, .int (nI rv)), (2, .int (nI tv)), (3, .int (nI uv)), (4, .int (nI lv)), (5, .int (nI 0))]) hx hb dX6_places_130 hl (by decide) rfl (fun ls hl => ?_)
                      refine lv_goto (tgt := 65) hx hb dX6_places_132 (by decide) ?_
                      exact ih65 (F + 0) (i + 1) _ _ ls (by omega) (by rw [← i3, cur_step _ _ c73, show cpf (run 1 (nr rv) (ar rv) (sp_mean (nr rv) (ar rv) * (100 + tv))) lv i F = F + 0 from if_neg (by omega), Nat.max_eq_right (by omega)]) (by omega) (by omega) hH (lv_sub hl [0, 1, 3, 4, 5, 6, 7, 8, 9] rfl)
                    · refine lv_iload hx hb dX6_places_123 (lv_at hl 1 rfl) ?_
                      refine lv_goto (tgt := 129) hx hb dX6_places_125 (by decide) ?_
                      refine ni_iadd hx hb dX6_places_129 ?_
                      refine lv_istore (lv' := [(9, .int (nI (i + (run 1 (nr rv) (ar rv) ((sp_mean (nr rv) (ar rv)) * (100 + tv)) i)))), (8, .int (nI (F + 0))), (10, .int (nI (run 1 (nr rv) (ar rv) ((sp_mean (nr rv) (ar rv)) * (100 + tv)) i))), (6, .long (lN (sp_mean (nr rv) (ar rv)))), (0, .ref (ad 36)), (1, .int (nI rv)), (2, .int (nI tv)), (3, .int (nI uv)), (4, .int (nI lv)), (5, .int (nI 0))]) hx hb dX6_places_130 hl (by decide) rfl (fun ls hl => ?_)
                      refine lv_goto (tgt := 65) hx hb dX6_places_132 (by decide) ?_
                      exact ih65 (F + 0) (i + (run 1 (nr rv) (ar rv) ((sp_mean (nr rv) (ar rv)) * (100 + tv)) i)) _ _ ls (by omega) (by rw [← i3, cur_step _ _ c73, show cpf (run 1 (nr rv) (ar rv) (sp_mean (nr rv) (ar rv) * (100 + tv))) lv i F = F + 0 from if_neg (by omega), Nat.max_eq_left (by omega)]) (by omega) (by omega) hH (lv_sub hl [0, 1, 3, 4, 5, 6, 7, 8, 9] rfl)
                  · refine lv_iconst (v := nI 1) hx hb dX6_places_108 (by decide) ?_
                    refine lv_goto (tgt := 113) hx hb dX6_places_109 (by decide) ?_
                    refine ni_iadd hx hb dX6_places_113 ?_
                    refine lv_istore (lv' := [(8, .int (nI (F + 1))), (10, .int (nI (run 1 (nr rv) (ar rv) ((sp_mean (nr rv) (ar rv)) * (100 + tv)) i))), (9, .int (nI i)), (6, .long (lN (sp_mean (nr rv) (ar rv)))), (0, .ref (ad 36)), (1, .int (nI rv)), (2, .int (nI tv)), (3, .int (nI uv)), (4, .int (nI lv)), (5, .int (nI 0))]) hx hb dX6_places_114 hl (by decide) rfl (fun ls hl => ?_)
                    refine lv_iload hx hb dX6_places_116 (lv_at hl 2 rfl) ?_
                    refine lv_iload hx hb dX6_places_118 (lv_at hl 1 rfl) ?_
                    refine ni_le0 hx hb 128 dX6_places_120 (by decide) (by omega) (fun c120 => ?_) (fun c120 => ?_)
                    · refine lv_iconst (v := nI 1) hx hb dX6_places_128 (by decide) ?_
                      refine ni_iadd hx hb dX6_places_129 ?_
                      refine lv_istore (lv' := [(9, .int (nI (i + 1))), (8, .int (nI (F + 1))), (10, .int (nI (run 1 (nr rv) (ar rv) ((sp_mean (nr rv) (ar rv)) * (100 + tv)) i))), (6, .long (lN (sp_mean (nr rv) (ar rv)))), (0, .ref (ad 36)), (1, .int (nI rv)), (2, .int (nI tv)), (3, .int (nI uv)), (4, .int (nI lv)), (5, .int (nI 0))]) hx hb dX6_places_130 hl (by decide) rfl (fun ls hl => ?_)
                      refine lv_goto (tgt := 65) hx hb dX6_places_132 (by decide) ?_
                      exact ih65 (F + 1) (i + 1) _ _ ls (by omega) (by rw [← i3, cur_step _ _ c73, show cpf (run 1 (nr rv) (ar rv) (sp_mean (nr rv) (ar rv) * (100 + tv))) lv i F = F + 1 from if_pos c105, Nat.max_eq_right (by omega)]) (by omega) (by omega) hH (lv_sub hl [0, 1, 3, 4, 5, 6, 7, 8, 9] rfl)
                    · refine lv_iload hx hb dX6_places_123 (lv_at hl 1 rfl) ?_
                      refine lv_goto (tgt := 129) hx hb dX6_places_125 (by decide) ?_
                      refine ni_iadd hx hb dX6_places_129 ?_
                      refine lv_istore (lv' := [(9, .int (nI (i + (run 1 (nr rv) (ar rv) ((sp_mean (nr rv) (ar rv)) * (100 + tv)) i)))), (8, .int (nI (F + 1))), (10, .int (nI (run 1 (nr rv) (ar rv) ((sp_mean (nr rv) (ar rv)) * (100 + tv)) i))), (6, .long (lN (sp_mean (nr rv) (ar rv)))), (0, .ref (ad 36)), (1, .int (nI rv)), (2, .int (nI tv)), (3, .int (nI uv)), (4, .int (nI lv)), (5, .int (nI 0))]) hx hb dX6_places_130 hl (by decide) rfl (fun ls hl => ?_)
                      refine lv_goto (tgt := 65) hx hb dX6_places_132 (by decide) ?_
                      exact ih65 (F + 1) (i + (run 1 (nr rv) (ar rv) ((sp_mean (nr rv) (ar rv)) * (100 + tv)) i)) _ _ ls (by omega) (by rw [← i3, cur_step _ _ c73, show cpf (run 1 (nr rv) (ar rv) (sp_mean (nr rv) (ar rv) * (100 + tv))) lv i F = F + 1 from if_pos c105, Nat.max_eq_left (by omega)]) (by omega) (by omega) hH (lv_sub hl [0, 1, 3, 4, 5, 6, 7, 8, 9] rfl)
            exact L65 ((nr rv - 0) + 1) 0 0 _ _ ls (by omega) (by rfl) (by omega) (Nat.lt_succ_self _) hH (lv_sub hl [0, 1, 2, 3, 4, 5, 6, 7, 8] rfl)
          · refine lv_iconst (v := nI 0) hx hb dX6_places_59 (by decide) ?_
            refine lv_istore (lv' := [(8, .int (nI 0)), (6, .long (lN (sp_mean (nr rv) (ar rv)))), (0, .ref (ad 36)), (1, .int (nI rv)), (2, .int (nI tv)), (3, .int (nI uv)), (4, .int (nI lv)), (5, .int (nI 1))]) hx hb dX6_places_60 hl (by decide) rfl (fun ls hl => ?_)
            refine lv_iconst (v := nI 0) hx hb dX6_places_62 (by decide) ?_
            refine lv_istore (lv' := [(9, .int (nI 0)), (8, .int (nI 0)), (6, .long (lN (sp_mean (nr rv) (ar rv)))), (0, .ref (ad 36)), (1, .int (nI rv)), (2, .int (nI tv)), (3, .int (nI uv)), (4, .int (nI lv)), (5, .int (nI 1))]) hx hb dX6_places_63 hl (by decide) rfl (fun ls hl => ?_)
            have L65 : ∀ (fu : Nat) (F : Nat) (i : Nat) (H : Heap) (locs : List Loc) (ls : Array Slot), (i ≤ nr rv) → (cur (run 0 (nr rv) (ar rv) (sp_mean (nr rv) (ar rv) * (100 - uv))) (cpf (run 0 (nr rv) (ar rv) (sp_mean (nr rv) (ar rv) * (100 - uv))) lv) (nr rv) (nr rv - i) i F = cur (run 0 (nr rv) (ar rv) (sp_mean (nr rv) (ar rv) * (100 - uv))) (cpf (run 0 (nr rv) (ar rv) (sp_mean (nr rv) (ar rv) * (100 - uv))) lv) (nr rv) (nr rv) 0 0) → (F ≤ i) → nr rv - i < fu → WH X 48 ad (pA 48 ad s.heap.size) s g H locs → lv_has ls 11 [(9, .int (nI i)), (8, .int (nI F)), (6, .long (lN (sp_mean (nr rv) (ar rv)))), (0, .ref (ad 36)), (1, .int (nI rv)), (2, .int (nI tv)), (3, .int (nI uv)), (4, .int (nI lv)), (5, .int (nI 1))] → W p l e zr3 s m ([.ref (ad 36), .int (nI rv), .int (nI tv), .int (nI uv), .int (nI lv), .int (nI 1)] : List Value).toArray below meth c H locs 0 0 Q (F0 m 65 ls []) := by
              intro fu
              induction fu with
              | zero =>
                intro F i H locs ls i2 i3 i4 hm
                exact absurd hm (Nat.not_lt_zero _)
              | succ fu ih =>
                have ih65 := ih; clear ih
                intro F i H locs ls i2 i3 i4 hm65 hH hl
                have hrl := run_le 0 (nr rv) (ar rv) (sp_mean (nr rv) (ar rv) * (100 - uv)) i
                refine lv_iload hx hb dX6_places_65 (lv_at hl 0 rfl) ?_
                refine lv_aload_n hx hb dX6_places_67 rfl (lv_at hl 3 rfl) ?_
                refine rp_get C0 FX hH 36 (by decide) (ci := 6) (k := 9) f36 rfl kiX6 (by decide) kf35 rfl dX6_places_68 ?_
                refine lv_iload_n hx hb dX6_places_71 rfl (lv_at hl 4 rfl) ?_
                refine rp_iald C0 FX hH 43 (by decide) (v := nr rv) f43 rv (by omega) (by decide) (hcn _ (by omega)) dX6_places_72 ?_
                refine ni_cge hx hb 135 dX6_places_73 (by decide) (by omega) (by omega) (fun c73 => ?_) (fun c73 => ?_)
                · refine lv_iload hx hb dX6_places_135 (lv_at hl 1 rfl) ?_
                  refine RET _ _ _ _ _ _ dX6_places_137 rfl ?_ hH
                  refine ⟨rfl, (?_ : _ = _)⟩
                  rw [rd_row rv2]
                  show _ = sp_places _ _ _ _ (nr rv) (ar rv)
                  unfold sp_places
                  rw [if_pos ⟨c14, by decide⟩, if_neg (by decide), tN_nI (by omega), tN_nI (by omega), ← i3, cur_no _ _ (by omega)]
                · refine lv_aload_n hx hb dX6_places_76 rfl (lv_at hl 3 rfl) ?_
                  refine lv_iload_n hx hb dX6_places_77 rfl (lv_at hl 4 rfl) ?_
                  refine lv_iload hx hb dX6_places_78 (lv_at hl 0 rfl) ?_
                  refine lv_lload hx hb dX6_places_80 (lv_at hl 2 rfl) ?_
                  refine lv_iload hx hb dX6_places_82 (lv_at hl 8 rfl) ?_
                  refine lv_iload hx hb dX6_places_84 (lv_at hl 8 rfl) ?_
                  refine lv_if_ne (tgt := 93) hx hb dX6_places_86 (by decide) (fun c86 => ?_) (fun c86 => absurd c86 (by decide))
                  refine lv_iload_n hx hb dX6_places_93 rfl (lv_at hl 6 rfl) ?_
                  refine rc_Vi (rest := []) C0 FX hH 36 (by decide) f36 rfl (k_X6_run_1 l X ad hi _ nm fa fb mc rd nr ar nb num lay pev pln tr ⟨_, _, _, _, _, _, _, _, _, _, _, _, f36, f37, f38, f39, f40, f41, f42, f43, f44, f45, f46, f47, hrL, hrR, hrS, hlok, hrok, hsok, hpm⟩ rv i (sp_mean (nr rv) (ar rv)) uv (by omega) (by omega) (by omega) (by omega)) (cwV 5 C0.2.2.2.2 gX6_places_X6_run rfl rfl rfl (by decide +kernel) ⟨Nat.le_of_ble_eq_true rfl, Nat.le_of_ble_eq_true rfl⟩) rfl rfl hl.1 (Nat.le_of_ble_eq_true rfl) dX6_places_94 ⟨Nat.le_of_ble_eq_true rfl, Nat.le_of_ble_eq_true rfl⟩ (fun r94 g94c H locs h94 hH => ?_)
                  obtain ⟨e94, rfl⟩ := h94
                  rw [e94] at hH
                  refine lv_istore (lv' := [(10, .int (nI (run 0 (nr rv) (ar rv) ((sp_mean (nr rv) (ar rv)) * (100 - uv)) i))), (9, .int (nI i)), (8, .int (nI F)), (6, .long (lN (sp_mean (nr rv) (ar rv)))), (0, .ref (ad 36)), (1, .int (nI rv)), (2, .int (nI tv)), (3, .int (nI uv)), (4, .int (nI lv)), (5, .int (nI 1))]) hx hb dX6_places_97 hl (by decide) rfl (fun ls hl => ?_)
                  refine lv_iload hx hb dX6_places_99 (lv_at hl 2 rfl) ?_
                  refine lv_iload hx hb dX6_places_101 (lv_at hl 0 rfl) ?_
                  refine lv_iload hx hb dX6_places_103 (lv_at hl 8 rfl) ?_
                  refine ni_clt hx hb 112 dX6_places_105 (by decide) (by omega) (by omega) (fun c105 => ?_) (fun c105 => ?_)
                  · refine lv_iconst (v := nI 0) hx hb dX6_places_112 (by decide) ?_
                    refine ni_iadd hx hb dX6_places_113 ?_
                    refine lv_istore (lv' := [(8, .int (nI (F + 0))), (10, .int (nI (run 0 (nr rv) (ar rv) ((sp_mean (nr rv) (ar rv)) * (100 - uv)) i))), (9, .int (nI i)), (6, .long (lN (sp_mean (nr rv) (ar rv)))), (0, .ref (ad 36)), (1, .int (nI rv)), (2, .int (nI tv)), (3, .int (nI uv)), (4, .int (nI lv)), (5, .int (nI 1))]) hx hb dX6_places_114 hl (by decide) rfl (fun ls hl => ?_)
                    refine lv_iload hx hb dX6_places_116 (lv_at hl 2 rfl) ?_
                    refine lv_iload hx hb dX6_places_118 (lv_at hl 1 rfl) ?_
                    refine ni_le0 hx hb 128 dX6_places_120 (by decide) (by omega) (fun c120 => ?_) (fun c120 => ?_)
                    · refine lv_iconst (v := nI 1) hx hb dX6_places_128 (by decide) ?_
                      refine ni_iadd hx hb dX6_places_129 ?_
                      refine lv_istore (lv' := [(9, .int (nI (i + 1))), (8, .int (nI (F + 0))), (10, .int (nI (run 0 (nr rv) (ar rv) ((sp_mean (nr rv) (ar rv)) * (100 - uv)) i))), (6, .long (lN (sp_mean (nr rv) (ar rv)))), (0, .ref (ad 36)), (1, .int (nI rv)), (2, .int (nI tv)), (3, .int (nI uv)), (4, .int (nI lv)), (5, .int (nI 1))]) hx hb dX6_places_130 hl (by decide) rfl (fun ls hl => ?_)
                      refine lv_goto (tgt := 65) hx hb dX6_places_132 (by decide) ?_
                      exact ih65 (F + 0) (i + 1) _ _ ls (by omega) (by rw [← i3, cur_step _ _ c73, show cpf (run 0 (nr rv) (ar rv) (sp_mean (nr rv) (ar rv) * (100 - uv))) lv i F = F + 0 from if_neg (by omega), Nat.max_eq_right (by omega)]) (by omega) (by omega) hH (lv_sub hl [0, 1, 3, 4, 5, 6, 7, 8, 9] rfl)
                    · refine lv_iload hx hb dX6_places_123 (lv_at hl 1 rfl) ?_
                      refine lv_goto (tgt := 129) hx hb dX6_places_125 (by decide) ?_
                      refine ni_iadd hx hb dX6_places_129 ?_
                      refine lv_istore (lv' := [(9, .int (nI (i + (run 0 (nr rv) (ar rv) ((sp_mean (nr rv) (ar rv)) * (100 - uv)) i)))), (8, .int (nI (F + 0))), (10, .int (nI (run 0 (nr rv) (ar rv) ((sp_mean (nr rv) (ar rv)) * (100 - uv)) i))), (6, .long (lN (sp_mean (nr rv) (ar rv)))), (0, .ref (ad 36)), (1, .int (nI rv)), (2, .int (nI tv)), (3, .int (nI uv)), (4, .int (nI lv)), (5, .int (nI 1))]) hx hb dX6_places_130 hl (by decide) rfl (fun ls hl => ?_)
                      refine lv_goto (tgt := 65) hx hb dX6_places_132 (by decide) ?_
                      exact ih65 (F + 0) (i + (run 0 (nr rv) (ar rv) ((sp_mean (nr rv) (ar rv)) * (100 - uv)) i)) _ _ ls (by omega) (by rw [← i3, cur_step _ _ c73, show cpf (run 0 (nr rv) (ar rv) (sp_mean (nr rv) (ar rv) * (100 - uv))) lv i F = F + 0 from if_neg (by omega), Nat.max_eq_left (by omega)]) (by omega) (by omega) hH (lv_sub hl [0, 1, 3, 4, 5, 6, 7, 8, 9] rfl)
                  · refine lv_iconst (v := nI 1) hx hb dX6_places_108 (by decide) ?_
                    refine lv_goto (tgt := 113) hx hb dX6_places_109 (by decide) ?_
                    refine ni_iadd hx hb dX6_places_113 ?_
                    refine lv_istore (lv' := [(8, .int (nI (F + 1))), (10, .int (nI (run 0 (nr rv) (ar rv) ((sp_mean (nr rv) (ar rv)) * (100 - uv)) i))), (9, .int (nI i)), (6, .long (lN (sp_mean (nr rv) (ar rv)))), (0, .ref (ad 36)), (1, .int (nI rv)), (2, .int (nI tv)), (3, .int (nI uv)), (4, .int (nI lv)), (5, .int (nI 1))]) hx hb dX6_places_114 hl (by decide) rfl (fun ls hl => ?_)
                    refine lv_iload hx hb dX6_places_116 (lv_at hl 2 rfl) ?_
                    refine lv_iload hx hb dX6_places_118 (lv_at hl 1 rfl) ?_
                    refine ni_le0 hx hb 128 dX6_places_120 (by decide) (by omega) (fun c120 => ?_) (fun c120 => ?_)
                    · refine lv_iconst (v := nI 1) hx hb dX6_places_128 (by decide) ?_
                      refine ni_iadd hx hb dX6_places_129 ?_
                      refine lv_istore (lv' := [(9, .int (nI (i + 1))), (8, .int (nI (F + 1))), (10, .int (nI (run 0 (nr rv) (ar rv) ((sp_mean (nr rv) (ar rv)) * (100 - uv)) i))), (6, .long (lN (sp_mean (nr rv) (ar rv)))), (0, .ref (ad 36)), (1, .int (nI rv)), (2, .int (nI tv)), (3, .int (nI uv)), (4, .int (nI lv)), (5, .int (nI 1))]) hx hb dX6_places_130 hl (by decide) rfl (fun ls hl => ?_)
                      refine lv_goto (tgt := 65) hx hb dX6_places_132 (by decide) ?_
                      exact ih65 (F + 1) (i + 1) _ _ ls (by omega) (by rw [← i3, cur_step _ _ c73, show cpf (run 0 (nr rv) (ar rv) (sp_mean (nr rv) (ar rv) * (100 - uv))) lv i F = F + 1 from if_pos c105, Nat.max_eq_right (by omega)]) (by omega) (by omega) hH (lv_sub hl [0, 1, 3, 4, 5, 6, 7, 8, 9] rfl)
                    · refine lv_iload hx hb dX6_places_123 (lv_at hl 1 rfl) ?_
                      refine lv_goto (tgt := 129) hx hb dX6_places_125 (by decide) ?_
                      refine ni_iadd hx hb dX6_places_129 ?_
                      refine lv_istore (lv' := [(9, .int (nI (i + (run 0 (nr rv) (ar rv) ((sp_mean (nr rv) (ar rv)) * (100 - uv)) i)))), (8, .int (nI (F + 1))), (10, .int (nI (run 0 (nr rv) (ar rv) ((sp_mean (nr rv) (ar rv)) * (100 - uv)) i))), (6, .long (lN (sp_mean (nr rv) (ar rv)))), (0, .ref (ad 36)), (1, .int (nI rv)), (2, .int (nI tv)), (3, .int (nI uv)), (4, .int (nI lv)), (5, .int (nI 1))]) hx hb dX6_places_130 hl (by decide) rfl (fun ls hl => ?_)
                      refine lv_goto (tgt := 65) hx hb dX6_places_132 (by decide) ?_
                      exact ih65 (F + 1) (i + (run 0 (nr rv) (ar rv) ((sp_mean (nr rv) (ar rv)) * (100 - uv)) i)) _ _ ls (by omega) (by rw [← i3, cur_step _ _ c73, show cpf (run 0 (nr rv) (ar rv) (sp_mean (nr rv) (ar rv) * (100 - uv))) lv i F = F + 1 from if_pos c105, Nat.max_eq_left (by omega)]) (by omega) (by omega) hH (lv_sub hl [0, 1, 3, 4, 5, 6, 7, 8, 9] rfl)
            exact L65 ((nr rv - 0) + 1) 0 0 _ _ ls (by omega) (by rfl) (by omega) (Nat.lt_succ_self _) hH (lv_sub hl [0, 1, 2, 3, 4, 5, 6, 7, 8] rfl)
      · refine lv_bipush (v := (-2)) hx hb dX6_places_28 (by decide) ?_
        refine RET _ _ _ _ _ _ dX6_places_30 rfl ?_ hH
        refine ⟨rfl, (?_ : _ = _)⟩
        rw [rd_row rv2]
        show _ = sp_places _ _ _ _ (nr rv) (ar rv)
        unfold sp_places
        rw [if_neg (fun z => by first | exact absurd z.1 (by assumption) | exact absurd z.2 (by assumption))]
set_option maxHeartbeats 4000000 in
set_option maxRecDepth 100000 in
theorem k_X6_cleared (l : Launch) (X : Cx) (ad : Nat → Nat) (hi : inj 48 ad) (g : PF) (nm fa fb : Nat) (mc rd : Nat → Nat → Nat) (nr : Nat → Nat) (ar : Nat → Nat → Nat) (nb : Nat) (num : Nat → Nat) (lay pev : Nat) (pln : Nat → Nat) (tr : Nat) (hR : rMod X ad ((nm, fa, fb, mc, rd), nr, ar, (nb, num, lay, pev, pln, tr)) g) (p0 p1 p2 p3 : Int32) : Ki l yX6_cleared wsX6_cleared zr3 X 48 ad g [.ref (ad 36), .int p0, .int p1, .int p2, .int p3] (fun r g' => r = (rowOp (sp_cleared p1 p2 p3) p0 ((nm, fa, fb, mc, rd), nr, ar, (nb, num, lay, pev, pln, tr))).1 ∧ rMod X ad (rowOp (sp_cleared p1 p2 p3) p0 ((nm, fa, fb, mc, rd), nr, ar, (nb, num, lay, pev, pln, tr))).2 g' ∧ frM g g') := by
  refine Ki.of (cc := cX6_cleared) (maxL := 12) hi (by decide) rfl (Nat.le_of_ble_eq_true rfl) ?_
  intro p e s m below meth c Q E RET ls hl
  obtain ⟨C0, FX, hH⟩ := E
  have hx := C0.1
  have hb := C0.2.1
  have kiX6 : ∀ w ∈ u_ws RX6 TX6 18, w ∈ wsX6_cleared := (by decide +kernel)
  have kf35 : Cond.fieldLink RX6 35 "YarnMillModel" "cells" "[I" ∈ wsX6_cleared := (by decide +kernel)
  have kf38 : Cond.fieldLink RX6 38 "YarnMillModel" "mass" "[I" ∈ wsX6_cleared := (by decide +kernel)
  have kf41 : Cond.fieldLink RX6 41 "YarnMillModel" "fresh" "[I" ∈ wsX6_cleared := (by decide +kernel)
  have hl : lv_has ls 12 [(0, .ref (ad 36)), (1, .int p0), (2, .int p1), (3, .int p2), (4, .int p3)] := hl
  have fr : ∀ j, (j < 36) → g j = g j := fun j _ => rfl
  obtain ⟨md, ma, mb, ml, mr, mo, cn, ms, fs, nn, pl, pm, f36, f37, f38, f39, f40, f41, f42, f43, f44, f45, f46, f47, hrL, hrR, hrS, hlok, hrok, hsok, hpm⟩ := hR
  have f36 : g 36 = .inr (6, [.int (nI fa), .int (nI fb), .int (nI nm), .ref (ad 37), .ref (ad 38), .ref (ad 39), .ref (ad 40), .ref (ad 41), .ref (ad 42), .ref (ad 43), .ref (ad 44), .ref (ad 45), .int (nI nb), .ref (ad 46), .int (nI lay), .int (nI pm), .ref (ad 47), .int (nI tr)]) := f36
  have hq37 : ∀ j, j < nm → md j = mc j 0 := fun j hj => (hrL.1 j hj).1
  have hq38 : ∀ j, j < nm → ma j = mc j 1 := fun j hj => (hrL.1 j hj).2.1
  have hq39 : ∀ j, j < nm → mb j = mc j 2 := fun j hj => (hrL.1 j hj).2.2.1
  have hq40 : ∀ j, j < nm → ml j = mc j 3 := fun j hj => (hrL.1 j hj).2.2.2.1
  have hq41 : ∀ j, j < nm → mr j = mc j 4 := fun j hj => (hrL.1 j hj).2.2.2.2
  have hmo : ∀ j, j < nm → ∀ r, r < mc j 4 → mo (3 * j + r) = rd j r := hrL.2
  have h6 : nm ≤ 6 := hlok.1
  have hfa : 1 ≤ fa ∧ fa ≤ 10000 := hlok.2.1
  have hfb : 1 ≤ fb ∧ fb ≤ 10000 := hlok.2.2.1
  have hmk : ∀ j, j < nm → mcOk (mc j) ∧ ∀ r, r < mc j 4 → 1 ≤ rd j r ∧ rd j r ≤ 1000 := hlok.2.2.2
  have hcn : ∀ r, r < 8 → cn r = nr r := hrR.1
  have hms : ∀ r, r < 8 → ∀ j, j < nr r → ms (400 * r + j) = ar r j := hrR.2
  have hro : ∀ r, r < 8 → nr r ≤ 400 ∧ ∀ j, j < nr r → ar r j ≤ 1000000 := hrok
  have hnn : ∀ j, j < nb → nn j = num j := hrS.1
  have hper : 0 < lay → pm = pev := hrS.2.1
  have hpl : ∀ j, j < lay * pev → pl j = pln j := hrS.2.2
  obtain ⟨k1, k2, k3, k4, k5, k6, k7⟩ := id hsok
  have k1 : nb ≤ 12 := k1
  have k2 : ∀ j, j < nb → num j ≤ 10000 := k2
  have k3 : 0 < lay → (1 ≤ pev ∧ pev ≤ 6) := k3
  have k4 : lay * pev ≤ 12 := k4
  have k5 : ∀ j, j < lay * pev → pln j ≤ 12 := k5
  have k6 : tr ≤ 100000 := k6
  have k7 : lay ≤ 12 := k7
  refine lv_iload_n hx hb dX6_cleared_0 rfl (lv_at hl 1 rfl) ?_
  refine rc_Si (rest := []) C0 FX hH (k_X6_isRow l X ad hi _ p0) (va_cwS 1 C0.2.2.2.2 gX6_cleared_X6_isRow rfl rfl rfl (by decide +kernel) ⟨Nat.le_of_ble_eq_true rfl, Nat.le_of_ble_eq_true rfl⟩) rfl rfl hl.1 (Nat.le_of_ble_eq_true rfl) dX6_cleared_1 ⟨Nat.le_of_ble_eq_true rfl, Nat.le_of_ble_eq_true rfl⟩ (fun r1 g1c H locs h1 hH => ?_)
  obtain ⟨e1, rfl⟩ := h1
  rw [e1] at hH
  refine rb_eq hx hb 17 dX6_cleared_4 (by decide) (fun c4 => ?_) (fun c4 => ?_)
  · refine lv_bipush (v := (-2)) hx hb dX6_cleared_17 (by decide) ?_
    refine RET _ _ _ _ _ _ dX6_cleared_19 rfl ?_ hH
    exact mod_bad (by assumption) ⟨_, _, _, _, _, _, _, _, _, _, _, _, f36, f37, f38, f39, f40, f41, f42, f43, f44, f45, f46, f47, hrL, hrR, hrS, hlok, hrok, hsok, hpm⟩
  · obtain ⟨rv, rfl, rv1, rv2, rv3⟩ := rng_nI c4
    refine lv_iload_n hx hb dX6_cleared_7 rfl (lv_at hl 2 rfl) ?_
    refine lv_iload_n hx hb dX6_cleared_8 rfl (lv_at hl 3 rfl) ?_
    refine lv_iload hx hb dX6_cleared_9 (lv_at hl 4 rfl) ?_
    refine rc_Si (rest := []) C0 FX hH (k_X6_isLaw l X ad hi _ p1 p2 p3) (va_cwS 3 C0.2.2.2.2 gX6_cleared_X6_isLaw rfl rfl rfl (by decide +kernel) ⟨Nat.le_of_ble_eq_true rfl, Nat.le_of_ble_eq_true rfl⟩) rfl rfl hl.1 (Nat.le_of_ble_eq_true rfl) dX6_cleared_11 ⟨Nat.le_of_ble_eq_true rfl, Nat.le_of_ble_eq_true rfl⟩ (fun r11 g11c H locs h11 hH => ?_)
    obtain ⟨e11, rfl⟩ := h11
    rw [e11] at hH
    refine rb_ne hx hb 20 dX6_cleared_14 (by decide) (fun c14 => ?_) (fun c14 => ?_)
    · obtain ⟨tv, rfl, tv1, tv2, tv3⟩ := rng_nI c14.1
      obtain ⟨uv, rfl, uv1, uv2, uv3⟩ := rng_nI c14.2.1
      obtain ⟨lv, rfl, lv1, lv2, lv3⟩ := rng_nI c14.2.2
      have hro9 := (hro rv (by omega)).1
      have hra9 := (hro rv (by omega)).2
      have hml := mean_le hro9 hra9
      have hsm := sm_le hra9
      refine lv_aload_n hx hb dX6_cleared_20 rfl (lv_at hl 0 rfl) ?_
      refine rp_get C0 FX hH 36 (by decide) (ci := 6) (k := 9) f36 rfl kiX6 (by decide) kf35 rfl dX6_cleared_21 ?_
      refine lv_iload_n hx hb dX6_cleared_24 rfl (lv_at hl 1 rfl) ?_
      refine rp_iald C0 FX hH 43 (by decide) (v := nr rv) f43 rv (by omega) (by decide) (hcn _ (by omega)) dX6_cleared_25 ?_
      refine ni_ne0 hx hb 33 dX6_cleared_26 (by decide) (by omega) (fun c26 => ?_) (fun c26 => ?_)
      · refine lv_aload_n hx hb dX6_cleared_33 rfl (lv_at hl 0 rfl) ?_
        refine lv_iload_n hx hb dX6_cleared_34 rfl (lv_at hl 1 rfl) ?_
        refine rc_Vl (rest := []) C0 FX hH 36 (by decide) f36 rfl (k_X6_sum l X ad hi _ nm fa fb mc rd nr ar nb num lay pev pln tr ⟨_, _, _, _, _, _, _, _, _, _, _, _, f36, f37, f38, f39, f40, f41, f42, f43, f44, f45, f46, f47, hrL, hrR, hrS, hlok, hrok, hsok, hpm⟩ rv (by omega)) (cwV 1 C0.2.2.2.2 gX6_cleared_X6_sum rfl rfl rfl (by decide +kernel) ⟨Nat.le_of_ble_eq_true rfl, Nat.le_of_ble_eq_true rfl⟩) rfl rfl hl.1 (Nat.le_of_ble_eq_true rfl) dX6_cleared_35 ⟨Nat.le_of_ble_eq_true rfl, Nat.le_of_ble_eq_true rfl⟩ (fun r35 g35c H locs h35 hH => ?_)
        obtain ⟨e35, rfl⟩ := h35
        rw [e35] at hH
        refine lv_aload_n hx hb dX6_cleared_38 rfl (lv_at hl 0 rfl) ?_
        refine rp_get C0 FX hH 36 (by decide) (ci := 6) (k := 9) f36 rfl kiX6 (by decide) kf35 rfl dX6_cleared_39 ?_
        refine lv_iload_n hx hb dX6_cleared_42 rfl (lv_at hl 1 rfl) ?_
        refine rp_iald C0 FX hH 43 (by decide) (v := nr rv) f43 rv (by omega) (by decide) (hcn _ (by omega)) dX6_cleared_43 ?_
        refine ni_i2l hx hb (by omega) dX6_cleared_44 ?_
        refine ni_ldiv hx hb (by omega) (by omega) (by omega) dX6_cleared_45 ?_
        refine ni_topl (b := sp_mean (nr rv) (ar rv)) (rfl) ?_
        refine lv_lstore (lv' := [(5, .long (lN (sp_mean (nr rv) (ar rv)))), (0, .ref (ad 36)), (1, .int (nI rv)), (2, .int (nI tv)), (3, .int (nI uv)), (4, .int (nI lv))]) hx hb dX6_cleared_46 hl (by decide) rfl (fun ls hl => ?_)
        refine lv_iconst (v := nI 0) hx hb dX6_cleared_48 (by decide) ?_
        refine lv_istore (lv' := [(7, .int (nI 0)), (5, .long (lN (sp_mean (nr rv) (ar rv)))), (0, .ref (ad 36)), (1, .int (nI rv)), (2, .int (nI tv)), (3, .int (nI uv)), (4, .int (nI lv))]) hx hb dX6_cleared_49 hl (by decide) rfl (fun ls hl => ?_)
        refine lv_iconst (v := nI 0) hx hb dX6_cleared_51 (by decide) ?_
        refine lv_istore (lv' := [(8, .int (nI 0)), (7, .int (nI 0)), (5, .long (lN (sp_mean (nr rv) (ar rv)))), (0, .ref (ad 36)), (1, .int (nI rv)), (2, .int (nI tv)), (3, .int (nI uv)), (4, .int (nI lv))]) hx hb dX6_cleared_52 hl (by decide) rfl (fun ls hl => ?_)
        refine lv_iconst (v := nI 0) hx hb dX6_cleared_54 (by decide) ?_
        refine lv_istore (lv' := [(9, .int (nI 0)), (8, .int (nI 0)), (7, .int (nI 0)), (5, .long (lN (sp_mean (nr rv) (ar rv)))), (0, .ref (ad 36)), (1, .int (nI rv)), (2, .int (nI tv)), (3, .int (nI uv)), (4, .int (nI lv))]) hx hb dX6_cleared_55 hl (by decide) rfl (fun ls hl => ?_)
        refine lv_iconst (v := nI 0) hx hb dX6_cleared_57 (by decide) ?_
        refine lv_istore (lv' := [(10, .int (nI 0)), (9, .int (nI 0)), (8, .int (nI 0)), (7, .int (nI 0)), (5, .long (lN (sp_mean (nr rv) (ar rv)))), (0, .ref (ad 36)), (1, .int (nI rv)), (2, .int (nI tv)), (3, .int (nI uv)), (4, .int (nI lv))]) hx hb dX6_cleared_58 hl (by decide) rfl (fun ls hl => ?_)
        have L60 : ∀ (fu : Nat) (kp : Nat) (sp : Nat) (gp : Nat) (i : Nat) (o : Nat → Nat) (fx : Nat → Nat) (g1 : PF) (H : Heap) (locs : List Loc) (ls : Array Slot), (i ≤ nr rv) → (kp ≤ i) → (gp ≤ 1) → (sp ≤ i) → (cur (plc (nr rv) (ar rv) (sp_mean (nr rv) (ar rv) * (100 + tv)) (sp_mean (nr rv) (ar rv) * (100 - uv)) lv) (clf (nr rv) (ar rv) (sp_mean (nr rv) (ar rv) * (100 + tv)) (sp_mean (nr rv) (ar rv) * (100 - uv)) lv) (nr rv) (nr rv - i) i (kp, sp, gp, o) = cl (nr rv) (ar rv) (sp_mean (nr rv) (ar rv) * (100 + tv)) (sp_mean (nr rv) (ar rv) * (100 - uv)) lv) → (∀ j, j < kp → fx j = o j) → (∀ j, j < kp → o j ≤ 1000000) → nr rv - i < fu → WH X 48 ad (pA 48 ad s.heap.size) s g1 H locs → g1 36 = .inr (6, [.int (nI fa), .int (nI fb), .int (nI nm), .ref (ad 37), .ref (ad 38), .ref (ad 39), .ref (ad 40), .ref (ad 41), .ref (ad 42), .ref (ad 43), .ref (ad 44), .ref (ad 45), .int (nI nb), .ref (ad 46), .int (nI lay), .int (nI pm), .ref (ad 47), .int (nI tr)]) → g1 37 = arr X 6 md → g1 38 = arr X 6 ma → g1 39 = arr X 6 mb → g1 40 = arr X 6 ml → g1 41 = arr X 6 mr → g1 42 = arr X 18 mo → g1 43 = arr X 8 cn → g1 44 = arr X 3200 ms → g1 45 = arr X 400 fx → g1 46 = arr X 12 nn → g1 47 = arr X 12 pl → (∀ j, (j < 36) → g1 j = g j) → lv_has ls 12 [(10, .int (nI i)), (9, .int (nI gp)), (8, .int (nI sp)), (7, .int (nI kp)), (5, .long (lN (sp_mean (nr rv) (ar rv)))), (0, .ref (ad 36)), (1, .int (nI rv)), (2, .int (nI tv)), (3, .int (nI uv)), (4, .int (nI lv))] → W p l e zr3 s m ([.ref (ad 36), .int (nI rv), .int (nI tv), .int (nI uv), .int (nI lv)] : List Value).toArray below meth c H locs 0 0 Q (F0 m 60 ls []) := by
          intro fu
          induction fu with
          | zero =>
            intro kp sp gp i o fx g1 H locs ls j1 j2 j7 j8 i3 j6 j9 hm
            exact absurd hm (Nat.not_lt_zero _)
          | succ fu ih =>
            have ih60 := ih; clear ih
            intro kp sp gp i o fx g1 H locs ls j1 j2 j7 j8 i3 j6 j9 hm60 hH f36 f37 f38 f39 f40 f41 f42 f43 f44 f45 f46 f47 fr hl
            have hr1 := run_le 1 (nr rv) (ar rv) (sp_mean (nr rv) (ar rv) * (100 + tv)) i
            have hr0 := run_le 0 (nr rv) (ar rv) (sp_mean (nr rv) (ar rv) * (100 - uv)) i
            refine lv_iload hx hb dX6_cleared_60 (lv_at hl 0 rfl) ?_
            refine lv_aload_n hx hb dX6_cleared_62 rfl (lv_at hl 5 rfl) ?_
            refine rp_get C0 FX hH 36 (by decide) (ci := 6) (k := 9) f36 rfl kiX6 (by decide) kf35 rfl dX6_cleared_63 ?_
            refine lv_iload_n hx hb dX6_cleared_66 rfl (lv_at hl 6 rfl) ?_
            refine rp_iald C0 FX hH 43 (by decide) (v := nr rv) f43 rv (by omega) (by decide) (hcn _ (by omega)) dX6_cleared_67 ?_
            refine ni_cge hx hb 181 dX6_cleared_68 (by decide) (by omega) (by omega) (fun c68 => ?_) (fun c68 => ?_)
            · refine lv_aload_n hx hb dX6_cleared_181 rfl (lv_at hl 5 rfl) ?_
              refine lv_iload_n hx hb dX6_cleared_182 rfl (lv_at hl 6 rfl) ?_
              refine lv_iload hx hb dX6_cleared_183 (lv_at hl 3 rfl) ?_
              refine rc_Vi (rest := []) C0 FX hH 36 (by decide) f36 rfl (k_X6_becomes l X ad hi _ fa fb nm nb lay pm tr cn ms fx f36 f43 f44 f45 rv kp (by omega) (by omega) (by rw [hcn rv (by omega)]; exact hro9) (fun j hj => by rw [j6 j hj]; have := j9 j hj; omega)) (cwV 2 C0.2.2.2.2 gX6_cleared_X6_becomes rfl rfl rfl (by decide +kernel) ⟨Nat.le_of_ble_eq_true rfl, Nat.le_of_ble_eq_true rfl⟩) rfl rfl hl.1 (Nat.le_of_ble_eq_true rfl) dX6_cleared_185 ⟨Nat.le_of_ble_eq_true rfl, Nat.le_of_ble_eq_true rfl⟩ (fun r185 g185c H locs h185 hH => ?_)
              obtain ⟨hfit, hnot, n185⟩ := h185
              have f36 : g185c 36 = .inr (6, [.int (nI fa), .int (nI fb), .int (nI nm), .ref (ad 37), .ref (ad 38), .ref (ad 39), .ref (ad 40), .ref (ad 41), .ref (ad 42), .ref (ad 43), .ref (ad 44), .ref (ad 45), .int (nI nb), .ref (ad 46), .int (nI lay), .int (nI pm), .ref (ad 47), .int (nI tr)]) := (n185 _ (by decide) (by decide)).trans f36
              have f37 : g185c 37 = arr X 6 md := (n185 _ (by decide) (by decide)).trans f37
              have f38 : g185c 38 = arr X 6 ma := (n185 _ (by decide) (by decide)).trans f38
              have f39 : g185c 39 = arr X 6 mb := (n185 _ (by decide) (by decide)).trans f39
              have f40 : g185c 40 = arr X 6 ml := (n185 _ (by decide) (by decide)).trans f40
              have f41 : g185c 41 = arr X 6 mr := (n185 _ (by decide) (by decide)).trans f41
              have f42 : g185c 42 = arr X 18 mo := (n185 _ (by decide) (by decide)).trans f42
              have f45 : g185c 45 = arr X 400 fx := (n185 _ (by decide) (by decide)).trans f45
              have f46 : g185c 46 = arr X 12 nn := (n185 _ (by decide) (by decide)).trans f46
              have f47 : g185c 47 = arr X 12 pl := (n185 _ (by decide) (by decide)).trans f47
              have fr : ∀ j, (j < 36) → g185c j = g j := fun j a0 => (n185 j (by omega) (by omega)).trans (fr j a0)
              by_cases hf9 : ∀ j, j < kp → (fx) j ≤ 1000000
              · obtain ⟨rfl, f43, ms8, f44, hm1, hm2⟩ := hfit hf9
                refine lv_istore (lv' := [(11, .int (nI kp)), (10, .int (nI i)), (9, .int (nI gp)), (8, .int (nI sp)), (7, .int (nI kp)), (5, .long (lN (sp_mean (nr rv) (ar rv)))), (0, .ref (ad 36)), (1, .int (nI rv)), (2, .int (nI tv)), (3, .int (nI uv)), (4, .int (nI lv))]) hx hb dX6_cleared_188 hl (by decide) rfl (fun ls hl => ?_)
                refine lv_iload hx hb dX6_cleared_190 (lv_at hl 3 rfl) ?_
                refine RET _ _ _ _ _ _ dX6_cleared_192 rfl ?_ hH
                have hT : cl (nr rv) (ar rv) (sp_mean (nr rv) (ar rv) * (100 + tv)) (sp_mean (nr rv) (ar rv) * (100 - uv)) lv = (kp, sp, gp, o) := by rw [← i3, cur_no _ _ (by omega)]
                refine mod_row (n1 := kp) (a1 := o) rv2 (by unfold sp_cleared; rw [if_pos c14, tN_nI (by omega), tN_nI (by omega), tN_nI (by omega), hT]) ⟨_, _, _, _, _, _, _, _, _, _, _, _, f36, f37, f38, f39, f40, f41, f42, f43, f44, f45, f46, f47, hrL, relR_up hrR hrok rv2 (fun r hr => by by_cases q : r = rv; rw [q, va_up_self, va_up_self]; rw [va_up_ne _ _ q, va_up_ne _ _ q]; exact hcn r hr) (fun j hj => ?_) (fun k hk => hm2 k (by omega)), hrS, hlok, rowsOk_up hrok (by omega) (j9), hsok, hpm⟩ fr
                rw [hm1 j hj]; exact j6 j hj
              · obtain ⟨rfl, f43, f44⟩ := hnot hf9
                rw [va_up_id] at f43
                refine lv_istore (lv' := [(11, .int ((-6))), (10, .int (nI i)), (9, .int (nI gp)), (8, .int (nI sp)), (7, .int (nI kp)), (5, .long (lN (sp_mean (nr rv) (ar rv)))), (0, .ref (ad 36)), (1, .int (nI rv)), (2, .int (nI tv)), (3, .int (nI uv)), (4, .int (nI lv))]) hx hb dX6_cleared_188 hl (by decide) rfl (fun ls hl => ?_)
                refine lv_iload hx hb dX6_cleared_190 (lv_at hl 3 rfl) ?_
                refine RET _ _ _ _ _ _ dX6_cleared_192 rfl ?_ hH
                exact absurd (fun j hj => by rw [j6 j hj]; exact j9 j hj) hf9
            · refine lv_aload_n hx hb dX6_cleared_71 rfl (lv_at hl 5 rfl) ?_
              refine lv_iload_n hx hb dX6_cleared_72 rfl (lv_at hl 6 rfl) ?_
              refine lv_iload hx hb dX6_cleared_73 (lv_at hl 0 rfl) ?_
              refine lv_lload hx hb dX6_cleared_75 (lv_at hl 4 rfl) ?_
              refine lv_iconst (v := nI 0) hx hb dX6_cleared_77 (by decide) ?_
              refine lv_iload_n hx hb dX6_cleared_78 rfl (lv_at hl 7 rfl) ?_
              refine rc_Vi (rest := []) C0 FX hH 36 (by decide) f36 rfl (k_X6_run_0 l X ad hi _ nm fa fb mc rd nr ar nb num lay pev pln tr ⟨_, _, _, _, _, _, _, _, _, _, _, _, f36, f37, f38, f39, f40, f41, f42, f43, f44, f45, f46, f47, hrL, hrR, hrS, hlok, hrok, hsok, hpm⟩ rv i (sp_mean (nr rv) (ar rv)) tv (by omega) (by omega) (by omega) (by omega)) (cwV 5 C0.2.2.2.2 gX6_cleared_X6_run rfl rfl rfl (by decide +kernel) ⟨Nat.le_of_ble_eq_true rfl, Nat.le_of_ble_eq_true rfl⟩) rfl rfl hl.1 (Nat.le_of_ble_eq_true rfl) dX6_cleared_79 ⟨Nat.le_of_ble_eq_true rfl, Nat.le_of_ble_eq_true rfl⟩ (fun r79 g79c H locs h79 hH => ?_)
              obtain ⟨e79, rfl⟩ := h79
              rw [e79] at hH
              refine lv_istore (lv' := [(11, .int (nI (run 1 (nr rv) (ar rv) ((sp_mean (nr rv) (ar rv)) * (100 + tv)) i))), (10, .int (nI i)), (9, .int (nI gp)), (8, .int (nI sp)), (7, .int (nI kp)), (5, .long (lN (sp_mean (nr rv) (ar rv)))), (0, .ref (ad 36)), (1, .int (nI rv)), (2, .int (nI tv)), (3, .int (nI uv)), (4, .int (nI lv))]) hx hb dX6_cleared_82 hl (by decide) rfl (fun ls hl => ?_)
              refine lv_iload hx hb dX6_cleared_84 (lv_at hl 0 rfl) ?_
              refine lv_iload hx hb dX6_cleared_86 (lv_at hl 10 rfl) ?_
              refine ni_clt hx hb 96 dX6_cleared_88 (by decide) (by omega) (by omega) (fun c88 => ?_) (fun c88 => ?_)
              · refine lv_aload_n hx hb dX6_cleared_96 rfl (lv_at hl 6 rfl) ?_
                refine lv_iload_n hx hb dX6_cleared_97 rfl (lv_at hl 7 rfl) ?_
                refine lv_iload hx hb dX6_cleared_98 (lv_at hl 1 rfl) ?_
                refine lv_lload hx hb dX6_cleared_100 (lv_at hl 5 rfl) ?_
                refine lv_iconst (v := nI 1) hx hb dX6_cleared_102 (by decide) ?_
                refine lv_iload_n hx hb dX6_cleared_103 rfl (lv_at hl 9 rfl) ?_
                refine rc_Vi (rest := []) C0 FX hH 36 (by decide) f36 rfl (k_X6_run_1 l X ad hi _ nm fa fb mc rd nr ar nb num lay pev pln tr ⟨_, _, _, _, _, _, _, _, _, _, _, _, f36, f37, f38, f39, f40, f41, f42, f43, f44, f45, f46, f47, hrL, hrR, hrS, hlok, hrok, hsok, hpm⟩ rv i (sp_mean (nr rv) (ar rv)) uv (by omega) (by omega) (by omega) (by omega)) (cwV 5 C0.2.2.2.2 gX6_cleared_X6_run rfl rfl rfl (by decide +kernel) ⟨Nat.le_of_ble_eq_true rfl, Nat.le_of_ble_eq_true rfl⟩) rfl rfl hl.1 (Nat.le_of_ble_eq_true rfl) dX6_cleared_104 ⟨Nat.le_of_ble_eq_true rfl, Nat.le_of_ble_eq_true rfl⟩ (fun r104 g104c H locs h104 hH => ?_)
                obtain ⟨e104, rfl⟩ := h104
                rw [e104] at hH
                refine lv_istore (lv' := [(11, .int (nI (run 0 (nr rv) (ar rv) ((sp_mean (nr rv) (ar rv)) * (100 - uv)) i))), (10, .int (nI i)), (9, .int (nI gp)), (8, .int (nI sp)), (7, .int (nI kp)), (5, .long (lN (sp_mean (nr rv) (ar rv)))), (0, .ref (ad 36)), (1, .int (nI rv)), (2, .int (nI tv)), (3, .int (nI uv)), (4, .int (nI lv))]) hx hb dX6_cleared_107 hl (by decide) rfl (fun ls hl => ?_)
                refine lv_iload hx hb dX6_cleared_109 (lv_at hl 0 rfl) ?_
                refine lv_iload hx hb dX6_cleared_111 (lv_at hl 10 rfl) ?_
                refine ni_clt hx hb 129 dX6_cleared_113 (by decide) (by omega) (by omega) (fun c113 => ?_) (fun c113 => ?_)
                · refine lv_iload hx hb dX6_cleared_129 (lv_at hl 3 rfl) ?_
                  refine lv_iload hx hb dX6_cleared_131 (lv_at hl 2 rfl) ?_
                  refine ni_eq0 hx hb 145 dX6_cleared_133 (by decide) (by omega) (fun c133 => ?_) (fun c133 => ?_)
                  · refine lv_iconst (v := nI 0) hx hb dX6_cleared_145 (by decide) ?_
                    refine ni_iadd hx hb dX6_cleared_146 ?_
                    refine lv_istore (lv' := [(8, .int (nI (sp + 0))), (11, .int (nI (run 0 (nr rv) (ar rv) ((sp_mean (nr rv) (ar rv)) * (100 - uv)) i))), (10, .int (nI i)), (9, .int (nI gp)), (7, .int (nI kp)), (5, .long (lN (sp_mean (nr rv) (ar rv)))), (0, .ref (ad 36)), (1, .int (nI rv)), (2, .int (nI tv)), (3, .int (nI uv)), (4, .int (nI lv))]) hx hb dX6_cleared_147 hl (by decide) rfl (fun ls hl => ?_)
                    refine lv_iconst (v := nI 0) hx hb dX6_cleared_149 (by decide) ?_
                    refine lv_istore (lv' := [(9, .int (nI 0)), (8, .int (nI (sp + 0))), (11, .int (nI (run 0 (nr rv) (ar rv) ((sp_mean (nr rv) (ar rv)) * (100 - uv)) i))), (10, .int (nI i)), (7, .int (nI kp)), (5, .long (lN (sp_mean (nr rv) (ar rv)))), (0, .ref (ad 36)), (1, .int (nI rv)), (2, .int (nI tv)), (3, .int (nI uv)), (4, .int (nI lv))]) hx hb dX6_cleared_150 hl (by decide) rfl (fun ls hl => ?_)
                    refine lv_aload_n hx hb dX6_cleared_152 rfl (lv_at hl 6 rfl) ?_
                    refine rp_get C0 FX hH 36 (by decide) (ci := 6) (k := 11) f36 rfl kiX6 (by decide) kf41 rfl dX6_cleared_153 ?_
                    refine lv_iload hx hb dX6_cleared_156 (lv_at hl 4 rfl) ?_
                    refine lv_aload_n hx hb dX6_cleared_158 rfl (lv_at hl 6 rfl) ?_
                    refine rp_get C0 FX hH 36 (by decide) (ci := 6) (k := 10) f36 rfl kiX6 (by decide) kf38 rfl dX6_cleared_159 ?_
                    refine lv_sipush (v := nI 400) hx hb dX6_cleared_162 (by decide) ?_
                    refine lv_iload_n hx hb dX6_cleared_165 rfl (lv_at hl 7 rfl) ?_
                    refine ni_imul hx hb dX6_cleared_166 ?_
                    refine lv_iload hx hb dX6_cleared_167 (lv_at hl 3 rfl) ?_
                    refine ni_iadd hx hb dX6_cleared_169 ?_
                    refine rp_iald C0 FX hH 44 (by decide) (v := ar rv i) f44 ((400 * rv) + i) (by omega) (by decide) (hms rv (by omega) _ (by omega)) dX6_cleared_170 ?_
                    refine rp_iast C0 FX hH 45 (by decide) f45 kp (ar rv i) (by omega) (by decide) dX6_cleared_171 (fun g2 H locs eq3 nq3 hH => ?_)
                    have f45 : g2 45 = arr X 400 (va_up fx kp (ar rv i)) := eq3
                    have f36 : g2 36 = .inr (6, [.int (nI fa), .int (nI fb), .int (nI nm), .ref (ad 37), .ref (ad 38), .ref (ad 39), .ref (ad 40), .ref (ad 41), .ref (ad 42), .ref (ad 43), .ref (ad 44), .ref (ad 45), .int (nI nb), .ref (ad 46), .int (nI lay), .int (nI pm), .ref (ad 47), .int (nI tr)]) := (nq3 _ (by omega)).trans f36
                    have f37 : g2 37 = arr X 6 md := (nq3 _ (by omega)).trans f37
                    have f38 : g2 38 = arr X 6 ma := (nq3 _ (by omega)).trans f38
                    have f39 : g2 39 = arr X 6 mb := (nq3 _ (by omega)).trans f39
                    have f40 : g2 40 = arr X 6 ml := (nq3 _ (by omega)).trans f40
                    have f41 : g2 41 = arr X 6 mr := (nq3 _ (by omega)).trans f41
                    have f42 : g2 42 = arr X 18 mo := (nq3 _ (by omega)).trans f42
                    have f43 : g2 43 = arr X 8 cn := (nq3 _ (by omega)).trans f43
                    have f44 : g2 44 = arr X 3200 ms := (nq3 _ (by omega)).trans f44
                    have f46 : g2 46 = arr X 12 nn := (nq3 _ (by omega)).trans f46
                    have f47 : g2 47 = arr X 12 pl := (nq3 _ (by omega)).trans f47
                    have fr : ∀ j, (j < 36) → g2 j = g j := fun j a0 => (nq3 j (by omega)).trans (fr j a0)
                    refine lv_iinc (v := nI (kp + 1)) (lv' := [(7, .int (nI (kp + 1))), (9, .int (nI 0)), (8, .int (nI (sp + 0))), (11, .int (nI (run 0 (nr rv) (ar rv) ((sp_mean (nr rv) (ar rv)) * (100 - uv)) i))), (10, .int (nI i)), (5, .long (lN (sp_mean (nr rv) (ar rv)))), (0, .ref (ad 36)), (1, .int (nI rv)), (2, .int (nI tv)), (3, .int (nI uv)), (4, .int (nI lv))]) hx hb dX6_cleared_172 hl (k := 4) rfl (ni_inc1 _) (by decide) rfl (fun ls hl => ?_)
                    refine lv_iinc (v := nI (i + 1)) (lv' := [(10, .int (nI (i + 1))), (7, .int (nI (kp + 1))), (9, .int (nI 0)), (8, .int (nI (sp + 0))), (11, .int (nI (run 0 (nr rv) (ar rv) ((sp_mean (nr rv) (ar rv)) * (100 - uv)) i))), (5, .long (lN (sp_mean (nr rv) (ar rv)))), (0, .ref (ad 36)), (1, .int (nI rv)), (2, .int (nI tv)), (3, .int (nI uv)), (4, .int (nI lv))]) hx hb dX6_cleared_175 hl (k := 4) rfl (ni_inc1 _) (by decide) rfl (fun ls hl => ?_)
                    refine lv_goto (tgt := 60) hx hb dX6_cleared_178 (by decide) ?_
                    exact ih60 (kp + 1) (sp + 0) 0 (i + 1) (va_up o kp (ar rv i)) (va_up fx kp (ar rv i)) _ _ _ ls (by omega) (by omega) (by omega) (by omega) (by rw [← i3, cur_step _ _ c68, show clf (nr rv) (ar rv) (sp_mean (nr rv) (ar rv) * (100 + tv)) (sp_mean (nr rv) (ar rv) * (100 - uv)) lv i (kp, sp, gp, o) = (kp + 1, sp + 0, 0, va_up o kp (ar rv i)) from by unfold clf; rw [if_pos (by unfold plc; rw [if_neg (by omega), if_neg (by omega)])]; show (_, sp + (if 0 < gp ∧ 0 < kp then 1 else 0), _, _) = _; rw [if_neg (fun z => by first | (have := z.1; omega) | (have := z.2; omega))], show plc (nr rv) (ar rv) (sp_mean (nr rv) (ar rv) * (100 + tv)) (sp_mean (nr rv) (ar rv) * (100 - uv)) lv i = 0 from by unfold plc; rw [if_neg (by omega), if_neg (by omega)], Nat.max_eq_right (by omega)]) (up_lt j6) (fun j h => by by_cases q : j = kp; rw [q, va_up_self]; exact hra9 i c68; rw [va_up_ne _ _ q]; exact j9 j (by omega)) (by omega) hH f36 f37 f38 f39 f40 f41 f42 f43 f44 f45 f46 f47 fr (lv_sub hl [0, 2, 3, 1, 5, 6, 7, 8, 9, 10] rfl)
                  · refine lv_iload hx hb dX6_cleared_136 (lv_at hl 4 rfl) ?_
                    refine ni_le0 hx hb 145 dX6_cleared_138 (by decide) (by omega) (fun c138 => ?_) (fun c138 => ?_)
                    · refine lv_iconst (v := nI 0) hx hb dX6_cleared_145 (by decide) ?_
                      refine ni_iadd hx hb dX6_cleared_146 ?_
                      refine lv_istore (lv' := [(8, .int (nI (sp + 0))), (11, .int (nI (run 0 (nr rv) (ar rv) ((sp_mean (nr rv) (ar rv)) * (100 - uv)) i))), (10, .int (nI i)), (9, .int (nI gp)), (7, .int (nI kp)), (5, .long (lN (sp_mean (nr rv) (ar rv)))), (0, .ref (ad 36)), (1, .int (nI rv)), (2, .int (nI tv)), (3, .int (nI uv)), (4, .int (nI lv))]) hx hb dX6_cleared_147 hl (by decide) rfl (fun ls hl => ?_)
                      refine lv_iconst (v := nI 0) hx hb dX6_cleared_149 (by decide) ?_
                      refine lv_istore (lv' := [(9, .int (nI 0)), (8, .int (nI (sp + 0))), (11, .int (nI (run 0 (nr rv) (ar rv) ((sp_mean (nr rv) (ar rv)) * (100 - uv)) i))), (10, .int (nI i)), (7, .int (nI kp)), (5, .long (lN (sp_mean (nr rv) (ar rv)))), (0, .ref (ad 36)), (1, .int (nI rv)), (2, .int (nI tv)), (3, .int (nI uv)), (4, .int (nI lv))]) hx hb dX6_cleared_150 hl (by decide) rfl (fun ls hl => ?_)
                      refine lv_aload_n hx hb dX6_cleared_152 rfl (lv_at hl 6 rfl) ?_
                      refine rp_get C0 FX hH 36 (by decide) (ci := 6) (k := 11) f36 rfl kiX6 (by decide) kf41 rfl dX6_cleared_153 ?_
                      refine lv_iload hx hb dX6_cleared_156 (lv_at hl 4 rfl) ?_
                      refine lv_aload_n hx hb dX6_cleared_158 rfl (lv_at hl 6 rfl) ?_
                      refine rp_get C0 FX hH 36 (by decide) (ci := 6) (k := 10) f36 rfl kiX6 (by decide) kf38 rfl dX6_cleared_159 ?_
                      refine lv_sipush (v := nI 400) hx hb dX6_cleared_162 (by decide) ?_
                      refine lv_iload_n hx hb dX6_cleared_165 rfl (lv_at hl 7 rfl) ?_
                      refine ni_imul hx hb dX6_cleared_166 ?_
                      refine lv_iload hx hb dX6_cleared_167 (lv_at hl 3 rfl) ?_
                      refine ni_iadd hx hb dX6_cleared_169 ?_
                      refine rp_iald C0 FX hH 44 (by decide) (v := ar rv i) f44 ((400 * rv) + i) (by omega) (by decide) (hms rv (by omega) _ (by omega)) dX6_cleared_170 ?_
                      refine rp_iast C0 FX hH 45 (by decide) f45 kp (ar rv i) (by omega) (by decide) dX6_cleared_171 (fun g4 H locs eq5 nq5 hH => ?_)
                      have f45 : g4 45 = arr X 400 (va_up fx kp (ar rv i)) := eq5
                      have f36 : g4 36 = .inr (6, [.int (nI fa), .int (nI fb), .int (nI nm), .ref (ad 37), .ref (ad 38), .ref (ad 39), .ref (ad 40), .ref (ad 41), .ref (ad 42), .ref (ad 43), .ref (ad 44), .ref (ad 45), .int (nI nb), .ref (ad 46), .int (nI lay), .int (nI pm), .ref (ad 47), .int (nI tr)]) := (nq5 _ (by omega)).trans f36
                      have f37 : g4 37 = arr X 6 md := (nq5 _ (by omega)).trans f37
                      have f38 : g4 38 = arr X 6 ma := (nq5 _ (by omega)).trans f38
                      have f39 : g4 39 = arr X 6 mb := (nq5 _ (by omega)).trans f39
                      have f40 : g4 40 = arr X 6 ml := (nq5 _ (by omega)).trans f40
                      have f41 : g4 41 = arr X 6 mr := (nq5 _ (by omega)).trans f41
                      have f42 : g4 42 = arr X 18 mo := (nq5 _ (by omega)).trans f42
                      have f43 : g4 43 = arr X 8 cn := (nq5 _ (by omega)).trans f43
                      have f44 : g4 44 = arr X 3200 ms := (nq5 _ (by omega)).trans f44
                      have f46 : g4 46 = arr X 12 nn := (nq5 _ (by omega)).trans f46
                      have f47 : g4 47 = arr X 12 pl := (nq5 _ (by omega)).trans f47
                      have fr : ∀ j, (j < 36) → g4 j = g j := fun j a0 => (nq5 j (by omega)).trans (fr j a0)
                      refine lv_iinc (v := nI (kp + 1)) (lv' := [(7, .int (nI (kp + 1))), (9, .int (nI 0)), (8, .int (nI (sp + 0))), (11, .int (nI (run 0 (nr rv) (ar rv) ((sp_mean (nr rv) (ar rv)) * (100 - uv)) i))), (10, .int (nI i)), (5, .long (lN (sp_mean (nr rv) (ar rv)))), (0, .ref (ad 36)), (1, .int (nI rv)), (2, .int (nI tv)), (3, .int (nI uv)), (4, .int (nI lv))]) hx hb dX6_cleared_172 hl (k := 4) rfl (ni_inc1 _) (by decide) rfl (fun ls hl => ?_)
                      refine lv_iinc (v := nI (i + 1)) (lv' := [(10, .int (nI (i + 1))), (7, .int (nI (kp + 1))), (9, .int (nI 0)), (8, .int (nI (sp + 0))), (11, .int (nI (run 0 (nr rv) (ar rv) ((sp_mean (nr rv) (ar rv)) * (100 - uv)) i))), (5, .long (lN (sp_mean (nr rv) (ar rv)))), (0, .ref (ad 36)), (1, .int (nI rv)), (2, .int (nI tv)), (3, .int (nI uv)), (4, .int (nI lv))]) hx hb dX6_cleared_175 hl (k := 4) rfl (ni_inc1 _) (by decide) rfl (fun ls hl => ?_)
                      refine lv_goto (tgt := 60) hx hb dX6_cleared_178 (by decide) ?_
                      exact ih60 (kp + 1) (sp + 0) 0 (i + 1) (va_up o kp (ar rv i)) (va_up fx kp (ar rv i)) _ _ _ ls (by omega) (by omega) (by omega) (by omega) (by rw [← i3, cur_step _ _ c68, show clf (nr rv) (ar rv) (sp_mean (nr rv) (ar rv) * (100 + tv)) (sp_mean (nr rv) (ar rv) * (100 - uv)) lv i (kp, sp, gp, o) = (kp + 1, sp + 0, 0, va_up o kp (ar rv i)) from by unfold clf; rw [if_pos (by unfold plc; rw [if_neg (by omega), if_neg (by omega)])]; show (_, sp + (if 0 < gp ∧ 0 < kp then 1 else 0), _, _) = _; rw [if_neg (fun z => by first | (have := z.1; omega) | (have := z.2; omega))], show plc (nr rv) (ar rv) (sp_mean (nr rv) (ar rv) * (100 + tv)) (sp_mean (nr rv) (ar rv) * (100 - uv)) lv i = 0 from by unfold plc; rw [if_neg (by omega), if_neg (by omega)], Nat.max_eq_right (by omega)]) (up_lt j6) (fun j h => by by_cases q : j = kp; rw [q, va_up_self]; exact hra9 i c68; rw [va_up_ne _ _ q]; exact j9 j (by omega)) (by omega) hH f36 f37 f38 f39 f40 f41 f42 f43 f44 f45 f46 f47 fr (lv_sub hl [0, 2, 3, 1, 5, 6, 7, 8, 9, 10] rfl)
                    · refine lv_iconst (v := nI 1) hx hb dX6_cleared_141 (by decide) ?_
                      refine lv_goto (tgt := 146) hx hb dX6_cleared_142 (by decide) ?_
                      refine ni_iadd hx hb dX6_cleared_146 ?_
                      refine lv_istore (lv' := [(8, .int (nI (sp + 1))), (11, .int (nI (run 0 (nr rv) (ar rv) ((sp_mean (nr rv) (ar rv)) * (100 - uv)) i))), (10, .int (nI i)), (9, .int (nI gp)), (7, .int (nI kp)), (5, .long (lN (sp_mean (nr rv) (ar rv)))), (0, .ref (ad 36)), (1, .int (nI rv)), (2, .int (nI tv)), (3, .int (nI uv)), (4, .int (nI lv))]) hx hb dX6_cleared_147 hl (by decide) rfl (fun ls hl => ?_)
                      refine lv_iconst (v := nI 0) hx hb dX6_cleared_149 (by decide) ?_
                      refine lv_istore (lv' := [(9, .int (nI 0)), (8, .int (nI (sp + 1))), (11, .int (nI (run 0 (nr rv) (ar rv) ((sp_mean (nr rv) (ar rv)) * (100 - uv)) i))), (10, .int (nI i)), (7, .int (nI kp)), (5, .long (lN (sp_mean (nr rv) (ar rv)))), (0, .ref (ad 36)), (1, .int (nI rv)), (2, .int (nI tv)), (3, .int (nI uv)), (4, .int (nI lv))]) hx hb dX6_cleared_150 hl (by decide) rfl (fun ls hl => ?_)
                      refine lv_aload_n hx hb dX6_cleared_152 rfl (lv_at hl 6 rfl) ?_
                      refine rp_get C0 FX hH 36 (by decide) (ci := 6) (k := 11) f36 rfl kiX6 (by decide) kf41 rfl dX6_cleared_153 ?_
                      refine lv_iload hx hb dX6_cleared_156 (lv_at hl 4 rfl) ?_
                      refine lv_aload_n hx hb dX6_cleared_158 rfl (lv_at hl 6 rfl) ?_
                      refine rp_get C0 FX hH 36 (by decide) (ci := 6) (k := 10) f36 rfl kiX6 (by decide) kf38 rfl dX6_cleared_159 ?_
                      refine lv_sipush (v := nI 400) hx hb dX6_cleared_162 (by decide) ?_
                      refine lv_iload_n hx hb dX6_cleared_165 rfl (lv_at hl 7 rfl) ?_
                      refine ni_imul hx hb dX6_cleared_166 ?_
                      refine lv_iload hx hb dX6_cleared_167 (lv_at hl 3 rfl) ?_
                      refine ni_iadd hx hb dX6_cleared_169 ?_
                      refine rp_iald C0 FX hH 44 (by decide) (v := ar rv i) f44 ((400 * rv) + i) (by omega) (by decide) (hms rv (by omega) _ (by omega)) dX6_cleared_170 ?_
                      refine rp_iast C0 FX hH 45 (by decide) f45 kp (ar rv i) (by omega) (by decide) dX6_cleared_171 (fun g6 H locs eq7 nq7 hH => ?_)
                      have f45 : g6 45 = arr X 400 (va_up fx kp (ar rv i)) := eq7
                      have f36 : g6 36 = .inr (6, [.int (nI fa), .int (nI fb), .int (nI nm), .ref (ad 37), .ref (ad 38), .ref (ad 39), .ref (ad 40), .ref (ad 41), .ref (ad 42), .ref (ad 43), .ref (ad 44), .ref (ad 45), .int (nI nb), .ref (ad 46), .int (nI lay), .int (nI pm), .ref (ad 47), .int (nI tr)]) := (nq7 _ (by omega)).trans f36
                      have f37 : g6 37 = arr X 6 md := (nq7 _ (by omega)).trans f37
                      have f38 : g6 38 = arr X 6 ma := (nq7 _ (by omega)).trans f38
                      have f39 : g6 39 = arr X 6 mb := (nq7 _ (by omega)).trans f39
                      have f40 : g6 40 = arr X 6 ml := (nq7 _ (by omega)).trans f40
                      have f41 : g6 41 = arr X 6 mr := (nq7 _ (by omega)).trans f41
                      have f42 : g6 42 = arr X 18 mo := (nq7 _ (by omega)).trans f42
                      have f43 : g6 43 = arr X 8 cn := (nq7 _ (by omega)).trans f43
                      have f44 : g6 44 = arr X 3200 ms := (nq7 _ (by omega)).trans f44
                      have f46 : g6 46 = arr X 12 nn := (nq7 _ (by omega)).trans f46
                      have f47 : g6 47 = arr X 12 pl := (nq7 _ (by omega)).trans f47
                      have fr : ∀ j, (j < 36) → g6 j = g j := fun j a0 => (nq7 j (by omega)).trans (fr j a0)
                      refine lv_iinc (v := nI (kp + 1)) (lv' := [(7, .int (nI (kp + 1))), (9, .int (nI 0)), (8, .int (nI (sp + 1))), (11, .int (nI (run 0 (nr rv) (ar rv) ((sp_mean (nr rv) (ar rv)) * (100 - uv)) i))), (10, .int (nI i)), (5, .long (lN (sp_mean (nr rv) (ar rv)))), (0, .ref (ad 36)), (1, .int (nI rv)), (2, .int (nI tv)), (3, .int (nI uv)), (4, .int (nI lv))]) hx hb dX6_cleared_172 hl (k := 4) rfl (ni_inc1 _) (by decide) rfl (fun ls hl => ?_)
                      refine lv_iinc (v := nI (i + 1)) (lv' := [(10, .int (nI (i + 1))), (7, .int (nI (kp + 1))), (9, .int (nI 0)), (8, .int (nI (sp + 1))), (11, .int (nI (run 0 (nr rv) (ar rv) ((sp_mean (nr rv) (ar rv)) * (100 - uv)) i))), (5, .long (lN (sp_mean (nr rv) (ar rv)))), (0, .ref (ad 36)), (1, .int (nI rv)), (2, .int (nI tv)), (3, .int (nI uv)), (4, .int (nI lv))]) hx hb dX6_cleared_175 hl (k := 4) rfl (ni_inc1 _) (by decide) rfl (fun ls hl => ?_)
                      refine lv_goto (tgt := 60) hx hb dX6_cleared_178 (by decide) ?_
                      exact ih60 (kp + 1) (sp + 1) 0 (i + 1) (va_up o kp (ar rv i)) (va_up fx kp (ar rv i)) _ _ _ ls (by omega) (by omega) (by omega) (by omega) (by rw [← i3, cur_step _ _ c68, show clf (nr rv) (ar rv) (sp_mean (nr rv) (ar rv) * (100 + tv)) (sp_mean (nr rv) (ar rv) * (100 - uv)) lv i (kp, sp, gp, o) = (kp + 1, sp + 1, 0, va_up o kp (ar rv i)) from by unfold clf; rw [if_pos (by unfold plc; rw [if_neg (by omega), if_neg (by omega)])]; show (_, sp + (if 0 < gp ∧ 0 < kp then 1 else 0), _, _) = _; rw [if_pos ⟨c133, c138⟩], show plc (nr rv) (ar rv) (sp_mean (nr rv) (ar rv) * (100 + tv)) (sp_mean (nr rv) (ar rv) * (100 - uv)) lv i = 0 from by unfold plc; rw [if_neg (by omega), if_neg (by omega)], Nat.max_eq_right (by omega)]) (up_lt j6) (fun j h => by by_cases q : j = kp; rw [q, va_up_self]; exact hra9 i c68; rw [va_up_ne _ _ q]; exact j9 j (by omega)) (by omega) hH f36 f37 f38 f39 f40 f41 f42 f43 f44 f45 f46 f47 fr (lv_sub hl [0, 2, 3, 1, 5, 6, 7, 8, 9, 10] rfl)
                · refine lv_iconst (v := nI 1) hx hb dX6_cleared_116 (by decide) ?_
                  refine lv_istore (lv' := [(9, .int (nI 1)), (11, .int (nI (run 0 (nr rv) (ar rv) ((sp_mean (nr rv) (ar rv)) * (100 - uv)) i))), (10, .int (nI i)), (8, .int (nI sp)), (7, .int (nI kp)), (5, .long (lN (sp_mean (nr rv) (ar rv)))), (0, .ref (ad 36)), (1, .int (nI rv)), (2, .int (nI tv)), (3, .int (nI uv)), (4, .int (nI lv))]) hx hb dX6_cleared_117 hl (by decide) rfl (fun ls hl => ?_)
                  refine lv_iload hx hb dX6_cleared_119 (lv_at hl 2 rfl) ?_
                  refine lv_iload hx hb dX6_cleared_121 (lv_at hl 1 rfl) ?_
                  refine ni_iadd hx hb dX6_cleared_123 ?_
                  refine lv_istore (lv' := [(10, .int (nI (i + (run 0 (nr rv) (ar rv) ((sp_mean (nr rv) (ar rv)) * (100 - uv)) i)))), (9, .int (nI 1)), (11, .int (nI (run 0 (nr rv) (ar rv) ((sp_mean (nr rv) (ar rv)) * (100 - uv)) i))), (8, .int (nI sp)), (7, .int (nI kp)), (5, .long (lN (sp_mean (nr rv) (ar rv)))), (0, .ref (ad 36)), (1, .int (nI rv)), (2, .int (nI tv)), (3, .int (nI uv)), (4, .int (nI lv))]) hx hb dX6_cleared_124 hl (by decide) rfl (fun ls hl => ?_)
                  refine lv_goto (tgt := 178) hx hb dX6_cleared_126 (by decide) ?_
                  refine lv_goto (tgt := 60) hx hb dX6_cleared_178 (by decide) ?_
                  exact ih60 kp sp 1 (i + (run 0 (nr rv) (ar rv) ((sp_mean (nr rv) (ar rv)) * (100 - uv)) i)) o fx _ _ _ ls (by omega) (by omega) (by omega) (by omega) (by rw [← i3, cur_step _ _ c68, show clf (nr rv) (ar rv) (sp_mean (nr rv) (ar rv) * (100 + tv)) (sp_mean (nr rv) (ar rv) * (100 - uv)) lv i (kp, sp, gp, o) = (kp, sp, 1, o) from by unfold clf; rw [if_neg (by rw [show plc (nr rv) (ar rv) (sp_mean (nr rv) (ar rv) * (100 + tv)) (sp_mean (nr rv) (ar rv) * (100 - uv)) lv i = run 0 (nr rv) (ar rv) (sp_mean (nr rv) (ar rv) * (100 - uv)) i from by unfold plc; rw [if_neg (by omega), if_pos c113]]; omega)], show plc (nr rv) (ar rv) (sp_mean (nr rv) (ar rv) * (100 + tv)) (sp_mean (nr rv) (ar rv) * (100 - uv)) lv i = run 0 (nr rv) (ar rv) (sp_mean (nr rv) (ar rv) * (100 - uv)) i from by unfold plc; rw [if_neg (by omega), if_pos c113], Nat.max_eq_left (by omega)]) (j6) (j9) (by omega) hH f36 f37 f38 f39 f40 f41 f42 f43 f44 f45 f46 f47 fr (lv_sub hl [0, 1, 3, 4, 5, 6, 7, 8, 9, 10] rfl)
              · refine lv_iload hx hb dX6_cleared_91 (lv_at hl 0 rfl) ?_
                refine lv_goto (tgt := 107) hx hb dX6_cleared_93 (by decide) ?_
                refine lv_istore (lv' := [(11, .int (nI (run 1 (nr rv) (ar rv) ((sp_mean (nr rv) (ar rv)) * (100 + tv)) i))), (10, .int (nI i)), (9, .int (nI gp)), (8, .int (nI sp)), (7, .int (nI kp)), (5, .long (lN (sp_mean (nr rv) (ar rv)))), (0, .ref (ad 36)), (1, .int (nI rv)), (2, .int (nI tv)), (3, .int (nI uv)), (4, .int (nI lv))]) hx hb dX6_cleared_107 hl (by decide) rfl (fun ls hl => ?_)
                refine lv_iload hx hb dX6_cleared_109 (lv_at hl 0 rfl) ?_
                refine lv_iload hx hb dX6_cleared_111 (lv_at hl 10 rfl) ?_
                refine ni_clt hx hb 129 dX6_cleared_113 (by decide) (by omega) (by omega) (fun c113 => ?_) (fun c113 => ?_)
                · exact absurd c113 (by omega)
                · refine lv_iconst (v := nI 1) hx hb dX6_cleared_116 (by decide) ?_
                  refine lv_istore (lv' := [(9, .int (nI 1)), (11, .int (nI (run 1 (nr rv) (ar rv) ((sp_mean (nr rv) (ar rv)) * (100 + tv)) i))), (10, .int (nI i)), (8, .int (nI sp)), (7, .int (nI kp)), (5, .long (lN (sp_mean (nr rv) (ar rv)))), (0, .ref (ad 36)), (1, .int (nI rv)), (2, .int (nI tv)), (3, .int (nI uv)), (4, .int (nI lv))]) hx hb dX6_cleared_117 hl (by decide) rfl (fun ls hl => ?_)
                  refine lv_iload hx hb dX6_cleared_119 (lv_at hl 2 rfl) ?_
                  refine lv_iload hx hb dX6_cleared_121 (lv_at hl 1 rfl) ?_
                  refine ni_iadd hx hb dX6_cleared_123 ?_
                  refine lv_istore (lv' := [(10, .int (nI (i + (run 1 (nr rv) (ar rv) ((sp_mean (nr rv) (ar rv)) * (100 + tv)) i)))), (9, .int (nI 1)), (11, .int (nI (run 1 (nr rv) (ar rv) ((sp_mean (nr rv) (ar rv)) * (100 + tv)) i))), (8, .int (nI sp)), (7, .int (nI kp)), (5, .long (lN (sp_mean (nr rv) (ar rv)))), (0, .ref (ad 36)), (1, .int (nI rv)), (2, .int (nI tv)), (3, .int (nI uv)), (4, .int (nI lv))]) hx hb dX6_cleared_124 hl (by decide) rfl (fun ls hl => ?_)
                  refine lv_goto (tgt := 178) hx hb dX6_cleared_126 (by decide) ?_
                  refine lv_goto (tgt := 60) hx hb dX6_cleared_178 (by decide) ?_
                  exact ih60 kp sp 1 (i + (run 1 (nr rv) (ar rv) ((sp_mean (nr rv) (ar rv)) * (100 + tv)) i)) o fx _ _ _ ls (by omega) (by omega) (by omega) (by omega) (by rw [← i3, cur_step _ _ c68, show clf (nr rv) (ar rv) (sp_mean (nr rv) (ar rv) * (100 + tv)) (sp_mean (nr rv) (ar rv) * (100 - uv)) lv i (kp, sp, gp, o) = (kp, sp, 1, o) from by unfold clf; rw [if_neg (by rw [show plc (nr rv) (ar rv) (sp_mean (nr rv) (ar rv) * (100 + tv)) (sp_mean (nr rv) (ar rv) * (100 - uv)) lv i = run 1 (nr rv) (ar rv) (sp_mean (nr rv) (ar rv) * (100 + tv)) i from by unfold plc; rw [if_pos c88]]; omega)], show plc (nr rv) (ar rv) (sp_mean (nr rv) (ar rv) * (100 + tv)) (sp_mean (nr rv) (ar rv) * (100 - uv)) lv i = run 1 (nr rv) (ar rv) (sp_mean (nr rv) (ar rv) * (100 + tv)) i from by unfold plc; rw [if_pos c88], Nat.max_eq_left (by omega)]) (j6) (j9) (by omega) hH f36 f37 f38 f39 f40 f41 f42 f43 f44 f45 f46 f47 fr (lv_sub hl [0, 1, 3, 4, 5, 6, 7, 8, 9, 10] rfl)
        exact L60 ((nr rv - 0) + 1) 0 0 0 0 (fun _ => 0) fs _ _ _ ls (by omega) (by omega) (by omega) (by omega) (by rfl) (fun j h => absurd h (Nat.not_lt_zero _)) (fun j h => absurd h (Nat.not_lt_zero _)) (Nat.lt_succ_self _) hH f36 f37 f38 f39 f40 f41 f42 f43 f44 f45 f46 f47 fr (lv_sub hl [0, 1, 2, 3, 4, 5, 6, 7, 8, 9] rfl)
      · have hz0 : nr rv = 0 := c26
        refine lv_lconst (v := lN 0) hx hb dX6_cleared_29 (by decide) ?_
        refine lv_goto (tgt := 46) hx hb dX6_cleared_30 (by decide) ?_
        refine ni_topl (b := sp_mean (nr rv) (ar rv)) (by unfold sp_mean; rw [hz0, Nat.div_zero]) ?_
        refine lv_lstore (lv' := [(5, .long (lN (sp_mean (nr rv) (ar rv)))), (0, .ref (ad 36)), (1, .int (nI rv)), (2, .int (nI tv)), (3, .int (nI uv)), (4, .int (nI lv))]) hx hb dX6_cleared_46 hl (by decide) rfl (fun ls hl => ?_)
        refine lv_iconst (v := nI 0) hx hb dX6_cleared_48 (by decide) ?_
        refine lv_istore (lv' := [(7, .int (nI 0)), (5, .long (lN (sp_mean (nr rv) (ar rv)))), (0, .ref (ad 36)), (1, .int (nI rv)), (2, .int (nI tv)), (3, .int (nI uv)), (4, .int (nI lv))]) hx hb dX6_cleared_49 hl (by decide) rfl (fun ls hl => ?_)
        refine lv_iconst (v := nI 0) hx hb dX6_cleared_51 (by decide) ?_
        refine lv_istore (lv' := [(8, .int (nI 0)), (7, .int (nI 0)), (5, .long (lN (sp_mean (nr rv) (ar rv)))), (0, .ref (ad 36)), (1, .int (nI rv)), (2, .int (nI tv)), (3, .int (nI uv)), (4, .int (nI lv))]) hx hb dX6_cleared_52 hl (by decide) rfl (fun ls hl => ?_)
        refine lv_iconst (v := nI 0) hx hb dX6_cleared_54 (by decide) ?_
        refine lv_istore (lv' := [(9, .int (nI 0)), (8, .int (nI 0)), (7, .int (nI 0)), (5, .long (lN (sp_mean (nr rv) (ar rv)))), (0, .ref (ad 36)), (1, .int (nI rv)), (2, .int (nI tv)), (3, .int (nI uv)), (4, .int (nI lv))]) hx hb dX6_cleared_55 hl (by decide) rfl (fun ls hl => ?_)
        refine lv_iconst (v := nI 0) hx hb dX6_cleared_57 (by decide) ?_
        refine lv_istore (lv' := [(10, .int (nI 0)), (9, .int (nI 0)), (8, .int (nI 0)), (7, .int (nI 0)), (5, .long (lN (sp_mean (nr rv) (ar rv)))), (0, .ref (ad 36)), (1, .int (nI rv)), (2, .int (nI tv)), (3, .int (nI uv)), (4, .int (nI lv))]) hx hb dX6_cleared_58 hl (by decide) rfl (fun ls hl => ?_)
        have L60 : ∀ (fu : Nat) (kp : Nat) (sp : Nat) (gp : Nat) (i : Nat) (o : Nat → Nat) (fx : Nat → Nat) (g8 : PF) (H : Heap) (locs : List Loc) (ls : Array Slot), (i ≤ nr rv) → (kp ≤ i) → (gp ≤ 1) → (sp ≤ i) → (cur (plc (nr rv) (ar rv) (sp_mean (nr rv) (ar rv) * (100 + tv)) (sp_mean (nr rv) (ar rv) * (100 - uv)) lv) (clf (nr rv) (ar rv) (sp_mean (nr rv) (ar rv) * (100 + tv)) (sp_mean (nr rv) (ar rv) * (100 - uv)) lv) (nr rv) (nr rv - i) i (kp, sp, gp, o) = cl (nr rv) (ar rv) (sp_mean (nr rv) (ar rv) * (100 + tv)) (sp_mean (nr rv) (ar rv) * (100 - uv)) lv) → (∀ j, j < kp → fx j = o j) → (∀ j, j < kp → o j ≤ 1000000) → nr rv - i < fu → WH X 48 ad (pA 48 ad s.heap.size) s g8 H locs → g8 36 = .inr (6, [.int (nI fa), .int (nI fb), .int (nI nm), .ref (ad 37), .ref (ad 38), .ref (ad 39), .ref (ad 40), .ref (ad 41), .ref (ad 42), .ref (ad 43), .ref (ad 44), .ref (ad 45), .int (nI nb), .ref (ad 46), .int (nI lay), .int (nI pm), .ref (ad 47), .int (nI tr)]) → g8 37 = arr X 6 md → g8 38 = arr X 6 ma → g8 39 = arr X 6 mb → g8 40 = arr X 6 ml → g8 41 = arr X 6 mr → g8 42 = arr X 18 mo → g8 43 = arr X 8 cn → g8 44 = arr X 3200 ms → g8 45 = arr X 400 fx → g8 46 = arr X 12 nn → g8 47 = arr X 12 pl → (∀ j, (j < 36) → g8 j = g j) → lv_has ls 12 [(10, .int (nI i)), (9, .int (nI gp)), (8, .int (nI sp)), (7, .int (nI kp)), (5, .long (lN (sp_mean (nr rv) (ar rv)))), (0, .ref (ad 36)), (1, .int (nI rv)), (2, .int (nI tv)), (3, .int (nI uv)), (4, .int (nI lv))] → W p l e zr3 s m ([.ref (ad 36), .int (nI rv), .int (nI tv), .int (nI uv), .int (nI lv)] : List Value).toArray below meth c H locs 0 0 Q (F0 m 60 ls []) := by
          intro fu
          induction fu with
          | zero =>
            intro kp sp gp i o fx g8 H locs ls j1 j2 j7 j8 i3 j6 j9 hm
            exact absurd hm (Nat.not_lt_zero _)
          | succ fu ih =>
            have ih60 := ih; clear ih
            intro kp sp gp i o fx g8 H locs ls j1 j2 j7 j8 i3 j6 j9 hm60 hH f36 f37 f38 f39 f40 f41 f42 f43 f44 f45 f46 f47 fr hl
            have hr1 := run_le 1 (nr rv) (ar rv) (sp_mean (nr rv) (ar rv) * (100 + tv)) i
            have hr0 := run_le 0 (nr rv) (ar rv) (sp_mean (nr rv) (ar rv) * (100 - uv)) i
            refine lv_iload hx hb dX6_cleared_60 (lv_at hl 0 rfl) ?_
            refine lv_aload_n hx hb dX6_cleared_62 rfl (lv_at hl 5 rfl) ?_
            refine rp_get C0 FX hH 36 (by decide) (ci := 6) (k := 9) f36 rfl kiX6 (by decide) kf35 rfl dX6_cleared_63 ?_
            refine lv_iload_n hx hb dX6_cleared_66 rfl (lv_at hl 6 rfl) ?_
            refine rp_iald C0 FX hH 43 (by decide) (v := nr rv) f43 rv (by omega) (by decide) (hcn _ (by omega)) dX6_cleared_67 ?_
            refine ni_cge hx hb 181 dX6_cleared_68 (by decide) (by omega) (by omega) (fun c68 => ?_) (fun c68 => ?_)
            · refine lv_aload_n hx hb dX6_cleared_181 rfl (lv_at hl 5 rfl) ?_
              refine lv_iload_n hx hb dX6_cleared_182 rfl (lv_at hl 6 rfl) ?_
              refine lv_iload hx hb dX6_cleared_183 (lv_at hl 3 rfl) ?_
              refine rc_Vi (rest := []) C0 FX hH 36 (by decide) f36 rfl (k_X6_becomes l X ad hi _ fa fb nm nb lay pm tr cn ms fx f36 f43 f44 f45 rv kp (by omega) (by omega) (by rw [hcn rv (by omega)]; exact hro9) (fun j hj => by rw [j6 j hj]; have := j9 j hj; omega)) (cwV 2 C0.2.2.2.2 gX6_cleared_X6_becomes rfl rfl rfl (by decide +kernel) ⟨Nat.le_of_ble_eq_true rfl, Nat.le_of_ble_eq_true rfl⟩) rfl rfl hl.1 (Nat.le_of_ble_eq_true rfl) dX6_cleared_185 ⟨Nat.le_of_ble_eq_true rfl, Nat.le_of_ble_eq_true rfl⟩ (fun r185 g185c H locs h185 hH => ?_)
              obtain ⟨hfit, hnot, n185⟩ := h185
              have f36 : g185c 36 = .inr (6, [.int (nI fa), .int (nI fb), .int (nI nm), .ref (ad 37), .ref (ad 38), .ref (ad 39), .ref (ad 40), .ref (ad 41), .ref (ad 42), .ref (ad 43), .ref (ad 44), .ref (ad 45), .int (nI nb), .ref (ad 46), .int (nI lay), .int (nI pm), .ref (ad 47), .int (nI tr)]) := (n185 _ (by decide) (by decide)).trans f36
              have f37 : g185c 37 = arr X 6 md := (n185 _ (by decide) (by decide)).trans f37
              have f38 : g185c 38 = arr X 6 ma := (n185 _ (by decide) (by decide)).trans f38
              have f39 : g185c 39 = arr X 6 mb := (n185 _ (by decide) (by decide)).trans f39
              have f40 : g185c 40 = arr X 6 ml := (n185 _ (by decide) (by decide)).trans f40
              have f41 : g185c 41 = arr X 6 mr := (n185 _ (by decide) (by decide)).trans f41
              have f42 : g185c 42 = arr X 18 mo := (n185 _ (by decide) (by decide)).trans f42
              have f45 : g185c 45 = arr X 400 fx := (n185 _ (by decide) (by decide)).trans f45
              have f46 : g185c 46 = arr X 12 nn := (n185 _ (by decide) (by decide)).trans f46
              have f47 : g185c 47 = arr X 12 pl := (n185 _ (by decide) (by decide)).trans f47
              have fr : ∀ j, (j < 36) → g185c j = g j := fun j a0 => (n185 j (by omega) (by omega)).trans (fr j a0)
              by_cases hf9 : ∀ j, j < kp → (fx) j ≤ 1000000
              · obtain ⟨rfl, f43, ms8, f44, hm1, hm2⟩ := hfit hf9
                refine lv_istore (lv' := [(11, .int (nI kp)), (10, .int (nI i)), (9, .int (nI gp)), (8, .int (nI sp)), (7, .int (nI kp)), (5, .long (lN (sp_mean (nr rv) (ar rv)))), (0, .ref (ad 36)), (1, .int (nI rv)), (2, .int (nI tv)), (3, .int (nI uv)), (4, .int (nI lv))]) hx hb dX6_cleared_188 hl (by decide) rfl (fun ls hl => ?_)
                refine lv_iload hx hb dX6_cleared_190 (lv_at hl 3 rfl) ?_
                refine RET _ _ _ _ _ _ dX6_cleared_192 rfl ?_ hH
                have hT : cl (nr rv) (ar rv) (sp_mean (nr rv) (ar rv) * (100 + tv)) (sp_mean (nr rv) (ar rv) * (100 - uv)) lv = (kp, sp, gp, o) := by rw [← i3, cur_no _ _ (by omega)]
                refine mod_row (n1 := kp) (a1 := o) rv2 (by unfold sp_cleared; rw [if_pos c14, tN_nI (by omega), tN_nI (by omega), tN_nI (by omega), hT]) ⟨_, _, _, _, _, _, _, _, _, _, _, _, f36, f37, f38, f39, f40, f41, f42, f43, f44, f45, f46, f47, hrL, relR_up hrR hrok rv2 (fun r hr => by by_cases q : r = rv; rw [q, va_up_self, va_up_self]; rw [va_up_ne _ _ q, va_up_ne _ _ q]; exact hcn r hr) (fun j hj => ?_) (fun k hk => hm2 k (by omega)), hrS, hlok, rowsOk_up hrok (by omega) (j9), hsok, hpm⟩ fr
                rw [hm1 j hj]; exact j6 j hj
              · obtain ⟨rfl, f43, f44⟩ := hnot hf9
                rw [va_up_id] at f43
                refine lv_istore (lv' := [(11, .int ((-6))), (10, .int (nI i)), (9, .int (nI gp)), (8, .int (nI sp)), (7, .int (nI kp)), (5, .long (lN (sp_mean (nr rv) (ar rv)))), (0, .ref (ad 36)), (1, .int (nI rv)), (2, .int (nI tv)), (3, .int (nI uv)), (4, .int (nI lv))]) hx hb dX6_cleared_188 hl (by decide) rfl (fun ls hl => ?_)
                refine lv_iload hx hb dX6_cleared_190 (lv_at hl 3 rfl) ?_
                refine RET _ _ _ _ _ _ dX6_cleared_192 rfl ?_ hH
                exact absurd (fun j hj => by rw [j6 j hj]; exact j9 j hj) hf9
            · refine lv_aload_n hx hb dX6_cleared_71 rfl (lv_at hl 5 rfl) ?_
              refine lv_iload_n hx hb dX6_cleared_72 rfl (lv_at hl 6 rfl) ?_
              refine lv_iload hx hb dX6_cleared_73 (lv_at hl 0 rfl) ?_
              refine lv_lload hx hb dX6_cleared_75 (lv_at hl 4 rfl) ?_
              refine lv_iconst (v := nI 0) hx hb dX6_cleared_77 (by decide) ?_
              refine lv_iload_n hx hb dX6_cleared_78 rfl (lv_at hl 7 rfl) ?_
              refine rc_Vi (rest := []) C0 FX hH 36 (by decide) f36 rfl (k_X6_run_0 l X ad hi _ nm fa fb mc rd nr ar nb num lay pev pln tr ⟨_, _, _, _, _, _, _, _, _, _, _, _, f36, f37, f38, f39, f40, f41, f42, f43, f44, f45, f46, f47, hrL, hrR, hrS, hlok, hrok, hsok, hpm⟩ rv i (sp_mean (nr rv) (ar rv)) tv (by omega) (by omega) (by omega) (by omega)) (cwV 5 C0.2.2.2.2 gX6_cleared_X6_run rfl rfl rfl (by decide +kernel) ⟨Nat.le_of_ble_eq_true rfl, Nat.le_of_ble_eq_true rfl⟩) rfl rfl hl.1 (Nat.le_of_ble_eq_true rfl) dX6_cleared_79 ⟨Nat.le_of_ble_eq_true rfl, Nat.le_of_ble_eq_true rfl⟩ (fun r79 g79c H locs h79 hH => ?_)
              obtain ⟨e79, rfl⟩ := h79
              rw [e79] at hH
              refine lv_istore (lv' := [(11, .int (nI (run 1 (nr rv) (ar rv) ((sp_mean (nr rv) (ar rv)) * (100 + tv)) i))), (10, .int (nI i)), (9, .int (nI gp)), (8, .int (nI sp)), (7, .int (nI kp)), (5, .long (lN (sp_mean (nr rv) (ar rv)))), (0, .ref (ad 36)), (1, .int (nI rv)), (2, .int (nI tv)), (3, .int (nI uv)), (4, .int (nI lv))]) hx hb dX6_cleared_82 hl (by decide) rfl (fun ls hl => ?_)
              refine lv_iload hx hb dX6_cleared_84 (lv_at hl 0 rfl) ?_
              refine lv_iload hx hb dX6_cleared_86 (lv_at hl 10 rfl) ?_
              refine ni_clt hx hb 96 dX6_cleared_88 (by decide) (by omega) (by omega) (fun c88 => ?_) (fun c88 => ?_)
              · refine lv_aload_n hx hb dX6_cleared_96 rfl (lv_at hl 6 rfl) ?_
                refine lv_iload_n hx hb dX6_cleared_97 rfl (lv_at hl 7 rfl) ?_
                refine lv_iload hx hb dX6_cleared_98 (lv_at hl 1 rfl) ?_
                refine lv_lload hx hb dX6_cleared_100 (lv_at hl 5 rfl) ?_
                refine lv_iconst (v := nI 1) hx hb dX6_cleared_102 (by decide) ?_
                refine lv_iload_n hx hb dX6_cleared_103 rfl (lv_at hl 9 rfl) ?_
                refine rc_Vi (rest := []) C0 FX hH 36 (by decide) f36 rfl (k_X6_run_1 l X ad hi _ nm fa fb mc rd nr ar nb num lay pev pln tr ⟨_, _, _, _, _, _, _, _, _, _, _, _, f36, f37, f38, f39, f40, f41, f42, f43, f44, f45, f46, f47, hrL, hrR, hrS, hlok, hrok, hsok, hpm⟩ rv i (sp_mean (nr rv) (ar rv)) uv (by omega) (by omega) (by omega) (by omega)) (cwV 5 C0.2.2.2.2 gX6_cleared_X6_run rfl rfl rfl (by decide +kernel) ⟨Nat.le_of_ble_eq_true rfl, Nat.le_of_ble_eq_true rfl⟩) rfl rfl hl.1 (Nat.le_of_ble_eq_true rfl) dX6_cleared_104 ⟨Nat.le_of_ble_eq_true rfl, Nat.le_of_ble_eq_true rfl⟩ (fun r104 g104c H locs h104 hH => ?_)
                obtain ⟨e104, rfl⟩ := h104
                rw [e104] at hH
                refine lv_istore (lv' := [(11, .int (nI (run 0 (nr rv) (ar rv) ((sp_mean (nr rv) (ar rv)) * (100 - uv)) i))), (10, .int (nI i)), (9, .int (nI gp)), (8, .int (nI sp)), (7, .int (nI kp)), (5, .long (lN (sp_mean (nr rv) (ar rv)))), (0, .ref (ad 36)), (1, .int (nI rv)), (2, .int (nI tv)), (3, .int (nI uv)), (4, .int (nI lv))]) hx hb dX6_cleared_107 hl (by decide) rfl (fun ls hl => ?_)
                refine lv_iload hx hb dX6_cleared_109 (lv_at hl 0 rfl) ?_
                refine lv_iload hx hb dX6_cleared_111 (lv_at hl 10 rfl) ?_
                refine ni_clt hx hb 129 dX6_cleared_113 (by decide) (by omega) (by omega) (fun c113 => ?_) (fun c113 => ?_)
                · refine lv_iload hx hb dX6_cleared_129 (lv_at hl 3 rfl) ?_
                  refine lv_iload hx hb dX6_cleared_131 (lv_at hl 2 rfl) ?_
                  refine ni_eq0 hx hb 145 dX6_cleared_133 (by decide) (by omega) (fun c133 => ?_) (fun c133 => ?_)
                  · refine lv_iconst (v := nI 0) hx hb dX6_cleared_145 (by decide) ?_
                    refine ni_iadd hx hb dX6_cleared_146 ?_
                    refine lv_istore (lv' := [(8, .int (nI (sp + 0))), (11, .int (nI (run 0 (nr rv) (ar rv) ((sp_mean (nr rv) (ar rv)) * (100 - uv)) i))), (10, .int (nI i)), (9, .int (nI gp)), (7, .int (nI kp)), (5, .long (lN (sp_mean (nr rv) (ar rv)))), (0, .ref (ad 36)), (1, .int (nI rv)), (2, .int (nI tv)), (3, .int (nI uv)), (4, .int (nI lv))]) hx hb dX6_cleared_147 hl (by decide) rfl (fun ls hl => ?_)
                    refine lv_iconst (v := nI 0) hx hb dX6_cleared_149 (by decide) ?_
                    refine lv_istore (lv' := [(9, .int (nI 0)), (8, .int (nI (sp + 0))), (11, .int (nI (run 0 (nr rv) (ar rv) ((sp_mean (nr rv) (ar rv)) * (100 - uv)) i))), (10, .int (nI i)), (7, .int (nI kp)), (5, .long (lN (sp_mean (nr rv) (ar rv)))), (0, .ref (ad 36)), (1, .int (nI rv)), (2, .int (nI tv)), (3, .int (nI uv)), (4, .int (nI lv))]) hx hb dX6_cleared_150 hl (by decide) rfl (fun ls hl => ?_)
                    refine lv_aload_n hx hb dX6_cleared_152 rfl (lv_at hl 6 rfl) ?_
                    refine rp_get C0 FX hH 36 (by decide) (ci := 6) (k := 11) f36 rfl kiX6 (by decide) kf41 rfl dX6_cleared_153 ?_
                    refine lv_iload hx hb dX6_cleared_156 (lv_at hl 4 rfl) ?_
                    refine lv_aload_n hx hb dX6_cleared_158 rfl (lv_at hl 6 rfl) ?_
                    refine rp_get C0 FX hH 36 (by decide) (ci := 6) (k := 10) f36 rfl kiX6 (by decide) kf38 rfl dX6_cleared_159 ?_
                    refine lv_sipush (v := nI 400) hx hb dX6_cleared_162 (by decide) ?_
                    refine lv_iload_n hx hb dX6_cleared_165 rfl (lv_at hl 7 rfl) ?_
                    refine ni_imul hx hb dX6_cleared_166 ?_
                    refine lv_iload hx hb dX6_cleared_167 (lv_at hl 3 rfl) ?_
                    refine ni_iadd hx hb dX6_cleared_169 ?_
                    refine rp_iald C0 FX hH 44 (by decide) (v := ar rv i) f44 ((400 * rv) + i) (by omega) (by decide) (hms rv (by omega) _ (by omega)) dX6_cleared_170 ?_
                    refine rp_iast C0 FX hH 45 (by decide) f45 kp (ar rv i) (by omega) (by decide) dX6_cleared_171 (fun g9 H locs eq10 nq10 hH => ?_)
                    have f45 : g9 45 = arr X 400 (va_up fx kp (ar rv i)) := eq10
                    have f36 : g9 36 = .inr (6, [.int (nI fa), .int (nI fb), .int (nI nm), .ref (ad 37), .ref (ad 38), .ref (ad 39), .ref (ad 40), .ref (ad 41), .ref (ad 42), .ref (ad 43), .ref (ad 44), .ref (ad 45), .int (nI nb), .ref (ad 46), .int (nI lay), .int (nI pm), .ref (ad 47), .int (nI tr)]) := (nq10 _ (by omega)).trans f36
                    have f37 : g9 37 = arr X 6 md := (nq10 _ (by omega)).trans f37
                    have f38 : g9 38 = arr X 6 ma := (nq10 _ (by omega)).trans f38
                    have f39 : g9 39 = arr X 6 mb := (nq10 _ (by omega)).trans f39
                    have f40 : g9 40 = arr X 6 ml := (nq10 _ (by omega)).trans f40
                    have f41 : g9 41 = arr X 6 mr := (nq10 _ (by omega)).trans f41
                    have f42 : g9 42 = arr X 18 mo := (nq10 _ (by omega)).trans f42
                    have f43 : g9 43 = arr X 8 cn := (nq10 _ (by omega)).trans f43
                    have f44 : g9 44 = arr X 3200 ms := (nq10 _ (by omega)).trans f44
                    have f46 : g9 46 = arr X 12 nn := (nq10 _ (by omega)).trans f46
                    have f47 : g9 47 = arr X 12 pl := (nq10 _ (by omega)).trans f47
                    have fr : ∀ j, (j < 36) → g9 j = g j := fun j a0 => (nq10 j (by omega)).trans (fr j a0)
                    refine lv_iinc (v := nI (kp + 1)) (lv' := [(7, .int (nI (kp + 1))), (9, .int (nI 0)), (8, .int (nI (sp + 0))), (11, .int (nI (run 0 (nr rv) (ar rv) ((sp_mean (nr rv) (ar rv)) * (100 - uv)) i))), (10, .int (nI i)), (5, .long (lN (sp_mean (nr rv) (ar rv)))), (0, .ref (ad 36)), (1, .int (nI rv)), (2, .int (nI tv)), (3, .int (nI uv)), (4, .int (nI lv))]) hx hb dX6_cleared_172 hl (k := 4) rfl (ni_inc1 _) (by decide) rfl (fun ls hl => ?_)
                    refine lv_iinc (v := nI (i + 1)) (lv' := [(10, .int (nI (i + 1))), (7, .int (nI (kp + 1))), (9, .int (nI 0)), (8, .int (nI (sp + 0))), (11, .int (nI (run 0 (nr rv) (ar rv) ((sp_mean (nr rv) (ar rv)) * (100 - uv)) i))), (5, .long (lN (sp_mean (nr rv) (ar rv)))), (0, .ref (ad 36)), (1, .int (nI rv)), (2, .int (nI tv)), (3, .int (nI uv)), (4, .int (nI lv))]) hx hb dX6_cleared_175 hl (k := 4) rfl (ni_inc1 _) (by decide) rfl (fun ls hl => ?_)
                    refine lv_goto (tgt := 60) hx hb dX6_cleared_178 (by decide) ?_
                    exact ih60 (kp + 1) (sp + 0) 0 (i + 1) (va_up o kp (ar rv i)) (va_up fx kp (ar rv i)) _ _ _ ls (by omega) (by omega) (by omega) (by omega) (by rw [← i3, cur_step _ _ c68, show clf (nr rv) (ar rv) (sp_mean (nr rv) (ar rv) * (100 + tv)) (sp_mean (nr rv) (ar rv) * (100 - uv)) lv i (kp, sp, gp, o) = (kp + 1, sp + 0, 0, va_up o kp (ar rv i)) from by unfold clf; rw [if_pos (by unfold plc; rw [if_neg (by omega), if_neg (by omega)])]; show (_, sp + (if 0 < gp ∧ 0 < kp then 1 else 0), _, _) = _; rw [if_neg (fun z => by first | (have := z.1; omega) | (have := z.2; omega))], show plc (nr rv) (ar rv) (sp_mean (nr rv) (ar rv) * (100 + tv)) (sp_mean (nr rv) (ar rv) * (100 - uv)) lv i = 0 from by unfold plc; rw [if_neg (by omega), if_neg (by omega)], Nat.max_eq_right (by omega)]) (up_lt j6) (fun j h => by by_cases q : j = kp; rw [q, va_up_self]; exact hra9 i c68; rw [va_up_ne _ _ q]; exact j9 j (by omega)) (by omega) hH f36 f37 f38 f39 f40 f41 f42 f43 f44 f45 f46 f47 fr (lv_sub hl [0, 2, 3, 1, 5, 6, 7, 8, 9, 10] rfl)
                  · refine lv_iload hx hb dX6_cleared_136 (lv_at hl 4 rfl) ?_
                    refine ni_le0 hx hb 145 dX6_cleared_138 (by decide) (by omega) (fun c138 => ?_) (fun c138 => ?_)
                    · refine lv_iconst (v := nI 0) hx hb dX6_cleared_145 (by decide) ?_
                      refine ni_iadd hx hb dX6_cleared_146 ?_
                      refine lv_istore (lv' := [(8, .int (nI (sp + 0))), (11, .int (nI (run 0 (nr rv) (ar rv) ((sp_mean (nr rv) (ar rv)) * (100 - uv)) i))), (10, .int (nI i)), (9, .int (nI gp)), (7, .int (nI kp)), (5, .long (lN (sp_mean (nr rv) (ar rv)))), (0, .ref (ad 36)), (1, .int (nI rv)), (2, .int (nI tv)), (3, .int (nI uv)), (4, .int (nI lv))]) hx hb dX6_cleared_147 hl (by decide) rfl (fun ls hl => ?_)
                      refine lv_iconst (v := nI 0) hx hb dX6_cleared_149 (by decide) ?_
                      refine lv_istore (lv' := [(9, .int (nI 0)), (8, .int (nI (sp + 0))), (11, .int (nI (run 0 (nr rv) (ar rv) ((sp_mean (nr rv) (ar rv)) * (100 - uv)) i))), (10, .int (nI i)), (7, .int (nI kp)), (5, .long (lN (sp_mean (nr rv) (ar rv)))), (0, .ref (ad 36)), (1, .int (nI rv)), (2, .int (nI tv)), (3, .int (nI uv)), (4, .int (nI lv))]) hx hb dX6_cleared_150 hl (by decide) rfl (fun ls hl => ?_)
                      refine lv_aload_n hx hb dX6_cleared_152 rfl (lv_at hl 6 rfl) ?_
                      refine rp_get C0 FX hH 36 (by decide) (ci := 6) (k := 11) f36 rfl kiX6 (by decide) kf41 rfl dX6_cleared_153 ?_
                      refine lv_iload hx hb dX6_cleared_156 (lv_at hl 4 rfl) ?_
                      refine lv_aload_n hx hb dX6_cleared_158 rfl (lv_at hl 6 rfl) ?_
                      refine rp_get C0 FX hH 36 (by decide) (ci := 6) (k := 10) f36 rfl kiX6 (by decide) kf38 rfl dX6_cleared_159 ?_
                      refine lv_sipush (v := nI 400) hx hb dX6_cleared_162 (by decide) ?_
                      refine lv_iload_n hx hb dX6_cleared_165 rfl (lv_at hl 7 rfl) ?_
                      refine ni_imul hx hb dX6_cleared_166 ?_
                      refine lv_iload hx hb dX6_cleared_167 (lv_at hl 3 rfl) ?_
                      refine ni_iadd hx hb dX6_cleared_169 ?_
                      refine rp_iald C0 FX hH 44 (by decide) (v := ar rv i) f44 ((400 * rv) + i) (by omega) (by decide) (hms rv (by omega) _ (by omega)) dX6_cleared_170 ?_
                      refine rp_iast C0 FX hH 45 (by decide) f45 kp (ar rv i) (by omega) (by decide) dX6_cleared_171 (fun g11 H locs eq12 nq12 hH => ?_)
                      have f45 : g11 45 = arr X 400 (va_up fx kp (ar rv i)) := eq12
                      have f36 : g11 36 = .inr (6, [.int (nI fa), .int (nI fb), .int (nI nm), .ref (ad 37), .ref (ad 38), .ref (ad 39), .ref (ad 40), .ref (ad 41), .ref (ad 42), .ref (ad 43), .ref (ad 44), .ref (ad 45), .int (nI nb), .ref (ad 46), .int (nI lay), .int (nI pm), .ref (ad 47), .int (nI tr)]) := (nq12 _ (by omega)).trans f36
                      have f37 : g11 37 = arr X 6 md := (nq12 _ (by omega)).trans f37
                      have f38 : g11 38 = arr X 6 ma := (nq12 _ (by omega)).trans f38
                      have f39 : g11 39 = arr X 6 mb := (nq12 _ (by omega)).trans f39
                      have f40 : g11 40 = arr X 6 ml := (nq12 _ (by omega)).trans f40
                      have f41 : g11 41 = arr X 6 mr := (nq12 _ (by omega)).trans f41
                      have f42 : g11 42 = arr X 18 mo := (nq12 _ (by omega)).trans f42
                      have f43 : g11 43 = arr X 8 cn := (nq12 _ (by omega)).trans f43
                      have f44 : g11 44 = arr X 3200 ms := (nq12 _ (by omega)).trans f44
                      have f46 : g11 46 = arr X 12 nn := (nq12 _ (by omega)).trans f46
                      have f47 : g11 47 = arr X 12 pl := (nq12 _ (by omega)).trans f47
                      have fr : ∀ j, (j < 36) → g11 j = g j := fun j a0 => (nq12 j (by omega)).trans (fr j a0)
                      refine lv_iinc (v := nI (kp + 1)) (lv' := [(7, .int (nI (kp + 1))), (9, .int (nI 0)), (8, .int (nI (sp + 0))), (11, .int (nI (run 0 (nr rv) (ar rv) ((sp_mean (nr rv) (ar rv)) * (100 - uv)) i))), (10, .int (nI i)), (5, .long (lN (sp_mean (nr rv) (ar rv)))), (0, .ref (ad 36)), (1, .int (nI rv)), (2, .int (nI tv)), (3, .int (nI uv)), (4, .int (nI lv))]) hx hb dX6_cleared_172 hl (k := 4) rfl (ni_inc1 _) (by decide) rfl (fun ls hl => ?_)
                      refine lv_iinc (v := nI (i + 1)) (lv' := [(10, .int (nI (i + 1))), (7, .int (nI (kp + 1))), (9, .int (nI 0)), (8, .int (nI (sp + 0))), (11, .int (nI (run 0 (nr rv) (ar rv) ((sp_mean (nr rv) (ar rv)) * (100 - uv)) i))), (5, .long (lN (sp_mean (nr rv) (ar rv)))), (0, .ref (ad 36)), (1, .int (nI rv)), (2, .int (nI tv)), (3, .int (nI uv)), (4, .int (nI lv))]) hx hb dX6_cleared_175 hl (k := 4) rfl (ni_inc1 _) (by decide) rfl (fun ls hl => ?_)
                      refine lv_goto (tgt := 60) hx hb dX6_cleared_178 (by decide) ?_
                      exact ih60 (kp + 1) (sp + 0) 0 (i + 1) (va_up o kp (ar rv i)) (va_up fx kp (ar rv i)) _ _ _ ls (by omega) (by omega) (by omega) (by omega) (by rw [← i3, cur_step _ _ c68, show clf (nr rv) (ar rv) (sp_mean (nr rv) (ar rv) * (100 + tv)) (sp_mean (nr rv) (ar rv) * (100 - uv)) lv i (kp, sp, gp, o) = (kp + 1, sp + 0, 0, va_up o kp (ar rv i)) from by unfold clf; rw [if_pos (by unfold plc; rw [if_neg (by omega), if_neg (by omega)])]; show (_, sp + (if 0 < gp ∧ 0 < kp then 1 else 0), _, _) = _; rw [if_neg (fun z => by first | (have := z.1; omega) | (have := z.2; omega))], show plc (nr rv) (ar rv) (sp_mean (nr rv) (ar rv) * (100 + tv)) (sp_mean (nr rv) (ar rv) * (100 - uv)) lv i = 0 from by unfold plc; rw [if_neg (by omega), if_neg (by omega)], Nat.max_eq_right (by omega)]) (up_lt j6) (fun j h => by by_cases q : j = kp; rw [q, va_up_self]; exact hra9 i c68; rw [va_up_ne _ _ q]; exact j9 j (by omega)) (by omega) hH f36 f37 f38 f39 f40 f41 f42 f43 f44 f45 f46 f47 fr (lv_sub hl [0, 2, 3, 1, 5, 6, 7, 8, 9, 10] rfl)
                    · refine lv_iconst (v := nI 1) hx hb dX6_cleared_141 (by decide) ?_
                      refine lv_goto (tgt := 146) hx hb dX6_cleared_142 (by decide) ?_
                      refine ni_iadd hx hb dX6_cleared_146 ?_
                      refine lv_istore (lv' := [(8, .int (nI (sp + 1))), (11, .int (nI (run 0 (nr rv) (ar rv) ((sp_mean (nr rv) (ar rv)) * (100 - uv)) i))), (10, .int (nI i)), (9, .int (nI gp)), (7, .int (nI kp)), (5, .long (lN (sp_mean (nr rv) (ar rv)))), (0, .ref (ad 36)), (1, .int (nI rv)), (2, .int (nI tv)), (3, .int (nI uv)), (4, .int (nI lv))]) hx hb dX6_cleared_147 hl (by decide) rfl (fun ls hl => ?_)
                      refine lv_iconst (v := nI 0) hx hb dX6_cleared_149 (by decide) ?_
                      refine lv_istore (lv' := [(9, .int (nI 0)), (8, .int (nI (sp + 1))), (11, .int (nI (run 0 (nr rv) (ar rv) ((sp_mean (nr rv) (ar rv)) * (100 - uv)) i))), (10, .int (nI i)), (7, .int (nI kp)), (5, .long (lN (sp_mean (nr rv) (ar rv)))), (0, .ref (ad 36)), (1, .int (nI rv)), (2, .int (nI tv)), (3, .int (nI uv)), (4, .int (nI lv))]) hx hb dX6_cleared_150 hl (by decide) rfl (fun ls hl => ?_)
                      refine lv_aload_n hx hb dX6_cleared_152 rfl (lv_at hl 6 rfl) ?_
                      refine rp_get C0 FX hH 36 (by decide) (ci := 6) (k := 11) f36 rfl kiX6 (by decide) kf41 rfl dX6_cleared_153 ?_
                      refine lv_iload hx hb dX6_cleared_156 (lv_at hl 4 rfl) ?_
                      refine lv_aload_n hx hb dX6_cleared_158 rfl (lv_at hl 6 rfl) ?_
                      refine rp_get C0 FX hH 36 (by decide) (ci := 6) (k := 10) f36 rfl kiX6 (by decide) kf38 rfl dX6_cleared_159 ?_
                      refine lv_sipush (v := nI 400) hx hb dX6_cleared_162 (by decide) ?_
                      refine lv_iload_n hx hb dX6_cleared_165 rfl (lv_at hl 7 rfl) ?_
                      refine ni_imul hx hb dX6_cleared_166 ?_
                      refine lv_iload hx hb dX6_cleared_167 (lv_at hl 3 rfl) ?_
                      refine ni_iadd hx hb dX6_cleared_169 ?_
                      refine rp_iald C0 FX hH 44 (by decide) (v := ar rv i) f44 ((400 * rv) + i) (by omega) (by decide) (hms rv (by omega) _ (by omega)) dX6_cleared_170 ?_
                      refine rp_iast C0 FX hH 45 (by decide) f45 kp (ar rv i) (by omega) (by decide) dX6_cleared_171 (fun g13 H locs eq14 nq14 hH => ?_)
                      have f45 : g13 45 = arr X 400 (va_up fx kp (ar rv i)) := eq14
                      have f36 : g13 36 = .inr (6, [.int (nI fa), .int (nI fb), .int (nI nm), .ref (ad 37), .ref (ad 38), .ref (ad 39), .ref (ad 40), .ref (ad 41), .ref (ad 42), .ref (ad 43), .ref (ad 44), .ref (ad 45), .int (nI nb), .ref (ad 46), .int (nI lay), .int (nI pm), .ref (ad 47), .int (nI tr)]) := (nq14 _ (by omega)).trans f36
                      have f37 : g13 37 = arr X 6 md := (nq14 _ (by omega)).trans f37
                      have f38 : g13 38 = arr X 6 ma := (nq14 _ (by omega)).trans f38
                      have f39 : g13 39 = arr X 6 mb := (nq14 _ (by omega)).trans f39
                      have f40 : g13 40 = arr X 6 ml := (nq14 _ (by omega)).trans f40
                      have f41 : g13 41 = arr X 6 mr := (nq14 _ (by omega)).trans f41
                      have f42 : g13 42 = arr X 18 mo := (nq14 _ (by omega)).trans f42
                      have f43 : g13 43 = arr X 8 cn := (nq14 _ (by omega)).trans f43
                      have f44 : g13 44 = arr X 3200 ms := (nq14 _ (by omega)).trans f44
                      have f46 : g13 46 = arr X 12 nn := (nq14 _ (by omega)).trans f46
                      have f47 : g13 47 = arr X 12 pl := (nq14 _ (by omega)).trans f47
                      have fr : ∀ j, (j < 36) → g13 j = g j := fun j a0 => (nq14 j (by omega)).trans (fr j a0)
                      refine lv_iinc (v := nI (kp + 1)) (lv' := [(7, .int (nI (kp + 1))), (9, .int (nI 0)), (8, .int (nI (sp + 1))), (11, .int (nI (run 0 (nr rv) (ar rv) ((sp_mean (nr rv) (ar rv)) * (100 - uv)) i))), (10, .int (nI i)), (5, .long (lN (sp_mean (nr rv) (ar rv)))), (0, .ref (ad 36)), (1, .int (nI rv)), (2, .int (nI tv)), (3, .int (nI uv)), (4, .int (nI lv))]) hx hb dX6_cleared_172 hl (k := 4) rfl (ni_inc1 _) (by decide) rfl (fun ls hl => ?_)
                      refine lv_iinc (v := nI (i + 1)) (lv' := [(10, .int (nI (i + 1))), (7, .int (nI (kp + 1))), (9, .int (nI 0)), (8, .int (nI (sp + 1))), (11, .int (nI (run 0 (nr rv) (ar rv) ((sp_mean (nr rv) (ar rv)) * (100 - uv)) i))), (5, .long (lN (sp_mean (nr rv) (ar rv)))), (0, .ref (ad 36)), (1, .int (nI rv)), (2, .int (nI tv)), (3, .int (nI uv)), (4, .int (nI lv))]) hx hb dX6_cleared_175 hl (k := 4) rfl (ni_inc1 _) (by decide) rfl (fun ls hl => ?_)
                      refine lv_goto (tgt := 60) hx hb dX6_cleared_178 (by decide) ?_
                      exact ih60 (kp + 1) (sp + 1) 0 (i + 1) (va_up o kp (ar rv i)) (va_up fx kp (ar rv i)) _ _ _ ls (by omega) (by omega) (by omega) (by omega) (by rw [← i3, cur_step _ _ c68, show clf (nr rv) (ar rv) (sp_mean (nr rv) (ar rv) * (100 + tv)) (sp_mean (nr rv) (ar rv) * (100 - uv)) lv i (kp, sp, gp, o) = (kp + 1, sp + 1, 0, va_up o kp (ar rv i)) from by unfold clf; rw [if_pos (by unfold plc; rw [if_neg (by omega), if_neg (by omega)])]; show (_, sp + (if 0 < gp ∧ 0 < kp then 1 else 0), _, _) = _; rw [if_pos ⟨c133, c138⟩], show plc (nr rv) (ar rv) (sp_mean (nr rv) (ar rv) * (100 + tv)) (sp_mean (nr rv) (ar rv) * (100 - uv)) lv i = 0 from by unfold plc; rw [if_neg (by omega), if_neg (by omega)], Nat.max_eq_right (by omega)]) (up_lt j6) (fun j h => by by_cases q : j = kp; rw [q, va_up_self]; exact hra9 i c68; rw [va_up_ne _ _ q]; exact j9 j (by omega)) (by omega) hH f36 f37 f38 f39 f40 f41 f42 f43 f44 f45 f46 f47 fr (lv_sub hl [0, 2, 3, 1, 5, 6, 7, 8, 9, 10] rfl)
                · refine lv_iconst (v := nI 1) hx hb dX6_cleared_116 (by decide) ?_
                  refine lv_istore (lv' := [(9, .int (nI 1)), (11, .int (nI (run 0 (nr rv) (ar rv) ((sp_mean (nr rv) (ar rv)) * (100 - uv)) i))), (10, .int (nI i)), (8, .int (nI sp)), (7, .int (nI kp)), (5, .long (lN (sp_mean (nr rv) (ar rv)))), (0, .ref (ad 36)), (1, .int (nI rv)), (2, .int (nI tv)), (3, .int (nI uv)), (4, .int (nI lv))]) hx hb dX6_cleared_117 hl (by decide) rfl (fun ls hl => ?_)
                  refine lv_iload hx hb dX6_cleared_119 (lv_at hl 2 rfl) ?_
                  refine lv_iload hx hb dX6_cleared_121 (lv_at hl 1 rfl) ?_
                  refine ni_iadd hx hb dX6_cleared_123 ?_
                  refine lv_istore (lv' := [(10, .int (nI (i + (run 0 (nr rv) (ar rv) ((sp_mean (nr rv) (ar rv)) * (100 - uv)) i)))), (9, .int (nI 1)), (11, .int (nI (run 0 (nr rv) (ar rv) ((sp_mean (nr rv) (ar rv)) * (100 - uv)) i))), (8, .int (nI sp)), (7, .int (nI kp)), (5, .long (lN (sp_mean (nr rv) (ar rv)))), (0, .ref (ad 36)), (1, .int (nI rv)), (2, .int (nI tv)), (3, .int (nI uv)), (4, .int (nI lv))]) hx hb dX6_cleared_124 hl (by decide) rfl (fun ls hl => ?_)
                  refine lv_goto (tgt := 178) hx hb dX6_cleared_126 (by decide) ?_
                  refine lv_goto (tgt := 60) hx hb dX6_cleared_178 (by decide) ?_
                  exact ih60 kp sp 1 (i + (run 0 (nr rv) (ar rv) ((sp_mean (nr rv) (ar rv)) * (100 - uv)) i)) o fx _ _ _ ls (by omega) (by omega) (by omega) (by omega) (by rw [← i3, cur_step _ _ c68, show clf (nr rv) (ar rv) (sp_mean (nr rv) (ar rv) * (100 + tv)) (sp_mean (nr rv) (ar rv) * (100 - uv)) lv i (kp, sp, gp, o) = (kp, sp, 1, o) from by unfold clf; rw [if_neg (by rw [show plc (nr rv) (ar rv) (sp_mean (nr rv) (ar rv) * (100 + tv)) (sp_mean (nr rv) (ar rv) * (100 - uv)) lv i = run 0 (nr rv) (ar rv) (sp_mean (nr rv) (ar rv) * (100 - uv)) i from by unfold plc; rw [if_neg (by omega), if_pos c113]]; omega)], show plc (nr rv) (ar rv) (sp_mean (nr rv) (ar rv) * (100 + tv)) (sp_mean (nr rv) (ar rv) * (100 - uv)) lv i = run 0 (nr rv) (ar rv) (sp_mean (nr rv) (ar rv) * (100 - uv)) i from by unfold plc; rw [if_neg (by omega), if_pos c113], Nat.max_eq_left (by omega)]) (j6) (j9) (by omega) hH f36 f37 f38 f39 f40 f41 f42 f43 f44 f45 f46 f47 fr (lv_sub hl [0, 1, 3, 4, 5, 6, 7, 8, 9, 10] rfl)
              · refine lv_iload hx hb dX6_cleared_91 (lv_at hl 0 rfl) ?_
                refine lv_goto (tgt := 107) hx hb dX6_cleared_93 (by decide) ?_
                refine lv_istore (lv' := [(11, .int (nI (run 1 (nr rv) (ar rv) ((sp_mean (nr rv) (ar rv)) * (100 + tv)) i))), (10, .int (nI i)), (9, .int (nI gp)), (8, .int (nI sp)), (7, .int (nI kp)), (5, .long (lN (sp_mean (nr rv) (ar rv)))), (0, .ref (ad 36)), (1, .int (nI rv)), (2, .int (nI tv)), (3, .int (nI uv)), (4, .int (nI lv))]) hx hb dX6_cleared_107 hl (by decide) rfl (fun ls hl => ?_)
                refine lv_iload hx hb dX6_cleared_109 (lv_at hl 0 rfl) ?_
                refine lv_iload hx hb dX6_cleared_111 (lv_at hl 10 rfl) ?_
                refine ni_clt hx hb 129 dX6_cleared_113 (by decide) (by omega) (by omega) (fun c113 => ?_) (fun c113 => ?_)
                · exact absurd c113 (by omega)
                · refine lv_iconst (v := nI 1) hx hb dX6_cleared_116 (by decide) ?_
                  refine lv_istore (lv' := [(9, .int (nI 1)), (11, .int (nI (run 1 (nr rv) (ar rv) ((sp_mean (nr rv) (ar rv)) * (100 + tv)) i))), (10, .int (nI i)), (8, .int (nI sp)), (7, .int (nI kp)), (5, .long (lN (sp_mean (nr rv) (ar rv)))), (0, .ref (ad 36)), (1, .int (nI rv)), (2, .int (nI tv)), (3, .int (nI uv)), (4, .int (nI lv))]) hx hb dX6_cleared_117 hl (by decide) rfl (fun ls hl => ?_)
                  refine lv_iload hx hb dX6_cleared_119 (lv_at hl 2 rfl) ?_
                  refine lv_iload hx hb dX6_cleared_121 (lv_at hl 1 rfl) ?_
                  refine ni_iadd hx hb dX6_cleared_123 ?_
                  refine lv_istore (lv' := [(10, .int (nI (i + (run 1 (nr rv) (ar rv) ((sp_mean (nr rv) (ar rv)) * (100 + tv)) i)))), (9, .int (nI 1)), (11, .int (nI (run 1 (nr rv) (ar rv) ((sp_mean (nr rv) (ar rv)) * (100 + tv)) i))), (8, .int (nI sp)), (7, .int (nI kp)), (5, .long (lN (sp_mean (nr rv) (ar rv)))), (0, .ref (ad 36)), (1, .int (nI rv)), (2, .int (nI tv)), (3, .int (nI uv)), (4, .int (nI lv))]) hx hb dX6_cleared_124 hl (by decide) rfl (fun ls hl => ?_)
                  refine lv_goto (tgt := 178) hx hb dX6_cleared_126 (by decide) ?_
                  refine lv_goto (tgt := 60) hx hb dX6_cleared_178 (by decide) ?_
                  exact ih60 kp sp 1 (i + (run 1 (nr rv) (ar rv) ((sp_mean (nr rv) (ar rv)) * (100 + tv)) i)) o fx _ _ _ ls (by omega) (by omega) (by omega) (by omega) (by rw [← i3, cur_step _ _ c68, show clf (nr rv) (ar rv) (sp_mean (nr rv) (ar rv) * (100 + tv)) (sp_mean (nr rv) (ar rv) * (100 - uv)) lv i (kp, sp, gp, o) = (kp, sp, 1, o) from by unfold clf; rw [if_neg (by rw [show plc (nr rv) (ar rv) (sp_mean (nr rv) (ar rv) * (100 + tv)) (sp_mean (nr rv) (ar rv) * (100 - uv)) lv i = run 1 (nr rv) (ar rv) (sp_mean (nr rv) (ar rv) * (100 + tv)) i from by unfold plc; rw [if_pos c88]]; omega)], show plc (nr rv) (ar rv) (sp_mean (nr rv) (ar rv) * (100 + tv)) (sp_mean (nr rv) (ar rv) * (100 - uv)) lv i = run 1 (nr rv) (ar rv) (sp_mean (nr rv) (ar rv) * (100 + tv)) i from by unfold plc; rw [if_pos c88], Nat.max_eq_left (by omega)]) (j6) (j9) (by omega) hH f36 f37 f38 f39 f40 f41 f42 f43 f44 f45 f46 f47 fr (lv_sub hl [0, 1, 3, 4, 5, 6, 7, 8, 9, 10] rfl)
        exact L60 ((nr rv - 0) + 1) 0 0 0 0 (fun _ => 0) fs _ _ _ ls (by omega) (by omega) (by omega) (by omega) (by rfl) (fun j h => absurd h (Nat.not_lt_zero _)) (fun j h => absurd h (Nat.not_lt_zero _)) (Nat.lt_succ_self _) hH f36 f37 f38 f39 f40 f41 f42 f43 f44 f45 f46 f47 fr (lv_sub hl [0, 1, 2, 3, 4, 5, 6, 7, 8, 9] rfl)
    · refine lv_bipush (v := (-2)) hx hb dX6_cleared_17 (by decide) ?_
      refine RET _ _ _ _ _ _ dX6_cleared_19 rfl ?_ hH
      exact mod_same rv2 (by unfold sp_cleared; rw [if_neg (by assumption)]) ⟨_, _, _, _, _, _, _, _, _, _, _, _, f36, f37, f38, f39, f40, f41, f42, f43, f44, f45, f46, f47, hrL, hrR, hrS, hlok, hrok, hsok, hpm⟩ fr
