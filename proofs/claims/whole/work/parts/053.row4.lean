set_option maxHeartbeats 4000000 in
set_option maxRecDepth 100000 in
theorem k_X3_countPlaces (l : Launch) (X : Cx) (ad : Nat → Nat) (hi : inj 48 ad) (g : PF) (k : Nat) (hk : k + 1 < 48) (n : Nat) (a : Nat → Nat) (hR : rRow X ad k n a g) (th tn lq so : Int32) : Ki l yX3_countPlaces wsX3_countPlaces zr3 X 48 ad g [.ref (ad k), .int th, .int tn, .int lq, .int so] (fun r g' => g' = g ∧ r = sp_places th tn lq so n a) := by
  refine Ki.of (cc := cX3_countPlaces) (maxL := 11) hi (by decide) rfl (Nat.le_of_ble_eq_true rfl) ?_
  intro p e s m below meth c Q E RET ls hl
  obtain ⟨C0, FX, hH⟩ := E
  have hx := C0.1
  have hb := C0.2.1
  have kiX3 : ∀ w ∈ u_ws RX3 TX3 2, w ∈ wsX3_countPlaces := (by decide +kernel)
  have kf21 : Cond.fieldLink RX3 21 "YarnMill$Row" "size" "I" ∈ wsX3_countPlaces := (by decide +kernel)
  have hl : lv_has ls 11 [(0, .ref (ad k)), (1, .int th), (2, .int tn), (3, .int lq), (4, .int so)] := hl
  obtain ⟨x, fk, fc, hxa, hn, hab⟩ := hR
  refine lv_iload_n hx hb dX3_countPlaces_0 rfl (lv_at hl 1 rfl) ?_
  refine lv_iload_n hx hb dX3_countPlaces_1 rfl (lv_at hl 2 rfl) ?_
  refine lv_iload_n hx hb dX3_countPlaces_2 rfl (lv_at hl 3 rfl) ?_
  refine rc_Si (rest := []) C0 FX hH (k_X3_isLaw l X ad hi _ th tn lq) (va_cwS 3 C0.2.2.2.2 gX3_countPlaces_X3_isLaw rfl rfl rfl (by decide +kernel) ⟨Nat.le_of_ble_eq_true rfl, Nat.le_of_ble_eq_true rfl⟩) rfl rfl hl.1 (Nat.le_of_ble_eq_true rfl) dX3_countPlaces_3 ⟨Nat.le_of_ble_eq_true rfl, Nat.le_of_ble_eq_true rfl⟩ (fun r3 g3c H locs h3 hH => ?_)
  obtain ⟨e3, rfl⟩ := h3
  rw [e3] at hH
  refine rb_eq hx hb 20 dX3_countPlaces_6 (by decide) (fun c6 => ?_) (fun c6 => ?_)
  · refine lv_bipush (v := (-2)) hx hb dX3_countPlaces_20 (by decide) ?_
    refine RET _ _ _ _ _ _ dX3_countPlaces_22 rfl ?_ hH
    exact ⟨rfl, by unfold sp_places; rw [if_neg (fun z => by first | exact absurd z.1 (by assumption) | exact absurd z.2 (by assumption))]⟩
  · obtain ⟨tv, rfl, tv1, tv2, tv3⟩ := rng_nI c6.1
    obtain ⟨uv, rfl, uv1, uv2, uv3⟩ := rng_nI c6.2.1
    obtain ⟨lv, rfl, lv1, lv2, lv3⟩ := rng_nI c6.2.2
    refine lv_iload hx hb dX3_countPlaces_9 (lv_at hl 4 rfl) ?_
    refine lv_i2l hx hb dX3_countPlaces_11 rfl ?_
    refine lv_lconst (v := lN 0) hx hb dX3_countPlaces_12 (by decide) ?_
    refine lv_lconst (v := lN 1) hx hb dX3_countPlaces_13 (by decide) ?_
    refine rc_Ni (rest := []) C0 FX hH (k_X5_within_rng l X ad hi _ so 0 1 (by omega) (by omega)) ⟨va_cnB 3 C0.2.2.2.2 gX3_countPlaces_X5_within_n17 rfl rfl rfl (FX.1.2 (RX3, 17, yX5_within) (by decide +kernel)) (C0.2.2.2.2 (.initialized RX5) (by decide +kernel)) (by decide +kernel) ⟨Nat.le_of_ble_eq_true rfl, Nat.le_of_ble_eq_true rfl⟩, C0.2.2.2.2 (.static yX5_within) (by decide +kernel), trivial⟩ rfl rfl hl.1 (Nat.le_of_ble_eq_true rfl) dX3_countPlaces_14 ⟨Nat.le_of_ble_eq_true rfl, Nat.le_of_ble_eq_true rfl⟩ (fun r14 g14c H locs h14 hH => ?_)
    obtain ⟨e14, rfl⟩ := h14
    rw [e14] at hH
    refine rb_ne hx hb 23 dX3_countPlaces_17 (by decide) (fun c17 => ?_) (fun c17 => ?_)
    · obtain ⟨sv, rfl, sv1, sv2, sv3⟩ := rng_nI c17
      refine lv_iload hx hb dX3_countPlaces_23 (lv_at hl 4 rfl) ?_
      refine ni_ne0 hx hb 32 dX3_countPlaces_25 (by decide) (by omega) (fun c25 => ?_) (fun c25 => ?_)
      · refine lv_iconst (v := nI 0) hx hb dX3_countPlaces_32 (by decide) ?_
        refine lv_istore (lv' := [(5, .int (nI 0)), (0, .ref (ad k)), (1, .int (nI tv)), (2, .int (nI uv)), (3, .int (nI lv)), (4, .int (nI sv))]) hx hb dX3_countPlaces_33 hl (by decide) rfl (fun ls hl => ?_)
        refine lv_aload_n hx hb dX3_countPlaces_35 rfl (lv_at hl 1 rfl) ?_
        refine rc_Vl (rest := []) C0 FX hH k (by omega) fk rfl (k_X3_mean l X ad hi _ k hk n a ⟨x, fk, fc, hxa, hn, hab⟩ ) (cwV 0 C0.2.2.2.2 gX3_countPlaces_X3_mean rfl rfl rfl (by decide +kernel) ⟨Nat.le_of_ble_eq_true rfl, Nat.le_of_ble_eq_true rfl⟩) rfl rfl hl.1 (Nat.le_of_ble_eq_true rfl) dX3_countPlaces_36 ⟨Nat.le_of_ble_eq_true rfl, Nat.le_of_ble_eq_true rfl⟩ (fun r36 g36c H locs h36 hH => ?_)
        obtain ⟨e36, rfl⟩ := h36
        rw [e36] at hH
        refine lv_iload hx hb dX3_countPlaces_39 (lv_at hl 0 rfl) ?_
        refine lv_if_eq (tgt := 51) hx hb dX3_countPlaces_41 (by decide) (fun c41 => ?_) (fun c41 => absurd (by decide) c41)
        refine lv_bipush (v := nI 100) hx hb dX3_countPlaces_51 (by decide) ?_
        refine lv_iload_n hx hb dX3_countPlaces_53 rfl (lv_at hl 3 rfl) ?_
        refine ni_isub hx hb (by omega) dX3_countPlaces_54 ?_
        refine ni_i2l hx hb (by omega) dX3_countPlaces_55 ?_
        refine ni_lmul hx hb dX3_countPlaces_56 ?_
        refine lv_lstore (lv' := [(6, .long (lN ((sp_mean n a) * (100 - uv)))), (5, .int (nI 0)), (0, .ref (ad k)), (1, .int (nI tv)), (2, .int (nI uv)), (3, .int (nI lv)), (4, .int (nI sv))]) hx hb dX3_countPlaces_57 hl (by decide) rfl (fun ls hl => ?_)
        have hB9 := mean_up (t := 100 - uv) hn hab (by omega)
        refine lv_iconst (v := nI 0) hx hb dX3_countPlaces_59 (by decide) ?_
        refine lv_istore (lv' := [(8, .int (nI 0)), (6, .long (lN ((sp_mean n a) * (100 - uv)))), (5, .int (nI 0)), (0, .ref (ad k)), (1, .int (nI tv)), (2, .int (nI uv)), (3, .int (nI lv)), (4, .int (nI sv))]) hx hb dX3_countPlaces_60 hl (by decide) rfl (fun ls hl => ?_)
        refine lv_iconst (v := nI 0) hx hb dX3_countPlaces_62 (by decide) ?_
        refine lv_istore (lv' := [(10, .int (nI 0)), (8, .int (nI 0)), (6, .long (lN ((sp_mean n a) * (100 - uv)))), (5, .int (nI 0)), (0, .ref (ad k)), (1, .int (nI tv)), (2, .int (nI uv)), (3, .int (nI lv)), (4, .int (nI sv))]) hx hb dX3_countPlaces_63 hl (by decide) rfl (fun ls hl => ?_)
        have L65 : ∀ (fu : Nat) (F : Nat) (i : Nat) (H : Heap) (locs : List Loc) (ls : Array Slot), (i ≤ n) → (cur (run 0 n a (sp_mean n a * (100 - uv))) (cpf (run 0 n a (sp_mean n a * (100 - uv))) lv) n (n - i) i F = cur (run 0 n a (sp_mean n a * (100 - uv))) (cpf (run 0 n a (sp_mean n a * (100 - uv))) lv) n n 0 0) → (F ≤ i) → n - i < fu → WH X 48 ad (pA 48 ad s.heap.size) s g H locs → lv_has ls 11 [(10, .int (nI i)), (8, .int (nI F)), (6, .long (lN ((sp_mean n a) * (100 - uv)))), (5, .int (nI 0)), (0, .ref (ad k)), (1, .int (nI tv)), (2, .int (nI uv)), (3, .int (nI lv)), (4, .int (nI sv))] → W p l e zr3 s m ([.ref (ad k), .int (nI tv), .int (nI uv), .int (nI lv), .int (nI sv)] : List Value).toArray below meth c H locs 0 0 Q (F0 m 65 ls []) := by
          intro fu
          induction fu with
          | zero =>
            intro F i H locs ls i2 i3 i4 hm
            exact absurd hm (Nat.not_lt_zero _)
          | succ fu ih =>
            have ih65 := ih; clear ih
            intro F i H locs ls i2 i3 i4 hm65 hH hl
            have hrl := run_le 0 n a (sp_mean n a * (100 - uv)) i
            refine lv_iload hx hb dX3_countPlaces_65 (lv_at hl 0 rfl) ?_
            refine lv_aload_n hx hb dX3_countPlaces_67 rfl (lv_at hl 4 rfl) ?_
            refine rp_get C0 FX hH k (by omega) (ci := 3) (k := 0) fk rfl kiX3 (by decide) kf21 rfl dX3_countPlaces_68 ?_
            refine ni_cge hx hb 109 dX3_countPlaces_71 (by decide) (by omega) (by omega) (fun c71 => ?_) (fun c71 => ?_)
            · refine lv_iload hx hb dX3_countPlaces_109 (lv_at hl 1 rfl) ?_
              refine RET _ _ _ _ _ _ dX3_countPlaces_111 rfl ?_ hH
              refine ⟨rfl, ?_⟩
              unfold sp_places
              rw [if_pos ⟨c6, (rng_iff (by omega)).mpr (by omega)⟩, if_neg (fun z => by have := (nI_eq (by omega) (show 0 < 2 ^ 31 by omega)).mp z; omega), tN_nI (by omega), tN_nI (by omega), ← i3, cur_no _ _ (by omega)]
            · refine lv_aload_n hx hb dX3_countPlaces_74 rfl (lv_at hl 4 rfl) ?_
              refine lv_iload hx hb dX3_countPlaces_75 (lv_at hl 0 rfl) ?_
              refine lv_lload hx hb dX3_countPlaces_77 (lv_at hl 2 rfl) ?_
              refine lv_iload hx hb dX3_countPlaces_79 (lv_at hl 3 rfl) ?_
              refine rc_Vi (rest := []) C0 FX hH k (by omega) fk rfl (k_X3_runFrom l X ad hi _ k hk n a ⟨x, fk, fc, hxa, hn, hab⟩ i ((sp_mean n a) * (100 - uv)) 0 (by omega) (by omega) (by omega)) (cwV 3 C0.2.2.2.2 gX3_countPlaces_X3_runFrom rfl rfl rfl (by decide +kernel) ⟨Nat.le_of_ble_eq_true rfl, Nat.le_of_ble_eq_true rfl⟩) rfl rfl hl.1 (Nat.le_of_ble_eq_true rfl) dX3_countPlaces_81 ⟨Nat.le_of_ble_eq_true rfl, Nat.le_of_ble_eq_true rfl⟩ (fun r81 g81c H locs h81 hH => ?_)
              obtain ⟨e81, rfl⟩ := h81
              rw [e81] at hH
              refine lv_istore (lv' := [(9, .int (nI (run 0 n a ((sp_mean n a) * (100 - uv)) i))), (10, .int (nI i)), (8, .int (nI F)), (6, .long (lN ((sp_mean n a) * (100 - uv)))), (5, .int (nI 0)), (0, .ref (ad k)), (1, .int (nI tv)), (2, .int (nI uv)), (3, .int (nI lv)), (4, .int (nI sv))]) hx hb dX3_countPlaces_84 hl (by decide) rfl (fun ls hl => ?_)
              refine lv_iload hx hb dX3_countPlaces_86 (lv_at hl 0 rfl) ?_
              refine lv_iload_n hx hb dX3_countPlaces_88 rfl (lv_at hl 8 rfl) ?_
              refine ni_clt hx hb 95 dX3_countPlaces_89 (by decide) (by omega) (by omega) (fun c89 => ?_) (fun c89 => ?_)
              · refine lv_iload hx hb dX3_countPlaces_95 (lv_at hl 1 rfl) ?_
                refine lv_iload hx hb dX3_countPlaces_97 (lv_at hl 0 rfl) ?_
                refine lv_iconst (v := nI 1) hx hb dX3_countPlaces_99 (by decide) ?_
                refine va_mmax hx hb (by rw [C0.2.2.1]; exact hl.1.symm) C0.2.2.2.1 (C0.2.2.2.2 (.methodLink RX3 77 Lib.Math.max.name) (by decide +kernel)) (C0.2.2.2.2 (.static Lib.Math.max.name) (by decide +kernel)) (C0.2.2.2.2 (.initialized "java/lang/Math") (by decide +kernel)) (C0.2.2.2.2 (.code Lib.Math.max.name Lib.Math.max.code 2 (some .int)) (by decide +kernel)) (Nat.le_of_ble_eq_true rfl) (Nat.le_of_ble_eq_true rfl) (Nat.le_of_ble_eq_true rfl) (Nat.le_of_ble_eq_true rfl) dX3_countPlaces_100 ?_
                rw [ni_max (by omega) (by omega)]
                refine ni_iadd hx hb dX3_countPlaces_103 ?_
                refine lv_istore (lv' := [(10, .int (nI (i + (max (run 0 n a ((sp_mean n a) * (100 - uv)) i) 1)))), (9, .int (nI (run 0 n a ((sp_mean n a) * (100 - uv)) i))), (8, .int (nI F)), (6, .long (lN ((sp_mean n a) * (100 - uv)))), (5, .int (nI 0)), (0, .ref (ad k)), (1, .int (nI tv)), (2, .int (nI uv)), (3, .int (nI lv)), (4, .int (nI sv))]) hx hb dX3_countPlaces_104 hl (by decide) rfl (fun ls hl => ?_)
                refine lv_goto (tgt := 65) hx hb dX3_countPlaces_106 (by decide) ?_
                exact ih65 F (i + (max (run 0 n a ((sp_mean n a) * (100 - uv)) i) 1)) _ _ ls (by omega) (by rw [← i3, cur_step _ _ c71, show cpf (run 0 n a (sp_mean n a * (100 - uv))) lv i F = F from if_neg (by omega)]) (by omega) (by omega) hH (lv_sub hl [0, 2, 3, 4, 5, 6, 7, 8, 9] rfl)
              · refine lv_iinc (v := nI (F + 1)) (lv' := [(8, .int (nI (F + 1))), (9, .int (nI (run 0 n a ((sp_mean n a) * (100 - uv)) i))), (10, .int (nI i)), (6, .long (lN ((sp_mean n a) * (100 - uv)))), (5, .int (nI 0)), (0, .ref (ad k)), (1, .int (nI tv)), (2, .int (nI uv)), (3, .int (nI lv)), (4, .int (nI sv))]) hx hb dX3_countPlaces_92 hl (k := 2) rfl (ni_inc1 _) (by decide) rfl (fun ls hl => ?_)
                refine lv_iload hx hb dX3_countPlaces_95 (lv_at hl 2 rfl) ?_
                refine lv_iload hx hb dX3_countPlaces_97 (lv_at hl 1 rfl) ?_
                refine lv_iconst (v := nI 1) hx hb dX3_countPlaces_99 (by decide) ?_
                refine va_mmax hx hb (by rw [C0.2.2.1]; exact hl.1.symm) C0.2.2.2.1 (C0.2.2.2.2 (.methodLink RX3 77 Lib.Math.max.name) (by decide +kernel)) (C0.2.2.2.2 (.static Lib.Math.max.name) (by decide +kernel)) (C0.2.2.2.2 (.initialized "java/lang/Math") (by decide +kernel)) (C0.2.2.2.2 (.code Lib.Math.max.name Lib.Math.max.code 2 (some .int)) (by decide +kernel)) (Nat.le_of_ble_eq_true rfl) (Nat.le_of_ble_eq_true rfl) (Nat.le_of_ble_eq_true rfl) (Nat.le_of_ble_eq_true rfl) dX3_countPlaces_100 ?_
                rw [ni_max (by omega) (by omega)]
                refine ni_iadd hx hb dX3_countPlaces_103 ?_
                refine lv_istore (lv' := [(10, .int (nI (i + (max (run 0 n a ((sp_mean n a) * (100 - uv)) i) 1)))), (8, .int (nI (F + 1))), (9, .int (nI (run 0 n a ((sp_mean n a) * (100 - uv)) i))), (6, .long (lN ((sp_mean n a) * (100 - uv)))), (5, .int (nI 0)), (0, .ref (ad k)), (1, .int (nI tv)), (2, .int (nI uv)), (3, .int (nI lv)), (4, .int (nI sv))]) hx hb dX3_countPlaces_104 hl (by decide) rfl (fun ls hl => ?_)
                refine lv_goto (tgt := 65) hx hb dX3_countPlaces_106 (by decide) ?_
                exact ih65 (F + 1) (i + (max (run 0 n a ((sp_mean n a) * (100 - uv)) i) 1)) _ _ ls (by omega) (by rw [← i3, cur_step _ _ c71, show cpf (run 0 n a (sp_mean n a * (100 - uv))) lv i F = F + 1 from if_pos c89]) (by omega) (by omega) hH (lv_sub hl [0, 1, 3, 4, 5, 6, 7, 8, 9] rfl)
        exact L65 ((n - 0) + 1) 0 0 _ _ ls (by omega) (by rfl) (by omega) (Nat.lt_succ_self _) hH (lv_sub hl [0, 1, 2, 3, 4, 5, 6, 7, 8] rfl)
      · refine lv_iconst (v := nI 1) hx hb dX3_countPlaces_28 (by decide) ?_
        refine lv_goto (tgt := 33) hx hb dX3_countPlaces_29 (by decide) ?_
        refine lv_istore (lv' := [(5, .int (nI 1)), (0, .ref (ad k)), (1, .int (nI tv)), (2, .int (nI uv)), (3, .int (nI lv)), (4, .int (nI sv))]) hx hb dX3_countPlaces_33 hl (by decide) rfl (fun ls hl => ?_)
        refine lv_aload_n hx hb dX3_countPlaces_35 rfl (lv_at hl 1 rfl) ?_
        refine rc_Vl (rest := []) C0 FX hH k (by omega) fk rfl (k_X3_mean l X ad hi _ k hk n a ⟨x, fk, fc, hxa, hn, hab⟩ ) (cwV 0 C0.2.2.2.2 gX3_countPlaces_X3_mean rfl rfl rfl (by decide +kernel) ⟨Nat.le_of_ble_eq_true rfl, Nat.le_of_ble_eq_true rfl⟩) rfl rfl hl.1 (Nat.le_of_ble_eq_true rfl) dX3_countPlaces_36 ⟨Nat.le_of_ble_eq_true rfl, Nat.le_of_ble_eq_true rfl⟩ (fun r36 g36c H locs h36 hH => ?_)
        obtain ⟨e36, rfl⟩ := h36
        rw [e36] at hH
        refine lv_iload hx hb dX3_countPlaces_39 (lv_at hl 0 rfl) ?_
        refine lv_if_eq (tgt := 51) hx hb dX3_countPlaces_41 (by decide) (fun c41 => absurd c41 (by decide)) (fun c41 => ?_)
        refine lv_bipush (v := nI 100) hx hb dX3_countPlaces_44 (by decide) ?_
        refine lv_iload_n hx hb dX3_countPlaces_46 rfl (lv_at hl 2 rfl) ?_
        refine ni_iadd hx hb dX3_countPlaces_47 ?_
        refine lv_goto (tgt := 55) hx hb dX3_countPlaces_48 (by decide) ?_
        refine ni_i2l hx hb (by omega) dX3_countPlaces_55 ?_
        refine ni_lmul hx hb dX3_countPlaces_56 ?_
        refine lv_lstore (lv' := [(6, .long (lN ((sp_mean n a) * (100 + tv)))), (5, .int (nI 1)), (0, .ref (ad k)), (1, .int (nI tv)), (2, .int (nI uv)), (3, .int (nI lv)), (4, .int (nI sv))]) hx hb dX3_countPlaces_57 hl (by decide) rfl (fun ls hl => ?_)
        have hB9 := mean_up (t := 100 + tv) hn hab (by omega)
        refine lv_iconst (v := nI 0) hx hb dX3_countPlaces_59 (by decide) ?_
        refine lv_istore (lv' := [(8, .int (nI 0)), (6, .long (lN ((sp_mean n a) * (100 + tv)))), (5, .int (nI 1)), (0, .ref (ad k)), (1, .int (nI tv)), (2, .int (nI uv)), (3, .int (nI lv)), (4, .int (nI sv))]) hx hb dX3_countPlaces_60 hl (by decide) rfl (fun ls hl => ?_)
        refine lv_iconst (v := nI 0) hx hb dX3_countPlaces_62 (by decide) ?_
        refine lv_istore (lv' := [(10, .int (nI 0)), (8, .int (nI 0)), (6, .long (lN ((sp_mean n a) * (100 + tv)))), (5, .int (nI 1)), (0, .ref (ad k)), (1, .int (nI tv)), (2, .int (nI uv)), (3, .int (nI lv)), (4, .int (nI sv))]) hx hb dX3_countPlaces_63 hl (by decide) rfl (fun ls hl => ?_)
        have L65 : ∀ (fu : Nat) (F : Nat) (i : Nat) (H : Heap) (locs : List Loc) (ls : Array Slot), (i ≤ n) → (cur (run 1 n a (sp_mean n a * (100 + tv))) (cpf (run 1 n a (sp_mean n a * (100 + tv))) lv) n (n - i) i F = cur (run 1 n a (sp_mean n a * (100 + tv))) (cpf (run 1 n a (sp_mean n a * (100 + tv))) lv) n n 0 0) → (F ≤ i) → n - i < fu → WH X 48 ad (pA 48 ad s.heap.size) s g H locs → lv_has ls 11 [(10, .int (nI i)), (8, .int (nI F)), (6, .long (lN ((sp_mean n a) * (100 + tv)))), (5, .int (nI 1)), (0, .ref (ad k)), (1, .int (nI tv)), (2, .int (nI uv)), (3, .int (nI lv)), (4, .int (nI sv))] → W p l e zr3 s m ([.ref (ad k), .int (nI tv), .int (nI uv), .int (nI lv), .int (nI sv)] : List Value).toArray below meth c H locs 0 0 Q (F0 m 65 ls []) := by
          intro fu
          induction fu with
          | zero =>
            intro F i H locs ls i2 i3 i4 hm
            exact absurd hm (Nat.not_lt_zero _)
          | succ fu ih =>
            have ih65 := ih; clear ih
            intro F i H locs ls i2 i3 i4 hm65 hH hl
            have hrl := run_le 1 n a (sp_mean n a * (100 + tv)) i
            refine lv_iload hx hb dX3_countPlaces_65 (lv_at hl 0 rfl) ?_
            refine lv_aload_n hx hb dX3_countPlaces_67 rfl (lv_at hl 4 rfl) ?_
            refine rp_get C0 FX hH k (by omega) (ci := 3) (k := 0) fk rfl kiX3 (by decide) kf21 rfl dX3_countPlaces_68 ?_
            refine ni_cge hx hb 109 dX3_countPlaces_71 (by decide) (by omega) (by omega) (fun c71 => ?_) (fun c71 => ?_)
            · refine lv_iload hx hb dX3_countPlaces_109 (lv_at hl 1 rfl) ?_
              refine RET _ _ _ _ _ _ dX3_countPlaces_111 rfl ?_ hH
              refine ⟨rfl, ?_⟩
              unfold sp_places
              rw [if_pos ⟨c6, (rng_iff (by omega)).mpr (by omega)⟩, if_pos (by rw [c25]), tN_nI (by omega), tN_nI (by omega), ← i3, cur_no _ _ (by omega)]
            · refine lv_aload_n hx hb dX3_countPlaces_74 rfl (lv_at hl 4 rfl) ?_
              refine lv_iload hx hb dX3_countPlaces_75 (lv_at hl 0 rfl) ?_
              refine lv_lload hx hb dX3_countPlaces_77 (lv_at hl 2 rfl) ?_
              refine lv_iload hx hb dX3_countPlaces_79 (lv_at hl 3 rfl) ?_
              refine rc_Vi (rest := []) C0 FX hH k (by omega) fk rfl (k_X3_runFrom l X ad hi _ k hk n a ⟨x, fk, fc, hxa, hn, hab⟩ i ((sp_mean n a) * (100 + tv)) 1 (by omega) (by omega) (by omega)) (cwV 3 C0.2.2.2.2 gX3_countPlaces_X3_runFrom rfl rfl rfl (by decide +kernel) ⟨Nat.le_of_ble_eq_true rfl, Nat.le_of_ble_eq_true rfl⟩) rfl rfl hl.1 (Nat.le_of_ble_eq_true rfl) dX3_countPlaces_81 ⟨Nat.le_of_ble_eq_true rfl, Nat.le_of_ble_eq_true rfl⟩ (fun r81 g81c H locs h81 hH => ?_)
              obtain ⟨e81, rfl⟩ := h81
              rw [e81] at hH
              refine lv_istore (lv' := [(9, .int (nI (run 1 n a ((sp_mean n a) * (100 + tv)) i))), (10, .int (nI i)), (8, .int (nI F)), (6, .long (lN ((sp_mean n a) * (100 + tv)))), (5, .int (nI 1)), (0, .ref (ad k)), (1, .int (nI tv)), (2, .int (nI uv)), (3, .int (nI lv)), (4, .int (nI sv))]) hx hb dX3_countPlaces_84 hl (by decide) rfl (fun ls hl => ?_)
              refine lv_iload hx hb dX3_countPlaces_86 (lv_at hl 0 rfl) ?_
              refine lv_iload_n hx hb dX3_countPlaces_88 rfl (lv_at hl 8 rfl) ?_
              refine ni_clt hx hb 95 dX3_countPlaces_89 (by decide) (by omega) (by omega) (fun c89 => ?_) (fun c89 => ?_)
              · refine lv_iload hx hb dX3_countPlaces_95 (lv_at hl 1 rfl) ?_
                refine lv_iload hx hb dX3_countPlaces_97 (lv_at hl 0 rfl) ?_
                refine lv_iconst (v := nI 1) hx hb dX3_countPlaces_99 (by decide) ?_
                refine va_mmax hx hb (by rw [C0.2.2.1]; exact hl.1.symm) C0.2.2.2.1 (C0.2.2.2.2 (.methodLink RX3 77 Lib.Math.max.name) (by decide +kernel)) (C0.2.2.2.2 (.static Lib.Math.max.name) (by decide +kernel)) (C0.2.2.2.2 (.initialized "java/lang/Math") (by decide +kernel)) (C0.2.2.2.2 (.code Lib.Math.max.name Lib.Math.max.code 2 (some .int)) (by decide +kernel)) (Nat.le_of_ble_eq_true rfl) (Nat.le_of_ble_eq_true rfl) (Nat.le_of_ble_eq_true rfl) (Nat.le_of_ble_eq_true rfl) dX3_countPlaces_100 ?_
                rw [ni_max (by omega) (by omega)]
                refine ni_iadd hx hb dX3_countPlaces_103 ?_
                refine lv_istore (lv' := [(10, .int (nI (i + (max (run 1 n a ((sp_mean n a) * (100 + tv)) i) 1)))), (9, .int (nI (run 1 n a ((sp_mean n a) * (100 + tv)) i))), (8, .int (nI F)), (6, .long (lN ((sp_mean n a) * (100 + tv)))), (5, .int (nI 1)), (0, .ref (ad k)), (1, .int (nI tv)), (2, .int (nI uv)), (3, .int (nI lv)), (4, .int (nI sv))]) hx hb dX3_countPlaces_104 hl (by decide) rfl (fun ls hl => ?_)
                refine lv_goto (tgt := 65) hx hb dX3_countPlaces_106 (by decide) ?_
                exact ih65 F (i + (max (run 1 n a ((sp_mean n a) * (100 + tv)) i) 1)) _ _ ls (by omega) (by rw [← i3, cur_step _ _ c71, show cpf (run 1 n a (sp_mean n a * (100 + tv))) lv i F = F from if_neg (by omega)]) (by omega) (by omega) hH (lv_sub hl [0, 2, 3, 4, 5, 6, 7, 8, 9] rfl)
              · refine lv_iinc (v := nI (F + 1)) (lv' := [(8, .int (nI (F + 1))), (9, .int (nI (run 1 n a ((sp_mean n a) * (100 + tv)) i))), (10, .int (nI i)), (6, .long (lN ((sp_mean n a) * (100 + tv)))), (5, .int (nI 1)), (0, .ref (ad k)), (1, .int (nI tv)), (2, .int (nI uv)), (3, .int (nI lv)), (4, .int (nI sv))]) hx hb dX3_countPlaces_92 hl (k := 2) rfl (ni_inc1 _) (by decide) rfl (fun ls hl => ?_)
                refine lv_iload hx hb dX3_countPlaces_95 (lv_at hl 2 rfl) ?_
                refine lv_iload hx hb dX3_countPlaces_97 (lv_at hl 1 rfl) ?_
                refine lv_iconst (v := nI 1) hx hb dX3_countPlaces_99 (by decide) ?_
                refine va_mmax hx hb (by rw [C0.2.2.1]; exact hl.1.symm) C0.2.2.2.1 (C0.2.2.2.2 (.methodLink RX3 77 Lib.Math.max.name) (by decide +kernel)) (C0.2.2.2.2 (.static Lib.Math.max.name) (by decide +kernel)) (C0.2.2.2.2 (.initialized "java/lang/Math") (by decide +kernel)) (C0.2.2.2.2 (.code Lib.Math.max.name Lib.Math.max.code 2 (some .int)) (by decide +kernel)) (Nat.le_of_ble_eq_true rfl) (Nat.le_of_ble_eq_true rfl) (Nat.le_of_ble_eq_true rfl) (Nat.le_of_ble_eq_true rfl) dX3_countPlaces_100 ?_
                rw [ni_max (by omega) (by omega)]
                refine ni_iadd hx hb dX3_countPlaces_103 ?_
                refine lv_istore (lv' := [(10, .int (nI (i + (max (run 1 n a ((sp_mean n a) * (100 + tv)) i) 1)))), (8, .int (nI (F + 1))), (9, .int (nI (run 1 n a ((sp_mean n a) * (100 + tv)) i))), (6, .long (lN ((sp_mean n a) * (100 + tv)))), (5, .int (nI 1)), (0, .ref (ad k)), (1, .int (nI tv)), (2, .int (nI uv)), (3, .int (nI lv)), (4, .int (nI sv))]) hx hb dX3_countPlaces_104 hl (by decide) rfl (fun ls hl => ?_)
                refine lv_goto (tgt := 65) hx hb dX3_countPlaces_106 (by decide) ?_
                exact ih65 (F + 1) (i + (max (run 1 n a ((sp_mean n a) * (100 + tv)) i) 1)) _ _ ls (by omega) (by rw [← i3, cur_step _ _ c71, show cpf (run 1 n a (sp_mean n a * (100 + tv))) lv i F = F + 1 from if_pos c89]) (by omega) (by omega) hH (lv_sub hl [0, 1, 3, 4, 5, 6, 7, 8, 9] rfl)
        exact L65 ((n - 0) + 1) 0 0 _ _ ls (by omega) (by rfl) (by omega) (Nat.lt_succ_self _) hH (lv_sub hl [0, 1, 2, 3, 4, 5, 6, 7, 8] rfl)
    · refine lv_bipush (v := (-2)) hx hb dX3_countPlaces_20 (by decide) ?_
      refine RET _ _ _ _ _ _ dX3_countPlaces_22 rfl ?_ hH
      exact ⟨rfl, by unfold sp_places; rw [if_neg (fun z => by first | exact absurd z.1 (by assumption) | exact absurd z.2 (by assumption))]⟩
set_option maxHeartbeats 4000000 in
set_option maxRecDepth 100000 in
theorem k_X3_removePlaces (l : Launch) (X : Cx) (ad : Nat → Nat) (hi : inj 48 ad) (g : PF) (k : Nat) (hk : k + 1 < 48) (n : Nat) (a : Nat → Nat) (hR : rRow X ad k n a g) (th tn lq : Int32) : Ki l yX3_removePlaces wsX3_removePlaces zr3 X 48 ad g [.ref (ad k), .int th, .int tn, .int lq] (fun r g' => r = (sp_cleared th tn lq n a).1 ∧ rRow X ad k (sp_cleared th tn lq n a).2.1 (sp_cleared th tn lq n a).2.2 g' ∧ fr2 k g g') := by
  refine Ki.of (cc := cX3_removePlaces) (maxL := 13) hi (by decide) rfl (Nat.le_of_ble_eq_true rfl) ?_
  intro p e s m below meth c Q E RET ls hl
  obtain ⟨C0, FX, hH⟩ := E
  have hx := C0.1
  have hb := C0.2.1
  have kiX3 : ∀ w ∈ u_ws RX3 TX3 2, w ∈ wsX3_removePlaces := (by decide +kernel)
  have kf11 : Cond.fieldLink RX3 11 "YarnMill$Row" "cells" "[I" ∈ wsX3_removePlaces := (by decide +kernel)
  have kf21 : Cond.fieldLink RX3 21 "YarnMill$Row" "size" "I" ∈ wsX3_removePlaces := (by decide +kernel)
  have hl : lv_has ls 13 [(0, .ref (ad k)), (1, .int th), (2, .int tn), (3, .int lq)] := hl
  have fr : ∀ j, j ≠ k → j ≠ (k + 1) → g j = g j := fun j _ _ => rfl
  obtain ⟨x, fk, fc, hxa, hn, hab⟩ := hR
  refine lv_iload_n hx hb dX3_removePlaces_0 rfl (lv_at hl 1 rfl) ?_
  refine lv_iload_n hx hb dX3_removePlaces_1 rfl (lv_at hl 2 rfl) ?_
  refine lv_iload_n hx hb dX3_removePlaces_2 rfl (lv_at hl 3 rfl) ?_
  refine rc_Si (rest := []) C0 FX hH (k_X3_isLaw l X ad hi _ th tn lq) (va_cwS 3 C0.2.2.2.2 gX3_removePlaces_X3_isLaw rfl rfl rfl (by decide +kernel) ⟨Nat.le_of_ble_eq_true rfl, Nat.le_of_ble_eq_true rfl⟩) rfl rfl hl.1 (Nat.le_of_ble_eq_true rfl) dX3_removePlaces_3 ⟨Nat.le_of_ble_eq_true rfl, Nat.le_of_ble_eq_true rfl⟩ (fun r3 g3c H locs h3 hH => ?_)
  obtain ⟨e3, rfl⟩ := h3
  rw [e3] at hH
  refine rb_ne hx hb 12 dX3_removePlaces_6 (by decide) (fun c6 => ?_) (fun c6 => ?_)
  · obtain ⟨tv, rfl, tv1, tv2, tv3⟩ := rng_nI c6.1
    obtain ⟨uv, rfl, uv1, uv2, uv3⟩ := rng_nI c6.2.1
    obtain ⟨lv, rfl, lv1, lv2, lv3⟩ := rng_nI c6.2.2
    refine lv_aload_n hx hb dX3_removePlaces_12 rfl (lv_at hl 0 rfl) ?_
    refine rc_Vl (rest := []) C0 FX hH k (by omega) fk rfl (k_X3_mean l X ad hi _ k hk n a ⟨x, fk, fc, hxa, hn, hab⟩ ) (cwV 0 C0.2.2.2.2 gX3_removePlaces_X3_mean rfl rfl rfl (by decide +kernel) ⟨Nat.le_of_ble_eq_true rfl, Nat.le_of_ble_eq_true rfl⟩) rfl rfl hl.1 (Nat.le_of_ble_eq_true rfl) dX3_removePlaces_13 ⟨Nat.le_of_ble_eq_true rfl, Nat.le_of_ble_eq_true rfl⟩ (fun r13 g13c H locs h13 hH => ?_)
    obtain ⟨e13, rfl⟩ := h13
    rw [e13] at hH
    refine lv_bipush (v := nI 100) hx hb dX3_removePlaces_16 (by decide) ?_
    refine lv_iload_n hx hb dX3_removePlaces_18 rfl (lv_at hl 1 rfl) ?_
    refine ni_iadd hx hb dX3_removePlaces_19 ?_
    refine ni_i2l hx hb (by omega) dX3_removePlaces_20 ?_
    refine ni_lmul hx hb dX3_removePlaces_21 ?_
    refine lv_lstore (lv' := [(4, .long (lN ((sp_mean n a) * (100 + tv)))), (0, .ref (ad k)), (1, .int (nI tv)), (2, .int (nI uv)), (3, .int (nI lv))]) hx hb dX3_removePlaces_22 hl (by decide) rfl (fun ls hl => ?_)
    refine lv_aload_n hx hb dX3_removePlaces_24 rfl (lv_at hl 1 rfl) ?_
    refine rc_Vl (rest := []) C0 FX hH k (by omega) fk rfl (k_X3_mean l X ad hi _ k hk n a ⟨x, fk, fc, hxa, hn, hab⟩ ) (cwV 0 C0.2.2.2.2 gX3_removePlaces_X3_mean rfl rfl rfl (by decide +kernel) ⟨Nat.le_of_ble_eq_true rfl, Nat.le_of_ble_eq_true rfl⟩) rfl rfl hl.1 (Nat.le_of_ble_eq_true rfl) dX3_removePlaces_25 ⟨Nat.le_of_ble_eq_true rfl, Nat.le_of_ble_eq_true rfl⟩ (fun r25 g25c H locs h25 hH => ?_)
    obtain ⟨e25, rfl⟩ := h25
    rw [e25] at hH
    refine lv_bipush (v := nI 100) hx hb dX3_removePlaces_28 (by decide) ?_
    refine lv_iload_n hx hb dX3_removePlaces_30 rfl (lv_at hl 3 rfl) ?_
    refine ni_isub hx hb (by omega) dX3_removePlaces_31 ?_
    refine ni_i2l hx hb (by omega) dX3_removePlaces_32 ?_
    refine ni_lmul hx hb dX3_removePlaces_33 ?_
    refine lv_lstore (lv' := [(6, .long (lN ((sp_mean n a) * (100 - uv)))), (4, .long (lN ((sp_mean n a) * (100 + tv)))), (0, .ref (ad k)), (1, .int (nI tv)), (2, .int (nI uv)), (3, .int (nI lv))]) hx hb dX3_removePlaces_34 hl (by decide) rfl (fun ls hl => ?_)
    have hB9 := mean_up (t := 100 + tv) hn hab (by omega)
    have hC9 := mean_up (t := 100 - uv) hn hab (by omega)
    refine lv_iconst (v := nI 0) hx hb dX3_removePlaces_36 (by decide) ?_
    refine lv_istore (lv' := [(8, .int (nI 0)), (6, .long (lN ((sp_mean n a) * (100 - uv)))), (4, .long (lN ((sp_mean n a) * (100 + tv)))), (0, .ref (ad k)), (1, .int (nI tv)), (2, .int (nI uv)), (3, .int (nI lv))]) hx hb dX3_removePlaces_37 hl (by decide) rfl (fun ls hl => ?_)
    refine lv_iconst (v := nI 0) hx hb dX3_removePlaces_39 (by decide) ?_
    refine lv_istore (lv' := [(9, .int (nI 0)), (8, .int (nI 0)), (6, .long (lN ((sp_mean n a) * (100 - uv)))), (4, .long (lN ((sp_mean n a) * (100 + tv)))), (0, .ref (ad k)), (1, .int (nI tv)), (2, .int (nI uv)), (3, .int (nI lv))]) hx hb dX3_removePlaces_40 hl (by decide) rfl (fun ls hl => ?_)
    refine lv_iconst (v := nI 0) hx hb dX3_removePlaces_42 (by decide) ?_
    refine lv_istore (lv' := [(10, .int (nI 0)), (9, .int (nI 0)), (8, .int (nI 0)), (6, .long (lN ((sp_mean n a) * (100 - uv)))), (4, .long (lN ((sp_mean n a) * (100 + tv)))), (0, .ref (ad k)), (1, .int (nI tv)), (2, .int (nI uv)), (3, .int (nI lv))]) hx hb dX3_removePlaces_43 hl (by decide) rfl (fun ls hl => ?_)
    refine lv_iconst (v := nI 0) hx hb dX3_removePlaces_45 (by decide) ?_
    refine lv_istore (lv' := [(12, .int (nI 0)), (10, .int (nI 0)), (9, .int (nI 0)), (8, .int (nI 0)), (6, .long (lN ((sp_mean n a) * (100 - uv)))), (4, .long (lN ((sp_mean n a) * (100 + tv)))), (0, .ref (ad k)), (1, .int (nI tv)), (2, .int (nI uv)), (3, .int (nI lv))]) hx hb dX3_removePlaces_46 hl (by decide) rfl (fun ls hl => ?_)
    have L48 : ∀ (fu : Nat) (kp : Nat) (sp : Nat) (gp : Nat) (i : Nat) (o : Nat → Nat) (x9 : Nat → Nat) (g1 : PF) (H : Heap) (locs : List Loc) (ls : Array Slot), (i ≤ n) → (kp ≤ i) → (gp ≤ 1) → (sp ≤ i) → (cur (plc n a (sp_mean n a * (100 + tv)) (sp_mean n a * (100 - uv)) lv) (clf n a (sp_mean n a * (100 + tv)) (sp_mean n a * (100 - uv)) lv) n (n - i) i (kp, sp, gp, o) = cl n a (sp_mean n a * (100 + tv)) (sp_mean n a * (100 - uv)) lv) → (∀ j, i ≤ j → j < n → x9 j = a j) → (∀ j, j < kp → x9 j = o j) → (∀ j, j < n → x9 j ≤ 1000000) → n - i < fu → WH X 48 ad (pA 48 ad s.heap.size) s g1 H locs → g1 k = .inr (3, [.int (nI n), .ref (ad (k + 1))]) → g1 (k + 1) = arr X 400 x9 → (∀ j, j ≠ k → j ≠ (k + 1) → g1 j = g j) → lv_has ls 13 [(12, .int (nI i)), (10, .int (nI gp)), (9, .int (nI sp)), (8, .int (nI kp)), (6, .long (lN ((sp_mean n a) * (100 - uv)))), (4, .long (lN ((sp_mean n a) * (100 + tv)))), (0, .ref (ad k)), (1, .int (nI tv)), (2, .int (nI uv)), (3, .int (nI lv))] → W p l e zr3 s m ([.ref (ad k), .int (nI tv), .int (nI uv), .int (nI lv)] : List Value).toArray below meth c H locs 0 0 Q (F0 m 48 ls []) := by
      intro fu
      induction fu with
      | zero =>
        intro kp sp gp i o x9 g1 H locs ls j1 j2 j7 j8 i3 j5 j6 j9 hm
        exact absurd hm (Nat.not_lt_zero _)
      | succ fu ih =>
        have ih48 := ih; clear ih
        intro kp sp gp i o x9 g1 H locs ls j1 j2 j7 j8 i3 j5 j6 j9 hm48 hH fk fc fr hl
        have hpl := plc_le n a (sp_mean n a * (100 + tv)) (sp_mean n a * (100 - uv)) lv i
        refine lv_iload hx hb dX3_removePlaces_48 (lv_at hl 0 rfl) ?_
        refine lv_aload_n hx hb dX3_removePlaces_50 rfl (lv_at hl 6 rfl) ?_
        refine rp_get C0 FX hH k (by omega) (ci := 3) (k := 0) fk rfl kiX3 (by decide) kf21 rfl dX3_removePlaces_51 ?_
        refine ni_cge hx hb 138 dX3_removePlaces_54 (by decide) (by omega) (by omega) (fun c54 => ?_) (fun c54 => ?_)
        · refine lv_aload_n hx hb dX3_removePlaces_138 rfl (lv_at hl 6 rfl) ?_
          refine lv_iload hx hb dX3_removePlaces_139 (lv_at hl 3 rfl) ?_
          refine rp_put C0 FX hH k (by omega) (ci := 3) (k := 0) tyX3 tyX3_ok nmX3 fk rfl kiX3 (by decide) kf21 rfl rfl rfl (Nat.le_of_ble_eq_true rfl) dX3_removePlaces_141 (fun g2 H locs eq3 nq3 hH => ?_)
          have fk : g2 k = .inr (3, [.int (nI kp), .ref (ad (k + 1))]) := eq3
          have fc : g2 (k + 1) = arr X 400 x9 := (nq3 _ (by omega)).trans fc
          have fr : ∀ j, j ≠ k → j ≠ (k + 1) → g2 j = g j := fun j a0 a1 => (nq3 j (by omega)).trans (fr j a0 a1)
          refine lv_iload hx hb dX3_removePlaces_144 (lv_at hl 2 rfl) ?_
          refine RET _ _ _ _ _ _ dX3_removePlaces_146 rfl ?_ hH
          have hT : cl n a (sp_mean n a * (100 + tv)) (sp_mean n a * (100 - uv)) lv = (kp, sp, gp, o) := by rw [← i3, cur_no _ _ (by omega)]
          exact post3 (by unfold sp_cleared; rw [if_pos c6, tN_nI (by omega), tN_nI (by omega), tN_nI (by omega), hT]) ⟨x9, fk, fc, j6, by omega, fun j hj => by rw [← j6 j hj]; exact j9 j (by omega)⟩ fr
        · refine lv_aload_n hx hb dX3_removePlaces_57 rfl (lv_at hl 6 rfl) ?_
          refine lv_iload hx hb dX3_removePlaces_58 (lv_at hl 0 rfl) ?_
          refine lv_lload hx hb dX3_removePlaces_60 (lv_at hl 5 rfl) ?_
          refine lv_lload hx hb dX3_removePlaces_62 (lv_at hl 4 rfl) ?_
          refine lv_iload_n hx hb dX3_removePlaces_64 rfl (lv_at hl 9 rfl) ?_
          refine rc_Vi (rest := []) C0 FX hH k (by omega) fk rfl (k_X3_placeFrom l X ad hi _ k hk n x9 ⟨x9, fk, fc, fun j _ => rfl, hn, j9⟩ i ((sp_mean n a) * (100 + tv)) ((sp_mean n a) * (100 - uv)) lv (by omega) (by omega) (by omega) (by omega)) (cwV 4 C0.2.2.2.2 gX3_removePlaces_X3_placeFrom rfl rfl rfl (by decide +kernel) ⟨Nat.le_of_ble_eq_true rfl, Nat.le_of_ble_eq_true rfl⟩) rfl rfl hl.1 (Nat.le_of_ble_eq_true rfl) dX3_removePlaces_65 ⟨Nat.le_of_ble_eq_true rfl, Nat.le_of_ble_eq_true rfl⟩ (fun r65 g65c H locs h65 hH => ?_)
          obtain ⟨e65, rfl⟩ := h65
          rw [e65] at hH
          rw [plc_cong j5]
          refine lv_istore (lv' := [(11, .int (nI (plc n a (sp_mean n a * (100 + tv)) (sp_mean n a * (100 - uv)) lv i))), (12, .int (nI i)), (10, .int (nI gp)), (9, .int (nI sp)), (8, .int (nI kp)), (6, .long (lN ((sp_mean n a) * (100 - uv)))), (4, .long (lN ((sp_mean n a) * (100 + tv)))), (0, .ref (ad k)), (1, .int (nI tv)), (2, .int (nI uv)), (3, .int (nI lv))]) hx hb dX3_removePlaces_68 hl (by decide) rfl (fun ls hl => ?_)
          refine lv_iload hx hb dX3_removePlaces_70 (lv_at hl 0 rfl) ?_
          refine ni_ne0 hx hb 112 dX3_removePlaces_72 (by decide) (by omega) (fun c72 => ?_) (fun c72 => ?_)
          · refine lv_iload hx hb dX3_removePlaces_112 (lv_at hl 0 rfl) ?_
            refine ni_le0 hx hb 121 dX3_removePlaces_114 (by decide) (by omega) (fun c114 => ?_) (fun c114 => ?_)
            · exact absurd c114 (by omega)
            · refine lv_iconst (v := nI 1) hx hb dX3_removePlaces_117 (by decide) ?_
              refine lv_goto (tgt := 122) hx hb dX3_removePlaces_118 (by decide) ?_
              refine lv_istore (lv' := [(10, .int (nI 1)), (11, .int (nI (plc n a (sp_mean n a * (100 + tv)) (sp_mean n a * (100 - uv)) lv i))), (12, .int (nI i)), (9, .int (nI sp)), (8, .int (nI kp)), (6, .long (lN ((sp_mean n a) * (100 - uv)))), (4, .long (lN ((sp_mean n a) * (100 + tv)))), (0, .ref (ad k)), (1, .int (nI tv)), (2, .int (nI uv)), (3, .int (nI lv))]) hx hb dX3_removePlaces_122 hl (by decide) rfl (fun ls hl => ?_)
              refine lv_iload hx hb dX3_removePlaces_124 (lv_at hl 2 rfl) ?_
              refine lv_iload hx hb dX3_removePlaces_126 (lv_at hl 1 rfl) ?_
              refine lv_iconst (v := nI 1) hx hb dX3_removePlaces_128 (by decide) ?_
              refine va_mmax hx hb (by rw [C0.2.2.1]; exact hl.1.symm) C0.2.2.2.1 (C0.2.2.2.2 (.methodLink RX3 77 Lib.Math.max.name) (by decide +kernel)) (C0.2.2.2.2 (.static Lib.Math.max.name) (by decide +kernel)) (C0.2.2.2.2 (.initialized "java/lang/Math") (by decide +kernel)) (C0.2.2.2.2 (.code Lib.Math.max.name Lib.Math.max.code 2 (some .int)) (by decide +kernel)) (Nat.le_of_ble_eq_true rfl) (Nat.le_of_ble_eq_true rfl) (Nat.le_of_ble_eq_true rfl) (Nat.le_of_ble_eq_true rfl) dX3_removePlaces_129 ?_
              rw [ni_max (by omega) (by omega)]
              refine ni_iadd hx hb dX3_removePlaces_132 ?_
              refine lv_istore (lv' := [(12, .int (nI (i + (max (plc n a (sp_mean n a * (100 + tv)) (sp_mean n a * (100 - uv)) lv i) 1)))), (10, .int (nI 1)), (11, .int (nI (plc n a (sp_mean n a * (100 + tv)) (sp_mean n a * (100 - uv)) lv i))), (9, .int (nI sp)), (8, .int (nI kp)), (6, .long (lN ((sp_mean n a) * (100 - uv)))), (4, .long (lN ((sp_mean n a) * (100 + tv)))), (0, .ref (ad k)), (1, .int (nI tv)), (2, .int (nI uv)), (3, .int (nI lv))]) hx hb dX3_removePlaces_133 hl (by decide) rfl (fun ls hl => ?_)
              refine lv_goto (tgt := 48) hx hb dX3_removePlaces_135 (by decide) ?_
              exact ih48 kp sp 1 (i + (max (plc n a (sp_mean n a * (100 + tv)) (sp_mean n a * (100 - uv)) lv i) 1)) o x9 _ _ _ ls (by omega) (by omega) (by omega) (by omega) (by rw [← i3, cur_step _ _ c54, show clf n a (sp_mean n a * (100 + tv)) (sp_mean n a * (100 - uv)) lv i (kp, sp, gp, o) = (kp, sp, 1, o) from by unfold clf; rw [if_neg (by omega)]]) (fun j h1 h2 => j5 j (by omega) h2) (j6) (j9) (by omega) hH fk fc fr (lv_sub hl [0, 1, 3, 4, 5, 6, 7, 8, 9, 10] rfl)
          · refine lv_iload hx hb dX3_removePlaces_75 (lv_at hl 3 rfl) ?_
            refine lv_iload hx hb dX3_removePlaces_77 (lv_at hl 2 rfl) ?_
            refine ni_eq0 hx hb 91 dX3_removePlaces_79 (by decide) (by omega) (fun c79 => ?_) (fun c79 => ?_)
            · refine lv_iconst (v := nI 0) hx hb dX3_removePlaces_91 (by decide) ?_
              refine ni_iadd hx hb dX3_removePlaces_92 ?_
              refine lv_istore (lv' := [(9, .int (nI (sp + 0))), (11, .int (nI (plc n a (sp_mean n a * (100 + tv)) (sp_mean n a * (100 - uv)) lv i))), (12, .int (nI i)), (10, .int (nI gp)), (8, .int (nI kp)), (6, .long (lN ((sp_mean n a) * (100 - uv)))), (4, .long (lN ((sp_mean n a) * (100 + tv)))), (0, .ref (ad k)), (1, .int (nI tv)), (2, .int (nI uv)), (3, .int (nI lv))]) hx hb dX3_removePlaces_93 hl (by decide) rfl (fun ls hl => ?_)
              refine lv_aload_n hx hb dX3_removePlaces_95 rfl (lv_at hl 7 rfl) ?_
              refine rp_get C0 FX hH k (by omega) (ci := 3) (k := 1) fk rfl kiX3 (by decide) kf11 rfl dX3_removePlaces_96 ?_
              refine lv_iload hx hb dX3_removePlaces_99 (lv_at hl 4 rfl) ?_
              refine lv_aload_n hx hb dX3_removePlaces_101 rfl (lv_at hl 7 rfl) ?_
              refine rp_get C0 FX hH k (by omega) (ci := 3) (k := 1) fk rfl kiX3 (by decide) kf11 rfl dX3_removePlaces_102 ?_
              refine lv_iload hx hb dX3_removePlaces_105 (lv_at hl 2 rfl) ?_
              refine rp_iald C0 FX hH (k + 1) (by omega) (v := a i) fc i (by omega) (by decide) (j5 _ (by omega) (by omega)) dX3_removePlaces_107 ?_
              refine rp_iast C0 FX hH (k + 1) (by omega) fc kp (a i) (by omega) (by decide) dX3_removePlaces_108 (fun g4 H locs eq5 nq5 hH => ?_)
              have fc : g4 (k + 1) = arr X 400 (va_up x9 kp (a i)) := eq5
              have fk : g4 k = .inr (3, [.int (nI n), .ref (ad (k + 1))]) := (nq5 _ (by omega)).trans fk
              have fr : ∀ j, j ≠ k → j ≠ (k + 1) → g4 j = g j := fun j a0 a1 => (nq5 j (by omega)).trans (fr j a0 a1)
              refine lv_iinc (v := nI (kp + 1)) (lv' := [(8, .int (nI (kp + 1))), (9, .int (nI (sp + 0))), (11, .int (nI (plc n a (sp_mean n a * (100 + tv)) (sp_mean n a * (100 - uv)) lv i))), (12, .int (nI i)), (10, .int (nI gp)), (6, .long (lN ((sp_mean n a) * (100 - uv)))), (4, .long (lN ((sp_mean n a) * (100 + tv)))), (0, .ref (ad k)), (1, .int (nI tv)), (2, .int (nI uv)), (3, .int (nI lv))]) hx hb dX3_removePlaces_109 hl (k := 4) rfl (ni_inc1 _) (by decide) rfl (fun ls hl => ?_)
              refine lv_iload hx hb dX3_removePlaces_112 (lv_at hl 2 rfl) ?_
              refine ni_le0 hx hb 121 dX3_removePlaces_114 (by decide) (by omega) (fun c114 => ?_) (fun c114 => ?_)
              · refine lv_iconst (v := nI 0) hx hb dX3_removePlaces_121 (by decide) ?_
                refine lv_istore (lv' := [(10, .int (nI 0)), (8, .int (nI (kp + 1))), (9, .int (nI (sp + 0))), (11, .int (nI (plc n a (sp_mean n a * (100 + tv)) (sp_mean n a * (100 - uv)) lv i))), (12, .int (nI i)), (6, .long (lN ((sp_mean n a) * (100 - uv)))), (4, .long (lN ((sp_mean n a) * (100 + tv)))), (0, .ref (ad k)), (1, .int (nI tv)), (2, .int (nI uv)), (3, .int (nI lv))]) hx hb dX3_removePlaces_122 hl (by decide) rfl (fun ls hl => ?_)
                refine lv_iload hx hb dX3_removePlaces_124 (lv_at hl 4 rfl) ?_
                refine lv_iload hx hb dX3_removePlaces_126 (lv_at hl 3 rfl) ?_
                refine lv_iconst (v := nI 1) hx hb dX3_removePlaces_128 (by decide) ?_
                refine va_mmax hx hb (by rw [C0.2.2.1]; exact hl.1.symm) C0.2.2.2.1 (C0.2.2.2.2 (.methodLink RX3 77 Lib.Math.max.name) (by decide +kernel)) (C0.2.2.2.2 (.static Lib.Math.max.name) (by decide +kernel)) (C0.2.2.2.2 (.initialized "java/lang/Math") (by decide +kernel)) (C0.2.2.2.2 (.code Lib.Math.max.name Lib.Math.max.code 2 (some .int)) (by decide +kernel)) (Nat.le_of_ble_eq_true rfl) (Nat.le_of_ble_eq_true rfl) (Nat.le_of_ble_eq_true rfl) (Nat.le_of_ble_eq_true rfl) dX3_removePlaces_129 ?_
                rw [ni_max (by omega) (by omega)]
                refine ni_iadd hx hb dX3_removePlaces_132 ?_
                refine lv_istore (lv' := [(12, .int (nI (i + (max (plc n a (sp_mean n a * (100 + tv)) (sp_mean n a * (100 - uv)) lv i) 1)))), (10, .int (nI 0)), (8, .int (nI (kp + 1))), (9, .int (nI (sp + 0))), (11, .int (nI (plc n a (sp_mean n a * (100 + tv)) (sp_mean n a * (100 - uv)) lv i))), (6, .long (lN ((sp_mean n a) * (100 - uv)))), (4, .long (lN ((sp_mean n a) * (100 + tv)))), (0, .ref (ad k)), (1, .int (nI tv)), (2, .int (nI uv)), (3, .int (nI lv))]) hx hb dX3_removePlaces_133 hl (by decide) rfl (fun ls hl => ?_)
                refine lv_goto (tgt := 48) hx hb dX3_removePlaces_135 (by decide) ?_
                exact ih48 (kp + 1) (sp + 0) 0 (i + (max (plc n a (sp_mean n a * (100 + tv)) (sp_mean n a * (100 - uv)) lv i) 1)) (va_up o kp (a i)) (va_up x9 kp (a i)) _ _ _ ls (by omega) (by omega) (by omega) (by omega) (by rw [← i3, cur_step _ _ c54, show clf n a (sp_mean n a * (100 + tv)) (sp_mean n a * (100 - uv)) lv i (kp, sp, gp, o) = (kp + 1, sp + 0, 0, va_up o kp (a i)) from by unfold clf; rw [if_pos c72]; show (_, sp + (if 0 < gp ∧ 0 < kp then 1 else 0), _, _) = _; rw [if_neg (fun z => by first | (have := z.1; omega) | (have := z.2; omega))]]) (up_ge j5 (by omega) (by omega)) (up_lt j6) (up_le j9 (hab i c54)) (by omega) hH fk fc fr (lv_sub hl [0, 1, 3, 2, 5, 6, 7, 8, 9, 10] rfl)
              · exact absurd c114 (by omega)
            · refine lv_iload hx hb dX3_removePlaces_82 (lv_at hl 4 rfl) ?_
              refine ni_le0 hx hb 91 dX3_removePlaces_84 (by decide) (by omega) (fun c84 => ?_) (fun c84 => ?_)
              · refine lv_iconst (v := nI 0) hx hb dX3_removePlaces_91 (by decide) ?_
                refine ni_iadd hx hb dX3_removePlaces_92 ?_
                refine lv_istore (lv' := [(9, .int (nI (sp + 0))), (11, .int (nI (plc n a (sp_mean n a * (100 + tv)) (sp_mean n a * (100 - uv)) lv i))), (12, .int (nI i)), (10, .int (nI gp)), (8, .int (nI kp)), (6, .long (lN ((sp_mean n a) * (100 - uv)))), (4, .long (lN ((sp_mean n a) * (100 + tv)))), (0, .ref (ad k)), (1, .int (nI tv)), (2, .int (nI uv)), (3, .int (nI lv))]) hx hb dX3_removePlaces_93 hl (by decide) rfl (fun ls hl => ?_)
                refine lv_aload_n hx hb dX3_removePlaces_95 rfl (lv_at hl 7 rfl) ?_
                refine rp_get C0 FX hH k (by omega) (ci := 3) (k := 1) fk rfl kiX3 (by decide) kf11 rfl dX3_removePlaces_96 ?_
                refine lv_iload hx hb dX3_removePlaces_99 (lv_at hl 4 rfl) ?_
                refine lv_aload_n hx hb dX3_removePlaces_101 rfl (lv_at hl 7 rfl) ?_
                refine rp_get C0 FX hH k (by omega) (ci := 3) (k := 1) fk rfl kiX3 (by decide) kf11 rfl dX3_removePlaces_102 ?_
                refine lv_iload hx hb dX3_removePlaces_105 (lv_at hl 2 rfl) ?_
                refine rp_iald C0 FX hH (k + 1) (by omega) (v := a i) fc i (by omega) (by decide) (j5 _ (by omega) (by omega)) dX3_removePlaces_107 ?_
                refine rp_iast C0 FX hH (k + 1) (by omega) fc kp (a i) (by omega) (by decide) dX3_removePlaces_108 (fun g6 H locs eq7 nq7 hH => ?_)
                have fc : g6 (k + 1) = arr X 400 (va_up x9 kp (a i)) := eq7
                have fk : g6 k = .inr (3, [.int (nI n), .ref (ad (k + 1))]) := (nq7 _ (by omega)).trans fk
                have fr : ∀ j, j ≠ k → j ≠ (k + 1) → g6 j = g j := fun j a0 a1 => (nq7 j (by omega)).trans (fr j a0 a1)
                refine lv_iinc (v := nI (kp + 1)) (lv' := [(8, .int (nI (kp + 1))), (9, .int (nI (sp + 0))), (11, .int (nI (plc n a (sp_mean n a * (100 + tv)) (sp_mean n a * (100 - uv)) lv i))), (12, .int (nI i)), (10, .int (nI gp)), (6, .long (lN ((sp_mean n a) * (100 - uv)))), (4, .long (lN ((sp_mean n a) * (100 + tv)))), (0, .ref (ad k)), (1, .int (nI tv)), (2, .int (nI uv)), (3, .int (nI lv))]) hx hb dX3_removePlaces_109 hl (k := 4) rfl (ni_inc1 _) (by decide) rfl (fun ls hl => ?_)
                refine lv_iload hx hb dX3_removePlaces_112 (lv_at hl 2 rfl) ?_
                refine ni_le0 hx hb 121 dX3_removePlaces_114 (by decide) (by omega) (fun c114 => ?_) (fun c114 => ?_)
                · refine lv_iconst (v := nI 0) hx hb dX3_removePlaces_121 (by decide) ?_
                  refine lv_istore (lv' := [(10, .int (nI 0)), (8, .int (nI (kp + 1))), (9, .int (nI (sp + 0))), (11, .int (nI (plc n a (sp_mean n a * (100 + tv)) (sp_mean n a * (100 - uv)) lv i))), (12, .int (nI i)), (6, .long (lN ((sp_mean n a) * (100 - uv)))), (4, .long (lN ((sp_mean n a) * (100 + tv)))), (0, .ref (ad k)), (1, .int (nI tv)), (2, .int (nI uv)), (3, .int (nI lv))]) hx hb dX3_removePlaces_122 hl (by decide) rfl (fun ls hl => ?_)
                  refine lv_iload hx hb dX3_removePlaces_124 (lv_at hl 4 rfl) ?_
                  refine lv_iload hx hb dX3_removePlaces_126 (lv_at hl 3 rfl) ?_
                  refine lv_iconst (v := nI 1) hx hb dX3_removePlaces_128 (by decide) ?_
                  refine va_mmax hx hb (by rw [C0.2.2.1]; exact hl.1.symm) C0.2.2.2.1 (C0.2.2.2.2 (.methodLink RX3 77 Lib.Math.max.name) (by decide +kernel)) (C0.2.2.2.2 (.static Lib.Math.max.name) (by decide +kernel)) (C0.2.2.2.2 (.initialized "java/lang/Math") (by decide +kernel)) (C0.2.2.2.2 (.code Lib.Math.max.name Lib.Math.max.code 2 (some .int)) (by decide +kernel)) (Nat.le_of_ble_eq_true rfl) (Nat.le_of_ble_eq_true rfl) (Nat.le_of_ble_eq_true rfl) (Nat.le_of_ble_eq_true rfl) dX3_removePlaces_129 ?_
                  rw [ni_max (by omega) (by omega)]
                  refine ni_iadd hx hb dX3_removePlaces_132 ?_
                  refine lv_istore (lv' := [(12, .int (nI (i + (max (plc n a (sp_mean n a * (100 + tv)) (sp_mean n a * (100 - uv)) lv i) 1)))), (10, .int (nI 0)), (8, .int (nI (kp + 1))), (9, .int (nI (sp + 0))), (11, .int (nI (plc n a (sp_mean n a * (100 + tv)) (sp_mean n a * (100 - uv)) lv i))), (6, .long (lN ((sp_mean n a) * (100 - uv)))), (4, .long (lN ((sp_mean n a) * (100 + tv)))), (0, .ref (ad k)), (1, .int (nI tv)), (2, .int (nI uv)), (3, .int (nI lv))]) hx hb dX3_removePlaces_133 hl (by decide) rfl (fun ls hl => ?_)
                  refine lv_goto (tgt := 48) hx hb dX3_removePlaces_135 (by decide) ?_
                  exact ih48 (kp + 1) (sp + 0) 0 (i + (max (plc n a (sp_mean n a * (100 + tv)) (sp_mean n a * (100 - uv)) lv i) 1)) (va_up o kp (a i)) (va_up x9 kp (a i)) _ _ _ ls (by omega) (by omega) (by omega) (by omega) (by rw [← i3, cur_step _ _ c54, show clf n a (sp_mean n a * (100 + tv)) (sp_mean n a * (100 - uv)) lv i (kp, sp, gp, o) = (kp + 1, sp + 0, 0, va_up o kp (a i)) from by unfold clf; rw [if_pos c72]; show (_, sp + (if 0 < gp ∧ 0 < kp then 1 else 0), _, _) = _; rw [if_neg (fun z => by first | (have := z.1; omega) | (have := z.2; omega))]]) (up_ge j5 (by omega) (by omega)) (up_lt j6) (up_le j9 (hab i c54)) (by omega) hH fk fc fr (lv_sub hl [0, 1, 3, 2, 5, 6, 7, 8, 9, 10] rfl)
                · exact absurd c114 (by omega)
              · refine lv_iconst (v := nI 1) hx hb dX3_removePlaces_87 (by decide) ?_
                refine lv_goto (tgt := 92) hx hb dX3_removePlaces_88 (by decide) ?_
                refine ni_iadd hx hb dX3_removePlaces_92 ?_
                refine lv_istore (lv' := [(9, .int (nI (sp + 1))), (11, .int (nI (plc n a (sp_mean n a * (100 + tv)) (sp_mean n a * (100 - uv)) lv i))), (12, .int (nI i)), (10, .int (nI gp)), (8, .int (nI kp)), (6, .long (lN ((sp_mean n a) * (100 - uv)))), (4, .long (lN ((sp_mean n a) * (100 + tv)))), (0, .ref (ad k)), (1, .int (nI tv)), (2, .int (nI uv)), (3, .int (nI lv))]) hx hb dX3_removePlaces_93 hl (by decide) rfl (fun ls hl => ?_)
                refine lv_aload_n hx hb dX3_removePlaces_95 rfl (lv_at hl 7 rfl) ?_
                refine rp_get C0 FX hH k (by omega) (ci := 3) (k := 1) fk rfl kiX3 (by decide) kf11 rfl dX3_removePlaces_96 ?_
                refine lv_iload hx hb dX3_removePlaces_99 (lv_at hl 4 rfl) ?_
                refine lv_aload_n hx hb dX3_removePlaces_101 rfl (lv_at hl 7 rfl) ?_
                refine rp_get C0 FX hH k (by omega) (ci := 3) (k := 1) fk rfl kiX3 (by decide) kf11 rfl dX3_removePlaces_102 ?_
                refine lv_iload hx hb dX3_removePlaces_105 (lv_at hl 2 rfl) ?_
                refine rp_iald C0 FX hH (k + 1) (by omega) (v := a i) fc i (by omega) (by decide) (j5 _ (by omega) (by omega)) dX3_removePlaces_107 ?_
                refine rp_iast C0 FX hH (k + 1) (by omega) fc kp (a i) (by omega) (by decide) dX3_removePlaces_108 (fun g8 H locs eq9 nq9 hH => ?_)
                have fc : g8 (k + 1) = arr X 400 (va_up x9 kp (a i)) := eq9
                have fk : g8 k = .inr (3, [.int (nI n), .ref (ad (k + 1))]) := (nq9 _ (by omega)).trans fk
                have fr : ∀ j, j ≠ k → j ≠ (k + 1) → g8 j = g j := fun j a0 a1 => (nq9 j (by omega)).trans (fr j a0 a1)
                refine lv_iinc (v := nI (kp + 1)) (lv' := [(8, .int (nI (kp + 1))), (9, .int (nI (sp + 1))), (11, .int (nI (plc n a (sp_mean n a * (100 + tv)) (sp_mean n a * (100 - uv)) lv i))), (12, .int (nI i)), (10, .int (nI gp)), (6, .long (lN ((sp_mean n a) * (100 - uv)))), (4, .long (lN ((sp_mean n a) * (100 + tv)))), (0, .ref (ad k)), (1, .int (nI tv)), (2, .int (nI uv)), (3, .int (nI lv))]) hx hb dX3_removePlaces_109 hl (k := 4) rfl (ni_inc1 _) (by decide) rfl (fun ls hl => ?_)
                refine lv_iload hx hb dX3_removePlaces_112 (lv_at hl 2 rfl) ?_
                refine ni_le0 hx hb 121 dX3_removePlaces_114 (by decide) (by omega) (fun c114 => ?_) (fun c114 => ?_)
                · refine lv_iconst (v := nI 0) hx hb dX3_removePlaces_121 (by decide) ?_
                  refine lv_istore (lv' := [(10, .int (nI 0)), (8, .int (nI (kp + 1))), (9, .int (nI (sp + 1))), (11, .int (nI (plc n a (sp_mean n a * (100 + tv)) (sp_mean n a * (100 - uv)) lv i))), (12, .int (nI i)), (6, .long (lN ((sp_mean n a) * (100 - uv)))), (4, .long (lN ((sp_mean n a) * (100 + tv)))), (0, .ref (ad k)), (1, .int (nI tv)), (2, .int (nI uv)), (3, .int (nI lv))]) hx hb dX3_removePlaces_122 hl (by decide) rfl (fun ls hl => ?_)
                  refine lv_iload hx hb dX3_removePlaces_124 (lv_at hl 4 rfl) ?_
                  refine lv_iload hx hb dX3_removePlaces_126 (lv_at hl 3 rfl) ?_
                  refine lv_iconst (v := nI 1) hx hb dX3_removePlaces_128 (by decide) ?_
                  refine va_mmax hx hb (by rw [C0.2.2.1]; exact hl.1.symm) C0.2.2.2.1 (C0.2.2.2.2 (.methodLink RX3 77 Lib.Math.max.name) (by decide +kernel)) (C0.2.2.2.2 (.static Lib.Math.max.name) (by decide +kernel)) (C0.2.2.2.2 (.initialized "java/lang/Math") (by decide +kernel)) (C0.2.2.2.2 (.code Lib.Math.max.name Lib.Math.max.code 2 (some .int)) (by decide +kernel)) (Nat.le_of_ble_eq_true rfl) (Nat.le_of_ble_eq_true rfl) (Nat.le_of_ble_eq_true rfl) (Nat.le_of_ble_eq_true rfl) dX3_removePlaces_129 ?_
                  rw [ni_max (by omega) (by omega)]
                  refine ni_iadd hx hb dX3_removePlaces_132 ?_
                  refine lv_istore (lv' := [(12, .int (nI (i + (max (plc n a (sp_mean n a * (100 + tv)) (sp_mean n a * (100 - uv)) lv i) 1)))), (10, .int (nI 0)), (8, .int (nI (kp + 1))), (9, .int (nI (sp + 1))), (11, .int (nI (plc n a (sp_mean n a * (100 + tv)) (sp_mean n a * (100 - uv)) lv i))), (6, .long (lN ((sp_mean n a) * (100 - uv)))), (4, .long (lN ((sp_mean n a) * (100 + tv)))), (0, .ref (ad k)), (1, .int (nI tv)), (2, .int (nI uv)), (3, .int (nI lv))]) hx hb dX3_removePlaces_133 hl (by decide) rfl (fun ls hl => ?_)
                  refine lv_goto (tgt := 48) hx hb dX3_removePlaces_135 (by decide) ?_
                  exact ih48 (kp + 1) (sp + 1) 0 (i + (max (plc n a (sp_mean n a * (100 + tv)) (sp_mean n a * (100 - uv)) lv i) 1)) (va_up o kp (a i)) (va_up x9 kp (a i)) _ _ _ ls (by omega) (by omega) (by omega) (by omega) (by rw [← i3, cur_step _ _ c54, show clf n a (sp_mean n a * (100 + tv)) (sp_mean n a * (100 - uv)) lv i (kp, sp, gp, o) = (kp + 1, sp + 1, 0, va_up o kp (a i)) from by unfold clf; rw [if_pos c72]; show (_, sp + (if 0 < gp ∧ 0 < kp then 1 else 0), _, _) = _; rw [if_pos ⟨c79, c84⟩]]) (up_ge j5 (by omega) (by omega)) (up_lt j6) (up_le j9 (hab i c54)) (by omega) hH fk fc fr (lv_sub hl [0, 1, 3, 2, 5, 6, 7, 8, 9, 10] rfl)
                · exact absurd c114 (by omega)
    exact L48 ((n - 0) + 1) 0 0 0 0 (fun _ => 0) x _ _ _ ls (by omega) (by omega) (by omega) (by omega) (by rfl) (fun j _ h => hxa j h) (fun j h => absurd h (Nat.not_lt_zero _)) (fun j h => by rw [hxa j h]; exact hab j h) (Nat.lt_succ_self _) hH fk fc fr (lv_sub hl [0, 1, 2, 3, 4, 5, 6, 7, 8, 9] rfl)
  · refine lv_bipush (v := (-2)) hx hb dX3_removePlaces_9 (by decide) ?_
    refine RET _ _ _ _ _ _ dX3_removePlaces_11 rfl ?_ hH
    exact post3 (by unfold sp_cleared; rw [if_neg c6]) ⟨x, fk, fc, hxa, hn, hab⟩ fr
set_option maxHeartbeats 4000000 in
set_option maxRecDepth 100000 in
theorem k_X3_addRow (l : Launch) (X : Cx) (ad : Nat → Nat) (hi : inj 48 ad) (g : PF) (k : Nat) (hk : k + 1 < 48) (n : Nat) (a : Nat → Nat) (hR : rRow X ad k n a g) (k2 : Nat) (hk2 : k2 + 1 < 48) (n2 : Nat) (b : Nat → Nat) (hR2 : rRow X ad k2 n2 b g) (d1 : k2 ≠ k) (d2 : k2 ≠ k + 1) (d3 : k2 + 1 ≠ k) : Ki l yX3_addRow wsX3_addRow zr1 X 48 ad g [.ref (ad k), .ref (ad k2)] (fun r g' => r = (sp_join n2 b n a).1 ∧ rRow X ad k (sp_join n2 b n a).2.1 (sp_join n2 b n a).2.2 g' ∧ fr2 k g g') := by
  refine Ki.of (cc := cX3_addRow) (maxL := 3) hi (by decide) rfl (Nat.le_of_ble_eq_true rfl) ?_
  intro p e s m below meth c Q E RET ls hl
  obtain ⟨C0, FX, hH⟩ := E
  have hx := C0.1
  have hb := C0.2.1
  have kiX3 : ∀ w ∈ u_ws RX3 TX3 2, w ∈ wsX3_addRow := (by decide +kernel)
  have kf11 : Cond.fieldLink RX3 11 "YarnMill$Row" "cells" "[I" ∈ wsX3_addRow := (by decide +kernel)
  have kf21 : Cond.fieldLink RX3 21 "YarnMill$Row" "size" "I" ∈ wsX3_addRow := (by decide +kernel)
  have kc32 := C0.2.2.2.2 (.constant RX3 32 (nI 1000000)) (by decide +kernel)
  have hl : lv_has ls 3 [(0, .ref (ad k)), (1, .ref (ad k2))] := hl
  have fr : ∀ j, j ≠ k → j ≠ (k + 1) → g j = g j := fun j _ _ => rfl
  obtain ⟨x, fk, fc, hxa, hn, hab⟩ := hR
  obtain ⟨y, fk2, fc2, hyb, hn2, hbb⟩ := hR2
  refine lv_aload_n hx hb dX3_addRow_0 rfl (lv_at hl 1 rfl) ?_
  refine rp_get C0 FX hH k2 (by omega) (ci := 3) (k := 0) fk2 rfl kiX3 (by decide) kf21 rfl dX3_addRow_1 ?_
  refine lv_aload_n hx hb dX3_addRow_4 rfl (lv_at hl 0 rfl) ?_
  refine rp_get C0 FX hH k (by omega) (ci := 3) (k := 0) fk rfl kiX3 (by decide) kf21 rfl dX3_addRow_5 ?_
  refine ni_ceq hx hb 14 dX3_addRow_8 (by decide) (by omega) (by omega) (fun c8 => ?_) (fun c8 => ?_)
  · refine lv_iconst (v := nI 0) hx hb dX3_addRow_14 (by decide) ?_
    refine lv_istore_n (lv' := [(2, .int (nI 0)), (0, .ref (ad k)), (1, .ref (ad k2))]) hx hb dX3_addRow_15 rfl hl (by decide) rfl (fun ls hl => ?_)
    have L16 : ∀ (fu : Nat) (i : Nat) (ls : Array Slot), (i ≤ n) → (∀ j, j < i → a j + b j ≤ 1000000) → n - i < fu → lv_has ls 3 [(2, .int (nI i)), (0, .ref (ad k)), (1, .ref (ad k2))] → W p l e zr1 s m ([.ref (ad k), .ref (ad k2)] : List Value).toArray below meth c s.heap [] 0 0 Q (F0 m 16 ls []) := by
      intro fu
      induction fu with
      | zero =>
        intro i  ls i1 i2 hm
        exact absurd hm (Nat.not_lt_zero _)
      | succ fu ih =>
        have ih16 := ih; clear ih
        intro i  ls i1 i2 hm16  hl
        have hq1 := hab i
        have hq2 := hbb i
        refine lv_iload_n hx hb dX3_addRow_16 rfl (lv_at hl 0 rfl) ?_
        refine lv_aload_n hx hb dX3_addRow_17 rfl (lv_at hl 1 rfl) ?_
        refine rp_get C0 FX hH k (by omega) (ci := 3) (k := 0) fk rfl kiX3 (by decide) kf21 rfl dX3_addRow_18 ?_
        refine ni_cge hx hb 51 dX3_addRow_21 (by decide) (by omega) (by omega) (fun c21 => ?_) (fun c21 => ?_)
        · have hFC : ∀ j, j < n → a j + b j ≤ 1000000 := fun j hj => i2 j (by omega)
          refine lv_iconst (v := nI 0) hx hb dX3_addRow_51 (by decide) ?_
          refine lv_istore_n (lv' := [(2, .int (nI 0)), (0, .ref (ad k)), (1, .ref (ad k2))]) hx hb dX3_addRow_52 rfl hl (by decide) rfl (fun ls hl => ?_)
          have L53 : ∀ (fu : Nat) (i : Nat) (x9 : Nat → Nat) (g1 : PF) (H : Heap) (locs : List Loc) (ls : Array Slot), (i ≤ n) → (∀ j, i ≤ j → j < n → x9 j = a j) → (∀ j, j < i → x9 j = a j + b j) → n - i < fu → WH X 48 ad (pA 48 ad s.heap.size) s g1 H locs → g1 k = .inr (3, [.int (nI n), .ref (ad (k + 1))]) → g1 (k + 1) = arr X 400 x9 → g1 k2 = .inr (3, [.int (nI n2), .ref (ad (k2 + 1))]) → g1 (k2 + 1) = arr X 400 y → (∀ j, j ≠ k → j ≠ (k + 1) → g1 j = g j) → lv_has ls 3 [(2, .int (nI i)), (0, .ref (ad k)), (1, .ref (ad k2))] → W p l e zr1 s m ([.ref (ad k), .ref (ad k2)] : List Value).toArray below meth c H locs 0 0 Q (F0 m 53 ls []) := by
            intro fu
            induction fu with
            | zero =>
              intro i x9 g1 H locs ls j1 j5 j6 hm
              exact absurd hm (Nat.not_lt_zero _)
            | succ fu ih =>
              have ih53 := ih; clear ih
              intro i x9 g1 H locs ls j1 j5 j6 hm53 hH fk fc fk2 fc2 fr hl
              refine lv_iload_n hx hb dX3_addRow_53 rfl (lv_at hl 0 rfl) ?_
              refine lv_aload_n hx hb dX3_addRow_54 rfl (lv_at hl 1 rfl) ?_
              refine rp_get C0 FX hH k (by omega) (ci := 3) (k := 0) fk rfl kiX3 (by decide) kf21 rfl dX3_addRow_55 ?_
              refine ni_cge hx hb 82 dX3_addRow_58 (by decide) (by omega) (by omega) (fun c58 => ?_) (fun c58 => ?_)
              · refine lv_aload_n hx hb dX3_addRow_82 rfl (lv_at hl 1 rfl) ?_
                refine rp_get C0 FX hH k (by omega) (ci := 3) (k := 0) fk rfl kiX3 (by decide) kf21 rfl dX3_addRow_83 ?_
                refine RET _ _ _ _ _ _ dX3_addRow_86 rfl ?_ hH
                exact post3 (by unfold sp_join; rw [if_pos c8, if_pos hFC]) ⟨x9, fk, fc, fun j hj => j6 j (by omega), hn, hFC⟩ fr
              · refine lv_aload_n hx hb dX3_addRow_61 rfl (lv_at hl 1 rfl) ?_
                refine rp_get C0 FX hH k (by omega) (ci := 3) (k := 1) fk rfl kiX3 (by decide) kf11 rfl dX3_addRow_62 ?_
                refine lv_iload_n hx hb dX3_addRow_65 rfl (lv_at hl 0 rfl) ?_
                refine lv_dup2_11 hx hb dX3_addRow_66 rfl rfl ?_
                refine rp_iald C0 FX hH (k + 1) (by omega) (v := a i) fc i (by omega) (by decide) (j5 _ (by omega) (by omega)) dX3_addRow_67 ?_
                refine lv_aload_n hx hb dX3_addRow_68 rfl (lv_at hl 2 rfl) ?_
                refine rp_get C0 FX hH k2 (by omega) (ci := 3) (k := 1) fk2 rfl kiX3 (by decide) kf11 rfl dX3_addRow_69 ?_
                refine lv_iload_n hx hb dX3_addRow_72 rfl (lv_at hl 0 rfl) ?_
                refine rp_iald C0 FX hH (k2 + 1) (by omega) (v := b i) fc2 i (by omega) (by decide) (hyb _ (by omega)) dX3_addRow_73 ?_
                refine ni_iadd hx hb dX3_addRow_74 ?_
                refine rp_iast C0 FX hH (k + 1) (by omega) fc i ((a i) + (b i)) (by omega) (by decide) dX3_addRow_75 (fun g2 H locs eq3 nq3 hH => ?_)
                have fc : g2 (k + 1) = arr X 400 (va_up x9 i ((a i) + (b i))) := eq3
                have fk : g2 k = .inr (3, [.int (nI n), .ref (ad (k + 1))]) := (nq3 _ (by omega)).trans fk
                have fk2 : g2 k2 = .inr (3, [.int (nI n2), .ref (ad (k2 + 1))]) := (nq3 _ (by omega)).trans fk2
                have fc2 : g2 (k2 + 1) = arr X 400 y := (nq3 _ (by omega)).trans fc2
                have fr : ∀ j, j ≠ k → j ≠ (k + 1) → g2 j = g j := fun j a0 a1 => (nq3 j (by omega)).trans (fr j a0 a1)
                refine lv_iinc (v := nI (i + 1)) (lv' := [(2, .int (nI (i + 1))), (0, .ref (ad k)), (1, .ref (ad k2))]) hx hb dX3_addRow_76 hl (k := 0) rfl (ni_inc1 _) (by decide) rfl (fun ls hl => ?_)
                refine lv_goto (tgt := 53) hx hb dX3_addRow_79 (by decide) ?_
                exact ih53 (i + 1) (va_up x9 i ((a i) + (b i))) _ _ _ ls (by omega) (up_ge j5 (by omega) (by omega)) (fun j h => by by_cases q : j = i; subst q; rw [va_up_self]; rw [va_up_ne _ _ q]; exact j6 j (by omega)) (by omega) hH fk fc fk2 fc2 fr (lv_sub hl [0, 1, 2] rfl)
          exact L53 ((n - 0) + 1) 0 x _ _ _ ls (by omega) (fun j _ h => hxa j h) (fun j h => absurd h (Nat.not_lt_zero _)) (Nat.lt_succ_self _) hH fk fc fk2 fc2 fr (lv_sub hl [0, 1, 2] rfl)
        · refine lv_aload_n hx hb dX3_addRow_24 rfl (lv_at hl 1 rfl) ?_
          refine rp_get C0 FX hH k (by omega) (ci := 3) (k := 1) fk rfl kiX3 (by decide) kf11 rfl dX3_addRow_25 ?_
          refine lv_iload_n hx hb dX3_addRow_28 rfl (lv_at hl 0 rfl) ?_
          refine rp_iald C0 FX hH (k + 1) (by omega) (v := a i) fc i (by omega) (by decide) (hxa _ (by omega)) dX3_addRow_29 ?_
          refine lv_aload_n hx hb dX3_addRow_30 rfl (lv_at hl 2 rfl) ?_
          refine rp_get C0 FX hH k2 (by omega) (ci := 3) (k := 1) fk2 rfl kiX3 (by decide) kf11 rfl dX3_addRow_31 ?_
          refine lv_iload_n hx hb dX3_addRow_34 rfl (lv_at hl 0 rfl) ?_
          refine rp_iald C0 FX hH (k2 + 1) (by omega) (v := b i) fc2 i (by omega) (by decide) (hyb _ (by omega)) dX3_addRow_35 ?_
          refine ni_iadd hx hb dX3_addRow_36 ?_
          refine lv_ldc hx hb C0.2.2.2.1 kc32 dX3_addRow_37 ?_
          refine ni_cle hx hb 45 dX3_addRow_39 (by decide) (by have := hq1 c21; have := hq2 (by omega); omega) (by omega) (fun c39 => ?_) (fun c39 => ?_)
          · refine lv_iinc (v := nI (i + 1)) (lv' := [(2, .int (nI (i + 1))), (0, .ref (ad k)), (1, .ref (ad k2))]) hx hb dX3_addRow_45 hl (k := 0) rfl (ni_inc1 _) (by decide) rfl (fun ls hl => ?_)
            refine lv_goto (tgt := 16) hx hb dX3_addRow_48 (by decide) ?_
            exact ih16 (i + 1) ls (by omega) (fun j h => by rcases Nat.lt_succ_iff_lt_or_eq.mp h with q | q; exact i2 j q; subst q; exact c39) (by omega) (lv_sub hl [0, 1, 2] rfl)
          · refine lv_bipush (v := (-6)) hx hb dX3_addRow_42 (by decide) ?_
            refine RET _ _ _ _ _ _ dX3_addRow_44 rfl ?_ hH
            exact post3 (by unfold sp_join; rw [if_pos c8, if_neg (fun z => by have := z i c21; omega)]) ⟨x, fk, fc, hxa, hn, hab⟩ fr
    exact L16 ((n - 0) + 1) 0 ls (by omega) (fun j h => absurd h (Nat.not_lt_zero _)) (Nat.lt_succ_self _) (lv_sub hl [0, 1, 2] rfl)
  · refine lv_bipush (v := (-3)) hx hb dX3_addRow_11 (by decide) ?_
    refine RET _ _ _ _ _ _ dX3_addRow_13 rfl ?_ hH
    exact post3 (by unfold sp_join; rw [if_neg c8]) ⟨x, fk, fc, hxa, hn, hab⟩ fr
