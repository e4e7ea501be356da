set_option maxHeartbeats 4000000 in
set_option maxRecDepth 100000 in
theorem law_body {p : Program} {l : Launch} {e : Env} {s : State} {m : MethodId} {below : List Frame} {meth : Method} {c : Code} {Q : State → Prop} {b L k : Nat} {xs : Nat → Int32} {X : Cx} {ad : Nat → Nat} {ls : Array Slot} (F : LawFix p s m c b L xs X ad) (hk : k + 6 ≤ L) (hl : lv_has ls 4 [(0, .ref b), (1, .ref (ad 0)), (2, .ref (ad 36)), (3, .int (nI k))]) (KK : ∀ (C : ClS) (g : PF) (H : Heap) (locs : List Loc), LawInv X ad s C g H locs → W p l e room_1 s m #[Value.ref b] below meth c H locs 48 7025 Q (F0 m 1082 ls [])) (C : ClS) (g : PF) (H : Heap) (locs : List Loc) (hI : LawInv X ad s C g H locs) : ∀ j, j < 32 → W p l e room_1 s m #[Value.ref b] below meth c H locs 48 7025 Q (F0 m 33 ls [.int (nI j)]) := by
  have hx := F.1.1
  have hb := F.1.2.1
  intro j hj
  by_cases c27 : 27 ≤ j
  · exact lv_tableOut (tgt := 1082) hx hb dL_law_33 (Or.inr (by rw [nI_toInt (by omega)]; omega)) (by decide) (KK _ _ _ _ hI)
  · rcases (show j = 0 ∨ j = 1 ∨ j = 2 ∨ j = 3 ∨ j = 4 ∨ j = 5 ∨ j = 6 ∨ j = 7 ∨ j = 8 ∨ j = 9 ∨ j = 10 ∨ j = 11 ∨ j = 12 ∨ j = 13 ∨ j = 14 ∨ j = 15 ∨ j = 16 ∨ j = 17 ∨ j = 18 ∨ j = 19 ∨ j = 20 ∨ j = 21 ∨ j = 22 ∨ j = 23 ∨ j = 24 ∨ j = 25 ∨ j = 26 by omega) with rfl | rfl | rfl | rfl | rfl | rfl | rfl | rfl | rfl | rfl | rfl | rfl | rfl | rfl | rfl | rfl | rfl | rfl | rfl | rfl | rfl | rfl | rfl | rfl | rfl | rfl | rfl
    · exact lv_tableIn (tgt := 156) hx hb dL_law_33 (by decide) (by decide) (off := 123) (by decide) (by decide) (law_c0 F hk hl KK _ _ _ _ hI)
    · exact lv_tableIn (tgt := 189) hx hb dL_law_33 (by decide) (by decide) (off := 156) (by decide) (by decide) (law_c1 F hk hl KK _ _ _ _ hI)
    · exact lv_tableIn (tgt := 242) hx hb dL_law_33 (by decide) (by decide) (off := 209) (by decide) (by decide) (law_c2 F hk hl KK _ _ _ _ hI)
    · exact lv_tableIn (tgt := 275) hx hb dL_law_33 (by decide) (by decide) (off := 242) (by decide) (by decide) (law_c3 F hk hl KK _ _ _ _ hI)
    · exact lv_tableIn (tgt := 288) hx hb dL_law_33 (by decide) (by decide) (off := 255) (by decide) (by decide) (law_c4 F hk hl KK _ _ _ _ hI)
    · exact lv_tableIn (tgt := 322) hx hb dL_law_33 (by decide) (by decide) (off := 289) (by decide) (by decide) (law_c5 F hk hl KK _ _ _ _ hI)
    · exact lv_tableIn (tgt := 366) hx hb dL_law_33 (by decide) (by decide) (off := 333) (by decide) (by decide) (law_c6 F hk hl KK _ _ _ _ hI)
    · exact lv_tableIn (tgt := 409) hx hb dL_law_33 (by decide) (by decide) (off := 376) (by decide) (by decide) (law_c7 F hk hl KK _ _ _ _ hI)
    · exact lv_tableIn (tgt := 442) hx hb dL_law_33 (by decide) (by decide) (off := 409) (by decide) (by decide) (law_c8 F hk hl KK _ _ _ _ hI)
    · exact lv_tableIn (tgt := 505) hx hb dL_law_33 (by decide) (by decide) (off := 472) (by decide) (by decide) (law_c9 F hk hl KK _ _ _ _ hI)
    · exact lv_tableIn (tgt := 528) hx hb dL_law_33 (by decide) (by decide) (off := 495) (by decide) (by decide) (law_c10 F hk hl KK _ _ _ _ hI)
    · exact lv_tableIn (tgt := 561) hx hb dL_law_33 (by decide) (by decide) (off := 528) (by decide) (by decide) (law_c11 F hk hl KK _ _ _ _ hI)
    · exact lv_tableIn (tgt := 594) hx hb dL_law_33 (by decide) (by decide) (off := 561) (by decide) (by decide) (law_c12 F hk hl KK _ _ _ _ hI)
    · exact lv_tableIn (tgt := 627) hx hb dL_law_33 (by decide) (by decide) (off := 594) (by decide) (by decide) (law_c13 F hk hl KK _ _ _ _ hI)
    · exact lv_tableIn (tgt := 660) hx hb dL_law_33 (by decide) (by decide) (off := 627) (by decide) (by decide) (law_c14 F hk hl KK _ _ _ _ hI)
    · exact lv_tableIn (tgt := 703) hx hb dL_law_33 (by decide) (by decide) (off := 670) (by decide) (by decide) (law_c15 F hk hl KK _ _ _ _ hI)
    · exact lv_tableIn (tgt := 737) hx hb dL_law_33 (by decide) (by decide) (off := 704) (by decide) (by decide) (law_c16 F hk hl KK _ _ _ _ hI)
    · exact lv_tableIn (tgt := 771) hx hb dL_law_33 (by decide) (by decide) (off := 738) (by decide) (by decide) (law_c17 F hk hl KK _ _ _ _ hI)
    · exact lv_tableIn (tgt := 804) hx hb dL_law_33 (by decide) (by decide) (off := 771) (by decide) (by decide) (law_c18 F hk hl KK _ _ _ _ hI)
    · exact lv_tableIn (tgt := 867) hx hb dL_law_33 (by decide) (by decide) (off := 834) (by decide) (by decide) (law_c19 F hk hl KK _ _ _ _ hI)
    · exact lv_tableIn (tgt := 920) hx hb dL_law_33 (by decide) (by decide) (off := 887) (by decide) (by decide) (law_c20 F hk hl KK _ _ _ _ hI)
    · exact lv_tableIn (tgt := 943) hx hb dL_law_33 (by decide) (by decide) (off := 910) (by decide) (by decide) (law_c21 F hk hl KK _ _ _ _ hI)
    · exact lv_tableIn (tgt := 956) hx hb dL_law_33 (by decide) (by decide) (off := 923) (by decide) (by decide) (law_c22 F hk hl KK _ _ _ _ hI)
    · exact lv_tableIn (tgt := 999) hx hb dL_law_33 (by decide) (by decide) (off := 966) (by decide) (by decide) (law_c23 F hk hl KK _ _ _ _ hI)
    · exact lv_tableIn (tgt := 1032) hx hb dL_law_33 (by decide) (by decide) (off := 999) (by decide) (by decide) (law_c24 F hk hl KK _ _ _ _ hI)
    · exact lv_tableIn (tgt := 1045) hx hb dL_law_33 (by decide) (by decide) (off := 1012) (by decide) (by decide) (law_c25 F hk hl KK _ _ _ _ hI)
    · exact lv_tableIn (tgt := 1068) hx hb dL_law_33 (by decide) (by decide) (off := 1035) (by decide) (by decide) (law_c26 F hk hl KK _ _ _ _ hI)
set_option maxHeartbeats 4000000 in
set_option maxRecDepth 100000 in
theorem law_loop {p : Program} {l : Launch} {e : Env} {s : State} {m : MethodId} {below : List Frame} {meth : Method} {c : Code} {b L : Nat} {xs : Nat → Int32} {X : Cx} {ad : Nat → Nat} (F : LawFix p s m c b L xs X ad) (hr : meth.sig.returnType = ret) (hlocks : meth.locks = false) : ∀ (n k : Nat), L + 6 ≤ k + 6 * n → k ≤ L → ∀ (C : ClS) (g : PF) (H : Heap) (locs : List Loc), LawInv X ad s C g H locs → ∀ ls : Array Slot, lv_has ls 4 [(0, .ref b), (1, .ref (ad 0)), (2, .ref (ad 36)), (3, .int (nI k))] → W p l e room_1 s m #[Value.ref b] below meth c H locs 48 7025 (lw_Z below #[Value.ref b] s) (F0 m 18 ls []) := by
  obtain ⟨C0, FX, hX, hbl, hL⟩ := id F
  obtain ⟨hx, hb, hml, hown, hts⟩ := id C0
  have hbA : ¬ (fun q : Nat => s.heap.size ≤ q) b := Nat.not_le.mpr hbl
  intro n
  induction n with
  | zero =>
    intro k h1 h2
    exact absurd h1 (by omega)
  | succ n ih =>
    intro k hkn hkL C g H locs hI ls hl
    have hH := hI.2.2
    refine lv_iload_n hx hb dL_law_18 rfl (lv_at hl 3 rfl) ?_
    refine lv_aload_n hx hb dL_law_19 rfl (lv_at hl 0 rfl) ?_
    refine va_slen hx hb hX hbl hbA hH.2 dL_law_20 ?_
    refine lv_bipush (v := nI 6) hx hb dL_law_21 (by decide) ?_
    refine lv_isub hx hb dL_law_23 ?_
    refine lv_icmp_gt (tgt := 1088) hx hb dL_law_24 (by decide) (fun c1 => ?_) (fun c1 => ?_)
    · refine lv_iconst (v := 1) hx hb dL_law_1088 (by decide) ?_
      refine va_forget (fun q hq => hH.2.2.2 q hq) ?_
      refine W.widen (k := 600000) (n := 7302250) (Nat.le_of_ble_eq_true rfl) (Nat.le_of_ble_eq_true rfl) ?_
      exact lw_ret hx hb hr hlocks dL_law_1089
    · have hk6 : k + 6 ≤ L := Nat.le_of_not_lt (fun h => c1 ((law_cmp (by omega) hL).mpr h))
      refine lv_aload_n hx hb dL_law_27 rfl (lv_at hl 0 rfl) ?_
      refine lv_iload_n hx hb dL_law_28 rfl (lv_at hl 3 rfl) ?_
      refine va_sld hx hb hX hbl hbA hH.2 (vp_in_nI (by omega) (by omega)) dL_law_29 ?_
      refine lv_bipush (v := 31) hx hb dL_law_30 (by decide) ?_
      refine lv_iand hx hb dL_law_32 ?_
      obtain ⟨j, hj, ej⟩ := pk_andE (xs (nI k).toNatClampNeg) (m := 31) 5 (by decide)
      rw [ej]
      refine law_body F hk6 hl (fun C g H locs hI => ?_) C g H locs hI j hj
      refine lv_iinc (v := nI (k + 6)) (lv' := [(3, .int (nI (k + 6))), (0, .ref b), (1, .ref (ad 0)), (2, .ref (ad 36))]) hx hb dL_law_1082 hl (k := 3) rfl (nI_add k 6) (by decide) rfl (fun ls hl => ?_)
      refine lv_goto (tgt := 18) hx hb dL_law_1085 (by decide) ?_
      exact ih (k + 6) (by omega) hk6 C g H locs hI ls (lv_sub hl [1, 2, 3, 0] rfl)
