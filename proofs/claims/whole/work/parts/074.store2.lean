set_option maxHeartbeats 4000000 in
set_option maxRecDepth 100000 in
theorem k_sr (l : Launch) (X : Cx) (ad : Nat → Nat) (hi : inj 48 ad) (sz n : Nat) (num : Nat → Nat) (lo hh : Nat) (hsz : sz ≤ 12) (hn1 : 1 ≤ n) (hn6 : n ≤ 6) (hnum : ∀ j, j < sz → num j ≤ 10000) (hlo : lo ≤ 60000) (hhh : hh ≤ 60000) : ∀ d : Nat, (∀ (g : PF) (lay t : Nat) (hn od ho : Nat → Nat) (pos u : Nat) (f33 : g 33 = .inr (4, [.int (nI sz), .int (nI lay), .int (nI t), .int (nI n), .int (nI lo), .int (nI hh), .int (nI 0), .ref (ad 34), .ref (ad 35)])) (f34 : g 34 = arr X 12 hn) (f35 : g 35 = arr X 12 ho) (hnn : ∀ j, j < sz → hn j = num j) (hoo : ∀ j, j < pos → ho j = od j) (ht : t ≤ 100000) (hod : ∀ j, j < pos → od j < sz) (hmk : msk sz od pos u) (hp1 : pos ≤ sz) (hdv : ∃ q, sz = pos + n * q) (hd : 2 * (sz - pos) + 1 ≤ d), Ki l yX4_openLaydown wsX4_openLaydown (zrS d) X 48 ad g [.ref (ad 33), .int (nI pos), .int (nI u)] (srP X ad sz n lo hh lay pos od (sr sz n num lo hh d 0 pos 0 0 t od) g)) ∧ (∀ (g : PF) (lay t : Nat) (hn od ho : Nat → Nat) (pos room u su : Nat) (f33 : g 33 = .inr (4, [.int (nI sz), .int (nI lay), .int (nI t), .int (nI n), .int (nI lo), .int (nI hh), .int (nI 0), .ref (ad 34), .ref (ad 35)])) (f34 : g 34 = arr X 12 hn) (f35 : g 35 = arr X 12 ho) (hnn : ∀ j, j < sz → hn j = num j) (hoo : ∀ j, j < pos → ho j = od j) (ht : t ≤ 100000) (hod : ∀ j, j < pos → od j < sz) (hmk : msk sz od pos u) (hp1 : 1 ≤ pos) (hp2 : pos + room ≤ sz) (hdv : ∃ q, sz = pos + room + n * q) (hsu : su ≤ 10000 * pos) (hd : 2 * (sz - pos) + 2 ≤ d), Ki l yX4_fillLaydown wsX4_fillLaydown (zrS d) X 48 ad g [.ref (ad 33), .int (nI pos), .int (nI room), .int (nI u), .int (nI su)] (srP X ad sz n lo hh lay pos od (sr sz n num lo hh d 1 pos room su t od) g)) := by
  intro d
  induction d with
  | zero => exact ⟨fun g lay t hn od ho pos u f33 f34 f35 hnn hoo ht hod hmk hp1 hdv hd => absurd hd (by omega), fun g lay t hn od ho pos room u su f33 f34 f35 hnn hoo ht hod hmk hp1 hp2 hdv hsu hd => absurd hd (by omega)⟩
  | succ d ih =>
  refine ⟨?_, ?_⟩
  · intro g lay t hn od ho pos u f33 f34 f35 hnn hoo ht hod hmk hp1 hdv hd
    refine Ki.of (cc := cX4_openLaydown) (maxL := 4) hi (by decide) rfl (Nat.le_of_ble_eq_true rfl) ?_
    intro p e s m below meth c Q E RET ls hl
    have hq9 : pos < sz → pos + n ≤ sz := fun z => by
      obtain ⟨q, hq⟩ := hdv
      rcases Nat.eq_zero_or_pos q with z2 | z2
      · rw [z2, Nat.mul_zero] at hq; omega
      · have := Nat.le_mul_of_pos_right n z2; omega
    have hq8 : pos < sz → ∃ q, sz = pos + 1 + (n - 1) + n * q := fun z => by
      obtain ⟨q, hq⟩ := hdv
      rcases Nat.eq_zero_or_pos q with z2 | z2
      · rw [z2, Nat.mul_zero] at hq; omega
      · obtain ⟨q2, rfl⟩ : ∃ q2, q = q2 + 1 := ⟨q - 1, by omega⟩
        rw [Nat.mul_succ] at hq
        exact ⟨q2, by omega⟩
    obtain ⟨C0, FX, hH⟩ := E
    have hx := C0.1
    have hb := C0.2.1
    have kiX4 : ∀ w ∈ u_ws RX4 TX4 9, w ∈ wsX4_openLaydown := (by decide +kernel)
    have kf15 : Cond.fieldLink RX4 15 "YarnMill$Store" "numbers" "[I" ∈ wsX4_openLaydown := (by decide +kernel)
    have kf19 : Cond.fieldLink RX4 19 "YarnMill$Store" "order" "[I" ∈ wsX4_openLaydown := (by decide +kernel)
    have kf28 : Cond.fieldLink RX4 28 "YarnMill$Store" "size" "I" ∈ wsX4_openLaydown := (by decide +kernel)
    have kf9 : Cond.fieldLink RX4 9 "YarnMill$Store" "each" "I" ∈ wsX4_openLaydown := (by decide +kernel)
    have hl : lv_has ls 4 [(0, .ref (ad 33)), (1, .int (nI pos)), (2, .int (nI u))] := hl
    have fr : ∀ j, j ≠ 33 → j ≠ 35 → g j = g j := fun j _ _ => rfl
    refine lv_iload_n hx hb dX4_openLaydown_0 rfl (lv_at hl 1 rfl) ?_
    refine lv_aload_n hx hb dX4_openLaydown_1 rfl (lv_at hl 0 rfl) ?_
    refine rp_get C0 FX hH 33 (by decide) (ci := 4) (k := 0) f33 rfl kiX4 (by decide) kf28 rfl dX4_openLaydown_2 ?_
    refine ni_clt hx hb 10 dX4_openLaydown_5 (by decide) (by omega) (by omega) (fun c5 => ?_) (fun c5 => ?_)
    · refine lv_iconst (v := nI 0) hx hb dX4_openLaydown_10 (by decide) ?_
      refine lv_istore_n (lv' := [(3, .int (nI 0)), (0, .ref (ad 33)), (1, .int (nI pos)), (2, .int (nI u))]) hx hb dX4_openLaydown_11 rfl hl (by decide) rfl (fun ls hl => ?_)
      have L12 : ∀ (fu : Nat) (f9 : Nat) (ls : Array Slot), (f9 ≤ sz - 1) → (lfr od pos (sz - 1 - f9) f9 = lfr od pos (sz - 1) 0) → sz - f9 < fu → lv_has ls 4 [(3, .int (nI f9)), (0, .ref (ad 33)), (1, .int (nI pos)), (2, .int (nI u))] → W p l e (zrS (d + 1)) s m ([.ref (ad 33), .int (nI pos), .int (nI u)] : List Value).toArray below meth c s.heap [] 0 0 Q (F0 m 12 ls []) := by
        intro fu
        induction fu with
        | zero =>
          intro f9  ls i1 i2 hm
          exact absurd hm (Nat.not_lt_zero _)
        | succ fu ih =>
          have ih12 := ih; clear ih
          intro f9  ls i1 i2 hm12  hl
          refine lv_iload_n hx hb dX4_openLaydown_12 rfl (lv_at hl 0 rfl) ?_
          refine lv_aload_n hx hb dX4_openLaydown_13 rfl (lv_at hl 1 rfl) ?_
          refine rp_get C0 FX hH 33 (by decide) (ci := 4) (k := 0) f33 rfl kiX4 (by decide) kf28 rfl dX4_openLaydown_14 ?_
          refine lv_iconst (v := nI 1) hx hb dX4_openLaydown_17 (by decide) ?_
          refine ni_isub hx hb (by omega) dX4_openLaydown_18 ?_
          refine ni_cge hx hb 36 dX4_openLaydown_19 (by decide) (by omega) (by omega) (fun c19 => ?_) (fun c19 => ?_)
          · have hf9 : lfr od pos (sz - 1) 0 = f9 := by rw [← i2, show sz - 1 - f9 = 0 by omega]; rfl
            refine lv_aload_n hx hb dX4_openLaydown_36 rfl (lv_at hl 1 rfl) ?_
            refine rp_get C0 FX hH 33 (by decide) (ci := 4) (k := 8) f33 rfl kiX4 (by decide) kf19 rfl dX4_openLaydown_37 ?_
            refine lv_iload_n hx hb dX4_openLaydown_40 rfl (lv_at hl 2 rfl) ?_
            refine lv_iload_n hx hb dX4_openLaydown_41 rfl (lv_at hl 0 rfl) ?_
            refine rp_iast C0 FX hH 35 (by decide) f35 pos f9 (by omega) (by decide) dX4_openLaydown_42 (fun g1 H locs eq2 nq2 hH => ?_)
            have f35 : g1 35 = arr X 12 (va_up ho pos f9) := eq2
            have f33 : g1 33 = .inr (4, [.int (nI sz), .int (nI lay), .int (nI t), .int (nI n), .int (nI lo), .int (nI hh), .int (nI 0), .ref (ad 34), .ref (ad 35)]) := (nq2 _ (by omega)).trans f33
            have f34 : g1 34 = arr X 12 hn := (nq2 _ (by omega)).trans f34
            have fr : ∀ j, j ≠ 33 → j ≠ 35 → g1 j = g j := fun j a0 a1 => (nq2 j (by omega)).trans (fr j a0 a1)
            refine lv_aload_n hx hb dX4_openLaydown_43 rfl (lv_at hl 1 rfl) ?_
            refine lv_iload_n hx hb dX4_openLaydown_44 rfl (lv_at hl 2 rfl) ?_
            refine lv_iconst (v := nI 1) hx hb dX4_openLaydown_45 (by decide) ?_
            refine ni_iadd hx hb dX4_openLaydown_46 ?_
            refine lv_aload_n hx hb dX4_openLaydown_47 rfl (lv_at hl 1 rfl) ?_
            refine rp_get C0 FX hH 33 (by decide) (ci := 4) (k := 3) f33 rfl kiX4 (by decide) kf9 rfl dX4_openLaydown_48 ?_
            refine lv_iconst (v := nI 1) hx hb dX4_openLaydown_51 (by decide) ?_
            refine ni_isub hx hb (by omega) dX4_openLaydown_52 ?_
            refine lv_iload_n hx hb dX4_openLaydown_53 rfl (lv_at hl 3 rfl) ?_
            refine lv_iconst (v := nI 1) hx hb dX4_openLaydown_54 (by decide) ?_
            refine lv_iload_n hx hb dX4_openLaydown_55 rfl (lv_at hl 0 rfl) ?_
            refine lv_ishl hx hb dX4_openLaydown_56 ?_
            refine lv_ior hx hb dX4_openLaydown_57 ?_
            rw [(bt_set hmk.1 (by omega)).1]
            refine lv_aload_n hx hb dX4_openLaydown_58 rfl (lv_at hl 1 rfl) ?_
            refine rp_get C0 FX hH 33 (by decide) (ci := 4) (k := 7) f33 rfl kiX4 (by decide) kf15 rfl dX4_openLaydown_59 ?_
            refine lv_iload_n hx hb dX4_openLaydown_62 rfl (lv_at hl 0 rfl) ?_
            refine rp_iald C0 FX hH 34 (by decide) (v := num f9) f34 f9 (by omega) (by decide) (hnn _ (by omega)) dX4_openLaydown_63 ?_
            refine rc_Vi (rest := []) C0 FX hH 33 (by decide) f33 rfl (ih.2 _ lay t hn (va_up od pos f9) (va_up ho pos f9) (pos + 1) (n - 1) (u ||| 2 ^ f9) (num f9) f33 f34 f35 hnn (up_lt hoo) (by omega) (fun j hj => by by_cases q : j = pos; rw [q, va_up_self]; omega; rw [va_up_ne _ _ q]; exact hod j (by omega)) (msk_up hsz hmk (by omega) (fun _ _ => rfl)) (by omega) (by omega) (hq8 c5) (by have := hnum f9 (by omega); omega) (by omega)) (cwV 4 C0.2.2.2.2 gX4_openLaydown_X4_fillLaydown rfl rfl rfl (by decide +kernel) ⟨by show d + 20 + 1 ≤ d + 1 + 20; omega, by show 8 + (6 + 11) + (30 * d + 300) ≤ 30 * (d + 1) + 300; omega⟩) rfl rfl hl.1 (Nat.le_of_ble_eq_true rfl) dX4_openLaydown_64 ⟨Nat.le_of_ble_eq_true rfl, Nat.le_of_ble_eq_true rfl⟩ (fun r64 g64c H locs h64 hH => ?_)
            generalize hO64 : sr sz n num lo hh d 1 (pos + 1) (n - 1) (num f9) t (va_up od pos f9) = o64 at h64
            obtain ⟨rfl, ⟨ho64, e33, e35, w1_64, w2_64⟩, n64⟩ := h64
            have f33 : g64c 33 = .inr (4, [.int (nI sz), .int (nI lay), .int (nI (o64.2.1)), .int (nI n), .int (nI lo), .int (nI hh), .int (nI (if o64.1 = 2 then 1 else 0)), .ref (ad 34), .ref (ad 35)]) := e33
            have f35 : g64c 35 = arr X 12 ho64 := e35
            have f34 : g64c 34 = arr X 12 hn := (n64 _ (by decide) (by decide)).trans f34
            have fr : ∀ j, j ≠ 33 → j ≠ 35 → g64c j = g j := fun j a0 a1 => (n64 j a0 a1).trans (fr j a0 a1)
            refine RET _ _ _ _ _ _ dX4_openLaydown_67 bI_nar ?_ hH
            have hO : sr sz n num lo hh (d + 1) 0 pos 0 0 t od = o64 := by rw [← hO64, ← hf9]; exact if_pos c5
            rw [hO]
            exact ⟨rfl, ⟨ho64, f33, f35, fun j hj => by rw [w1_64 j (by omega), va_up_ne _ _ (by omega)], w2_64⟩, fr⟩
          · refine lv_iload_n hx hb dX4_openLaydown_22 rfl (lv_at hl 3 rfl) ?_
            refine lv_iload_n hx hb dX4_openLaydown_23 rfl (lv_at hl 0 rfl) ?_
            refine lv_ishr hx hb dX4_openLaydown_24 ?_
            refine lv_iconst (v := nI 1) hx hb dX4_openLaydown_25 (by decide) ?_
            refine lv_iand hx hb dX4_openLaydown_26 ?_
            refine lv_if_eq (tgt := 36) hx hb dX4_openLaydown_27 (by decide) (fun c27 => ?_) (fun c27 => ?_)
            · have hfr := (hmk.2 f9 (by omega)).mp ((bt_zero hmk.1 (by omega)).mp c27)
              have hf9 : lfr od pos (sz - 1) 0 = f9 := by rw [← i2, show sz - 1 - f9 = (sz - 2 - f9) + 1 by omega]; show (if fre od pos f9 then _ else _) = _; rw [if_pos hfr]
              refine lv_aload_n hx hb dX4_openLaydown_36 rfl (lv_at hl 1 rfl) ?_
              refine rp_get C0 FX hH 33 (by decide) (ci := 4) (k := 8) f33 rfl kiX4 (by decide) kf19 rfl dX4_openLaydown_37 ?_
              refine lv_iload_n hx hb dX4_openLaydown_40 rfl (lv_at hl 2 rfl) ?_
              refine lv_iload_n hx hb dX4_openLaydown_41 rfl (lv_at hl 0 rfl) ?_
              refine rp_iast C0 FX hH 35 (by decide) f35 pos f9 (by omega) (by decide) dX4_openLaydown_42 (fun g3 H locs eq4 nq4 hH => ?_)
              have f35 : g3 35 = arr X 12 (va_up ho pos f9) := eq4
              have f33 : g3 33 = .inr (4, [.int (nI sz), .int (nI lay), .int (nI t), .int (nI n), .int (nI lo), .int (nI hh), .int (nI 0), .ref (ad 34), .ref (ad 35)]) := (nq4 _ (by omega)).trans f33
              have f34 : g3 34 = arr X 12 hn := (nq4 _ (by omega)).trans f34
              have fr : ∀ j, j ≠ 33 → j ≠ 35 → g3 j = g j := fun j a0 a1 => (nq4 j (by omega)).trans (fr j a0 a1)
              refine lv_aload_n hx hb dX4_openLaydown_43 rfl (lv_at hl 1 rfl) ?_
              refine lv_iload_n hx hb dX4_openLaydown_44 rfl (lv_at hl 2 rfl) ?_
              refine lv_iconst (v := nI 1) hx hb dX4_openLaydown_45 (by decide) ?_
              refine ni_iadd hx hb dX4_openLaydown_46 ?_
              refine lv_aload_n hx hb dX4_openLaydown_47 rfl (lv_at hl 1 rfl) ?_
              refine rp_get C0 FX hH 33 (by decide) (ci := 4) (k := 3) f33 rfl kiX4 (by decide) kf9 rfl dX4_openLaydown_48 ?_
              refine lv_iconst (v := nI 1) hx hb dX4_openLaydown_51 (by decide) ?_
              refine ni_isub hx hb (by omega) dX4_openLaydown_52 ?_
              refine lv_iload_n hx hb dX4_openLaydown_53 rfl (lv_at hl 3 rfl) ?_
              refine lv_iconst (v := nI 1) hx hb dX4_openLaydown_54 (by decide) ?_
              refine lv_iload_n hx hb dX4_openLaydown_55 rfl (lv_at hl 0 rfl) ?_
              refine lv_ishl hx hb dX4_openLaydown_56 ?_
              refine lv_ior hx hb dX4_openLaydown_57 ?_
              rw [(bt_set hmk.1 (by omega)).1]
              refine lv_aload_n hx hb dX4_openLaydown_58 rfl (lv_at hl 1 rfl) ?_
              refine rp_get C0 FX hH 33 (by decide) (ci := 4) (k := 7) f33 rfl kiX4 (by decide) kf15 rfl dX4_openLaydown_59 ?_
              refine lv_iload_n hx hb dX4_openLaydown_62 rfl (lv_at hl 0 rfl) ?_
              refine rp_iald C0 FX hH 34 (by decide) (v := num f9) f34 f9 (by omega) (by decide) (hnn _ (by omega)) dX4_openLaydown_63 ?_
              refine rc_Vi (rest := []) C0 FX hH 33 (by decide) f33 rfl (ih.2 _ lay t hn (va_up od pos f9) (va_up ho pos f9) (pos + 1) (n - 1) (u ||| 2 ^ f9) (num f9) f33 f34 f35 hnn (up_lt hoo) (by omega) (fun j hj => by by_cases q : j = pos; rw [q, va_up_self]; omega; rw [va_up_ne _ _ q]; exact hod j (by omega)) (msk_up hsz hmk (by omega) (fun _ _ => rfl)) (by omega) (by omega) (hq8 c5) (by have := hnum f9 (by omega); omega) (by omega)) (cwV 4 C0.2.2.2.2 gX4_openLaydown_X4_fillLaydown rfl rfl rfl (by decide +kernel) ⟨by show d + 20 + 1 ≤ d + 1 + 20; omega, by show 8 + (6 + 11) + (30 * d + 300) ≤ 30 * (d + 1) + 300; omega⟩) rfl rfl hl.1 (Nat.le_of_ble_eq_true rfl) dX4_openLaydown_64 ⟨Nat.le_of_ble_eq_true rfl, Nat.le_of_ble_eq_true rfl⟩ (fun r64 g64c H locs h64 hH => ?_)
              generalize hO64 : sr sz n num lo hh d 1 (pos + 1) (n - 1) (num f9) t (va_up od pos f9) = o64 at h64
              obtain ⟨rfl, ⟨ho64, e33, e35, w1_64, w2_64⟩, n64⟩ := h64
              have f33 : g64c 33 = .inr (4, [.int (nI sz), .int (nI lay), .int (nI (o64.2.1)), .int (nI n), .int (nI lo), .int (nI hh), .int (nI (if o64.1 = 2 then 1 else 0)), .ref (ad 34), .ref (ad 35)]) := e33
              have f35 : g64c 35 = arr X 12 ho64 := e35
              have f34 : g64c 34 = arr X 12 hn := (n64 _ (by decide) (by decide)).trans f34
              have fr : ∀ j, j ≠ 33 → j ≠ 35 → g64c j = g j := fun j a0 a1 => (n64 j a0 a1).trans (fr j a0 a1)
              refine RET _ _ _ _ _ _ dX4_openLaydown_67 bI_nar ?_ hH
              have hO : sr sz n num lo hh (d + 1) 0 pos 0 0 t od = o64 := by rw [← hO64, ← hf9]; exact if_pos c5
              rw [hO]
              exact ⟨rfl, ⟨ho64, f33, f35, fun j hj => by rw [w1_64 j (by omega), va_up_ne _ _ (by omega)], w2_64⟩, fr⟩
            · have hfr : ¬ fre od pos f9 := fun z => c27 ((bt_zero hmk.1 (by omega)).mpr ((hmk.2 f9 (by omega)).mpr z))
              refine lv_iinc (v := nI (f9 + 1)) (lv' := [(3, .int (nI (f9 + 1))), (0, .ref (ad 33)), (1, .int (nI pos)), (2, .int (nI u))]) hx hb dX4_openLaydown_30 hl (k := 0) rfl (ni_inc1 _) (by decide) rfl (fun ls hl => ?_)
              refine lv_goto (tgt := 12) hx hb dX4_openLaydown_33 (by decide) ?_
              exact ih12 (f9 + 1) ls (by omega) (by rw [← i2, show sz - 1 - f9 = (sz - 1 - (f9 + 1)) + 1 by omega]; show _ = (if fre od pos f9 then _ else _); rw [if_neg hfr]) (by omega) (lv_sub hl [0, 1, 2, 3] rfl)
      exact L12 ((sz - 0) + 1) 0 ls (by omega) (by rfl) (Nat.lt_succ_self _) (lv_sub hl [0, 1, 2, 3] rfl)
    · refine lv_iconst (v := nI 1) hx hb dX4_openLaydown_8 (by decide) ?_
      refine RET _ _ _ _ _ _ dX4_openLaydown_9 (by decide) ?_ hH
      have hO : sr sz n num lo hh (d + 1) 0 pos 0 0 t od = (1, t, od) := if_neg (by omega)
      rw [hO]
      exact ⟨(bI_t rfl).symm, ⟨ho, f33, f35, hoo, fun _ j hj => hoo j (by omega)⟩, fr⟩
  · intro g lay t hn od ho pos room u su f33 f34 f35 hnn hoo ht hod hmk hp1 hp2 hdv hsu hd
    refine Ki.of (cc := cX4_fillLaydown) (maxL := 6) hi (by decide) rfl (Nat.le_of_ble_eq_true rfl) ?_
    intro p e s m below meth c Q E RET ls hl
    obtain ⟨C0, FX, hH⟩ := E
    have hx := C0.1
    have hb := C0.2.1
    have kiX4 : ∀ w ∈ u_ws RX4 TX4 9, w ∈ wsX4_fillLaydown := (by decide +kernel)
    have kf15 : Cond.fieldLink RX4 15 "YarnMill$Store" "numbers" "[I" ∈ wsX4_fillLaydown := (by decide +kernel)
    have kf19 : Cond.fieldLink RX4 19 "YarnMill$Store" "order" "[I" ∈ wsX4_fillLaydown := (by decide +kernel)
    have kf28 : Cond.fieldLink RX4 28 "YarnMill$Store" "size" "I" ∈ wsX4_fillLaydown := (by decide +kernel)
    have kf36 : Cond.fieldLink RX4 36 "YarnMill$Store" "leastSum" "I" ∈ wsX4_fillLaydown := (by decide +kernel)
    have kf39 : Cond.fieldLink RX4 39 "YarnMill$Store" "mostSum" "I" ∈ wsX4_fillLaydown := (by decide +kernel)
    have kf45 : Cond.fieldLink RX4 45 "YarnMill$Store" "spent" "Z" ∈ wsX4_fillLaydown := (by decide +kernel)
    have hl : lv_has ls 6 [(0, .ref (ad 33)), (1, .int (nI pos)), (2, .int (nI room)), (3, .int (nI u)), (4, .int (nI su))] := hl
    have fr : ∀ j, j ≠ 33 → j ≠ 35 → g j = g j := fun j _ _ => rfl
    refine lv_iload_n hx hb dX4_fillLaydown_0 rfl (lv_at hl 2 rfl) ?_
    refine ni_gt0 hx hb 38 dX4_fillLaydown_1 (by decide) (by omega) (fun c1 => ?_) (fun c1 => ?_)
    · refine lv_iload_n hx hb dX4_fillLaydown_38 rfl (lv_at hl 1 rfl) ?_
      refine lv_iconst (v := nI 1) hx hb dX4_fillLaydown_39 (by decide) ?_
      refine ni_clt hx hb 51 dX4_fillLaydown_40 (by decide) (by omega) (by omega) (fun c40 => ?_) (fun c40 => ?_)
      · exact absurd c40 (by omega)
      · refine lv_iload_n hx hb dX4_fillLaydown_43 rfl (lv_at hl 1 rfl) ?_
        refine lv_aload_n hx hb dX4_fillLaydown_44 rfl (lv_at hl 0 rfl) ?_
        refine rp_get C0 FX hH 33 (by decide) (ci := 4) (k := 0) f33 rfl kiX4 (by decide) kf28 rfl dX4_fillLaydown_45 ?_
        refine ni_clt hx hb 53 dX4_fillLaydown_48 (by decide) (by omega) (by omega) (fun c48 => ?_) (fun c48 => ?_)
        · refine lv_aload_n hx hb dX4_fillLaydown_53 rfl (lv_at hl 0 rfl) ?_
          refine rp_get C0 FX hH 33 (by decide) (ci := 4) (k := 8) f33 rfl kiX4 (by decide) kf19 rfl dX4_fillLaydown_54 ?_
          refine lv_iload_n hx hb dX4_fillLaydown_57 rfl (lv_at hl 1 rfl) ?_
          refine lv_iconst (v := nI 1) hx hb dX4_fillLaydown_58 (by decide) ?_
          refine ni_isub hx hb (by omega) dX4_fillLaydown_59 ?_
          refine rp_iald C0 FX hH 35 (by decide) (v := od (pos - 1)) f35 (pos - 1) (by omega) (by decide) (hoo _ (by omega)) dX4_fillLaydown_60 ?_
          refine lv_iconst (v := nI 1) hx hb dX4_fillLaydown_61 (by decide) ?_
          refine ni_iadd hx hb dX4_fillLaydown_62 ?_
          refine lv_istore (lv' := [(5, .int (nI ((od (pos - 1)) + 1))), (0, .ref (ad 33)), (1, .int (nI pos)), (2, .int (nI room)), (3, .int (nI u)), (4, .int (nI su))]) hx hb dX4_fillLaydown_63 hl (by decide) rfl (fun ls hl => ?_)
          have L65 : ∀ (fu : Nat) (b9 : Nat) (t9 : Nat) (od9 : Nat → Nat) (ho9 : Nat → Nat) (g1 : PF) (H : Heap) (locs : List Loc) (ls : Array Slot), (lpF (fun b t od => sr sz n num lo hh d 1 (pos + 1) (room - 1) (su + num b) t od) pos (sz - b9) b9 t9 od9 = lpF (fun b t od => sr sz n num lo hh d 1 (pos + 1) (room - 1) (su + num b) t od) pos (sz - (od (pos - 1) + 1)) (od (pos - 1) + 1) t od) → (∀ j, j < pos → od9 j = od j) → (∀ j, j < pos → ho9 j = od j) → (t9 ≤ 100000) → (b9 ≤ sz) → sz - b9 < fu → WH X 48 ad (pA 48 ad s.heap.size) s g1 H locs → g1 33 = .inr (4, [.int (nI sz), .int (nI lay), .int (nI t9), .int (nI n), .int (nI lo), .int (nI hh), .int (nI 0), .ref (ad 34), .ref (ad 35)]) → g1 34 = arr X 12 hn → g1 35 = arr X 12 ho9 → (∀ j, j ≠ 33 → j ≠ 35 → g1 j = g j) → lv_has ls 6 [(5, .int (nI b9)), (0, .ref (ad 33)), (1, .int (nI pos)), (2, .int (nI room)), (3, .int (nI u)), (4, .int (nI su))] → W p l e (zrS (d + 1)) s m ([.ref (ad 33), .int (nI pos), .int (nI room), .int (nI u), .int (nI su)] : List Value).toArray below meth c H locs 0 0 Q (F0 m 65 ls []) := by
            intro fu
            induction fu with
            | zero =>
              intro b9 t9 od9 ho9 g1 H locs ls i1 i2 i3 i4 i5 hm
              exact absurd hm (Nat.not_lt_zero _)
            | succ fu ih =>
              have ih65 := ih; clear ih
              intro b9 t9 od9 ho9 g1 H locs ls i1 i2 i3 i4 i5 hm65 hH f33 f34 f35 fr hl
              refine lv_iload hx hb dX4_fillLaydown_65 (lv_at hl 0 rfl) ?_
              refine lv_aload_n hx hb dX4_fillLaydown_67 rfl (lv_at hl 1 rfl) ?_
              refine rp_get C0 FX hH 33 (by decide) (ci := 4) (k := 0) f33 rfl kiX4 (by decide) kf28 rfl dX4_fillLaydown_68 ?_
              refine ni_cge hx hb 149 dX4_fillLaydown_71 (by decide) (by omega) (by omega) (fun c71 => ?_) (fun c71 => ?_)
              · refine lv_iconst (v := nI 0) hx hb dX4_fillLaydown_149 (by decide) ?_
                refine RET _ _ _ _ _ _ dX4_fillLaydown_150 (by decide) ?_ hH
                have hO : sr sz n num lo hh (d + 1) 1 pos room su t od = lpF (fun b t od => sr sz n num lo hh d 1 (pos + 1) (room - 1) (su + num b) t od) pos (sz - (od (pos - 1) + 1)) (od (pos - 1) + 1) t od := if_neg (by omega)
                rw [hO, ← i1, lpF_end c71]
                exact ⟨(bI_f (show ¬ (0 : Nat) = 1 by decide)).symm, ⟨ho9, f33, f35, i3, fun z => absurd z (show ¬ (0 : Nat) = 1 by decide)⟩, fr⟩
              · refine lv_iload_n hx hb dX4_fillLaydown_74 rfl (lv_at hl 4 rfl) ?_
                refine lv_iload hx hb dX4_fillLaydown_75 (lv_at hl 0 rfl) ?_
                refine lv_ishr hx hb dX4_fillLaydown_77 ?_
                refine lv_iconst (v := nI 1) hx hb dX4_fillLaydown_78 (by decide) ?_
                refine lv_iand hx hb dX4_fillLaydown_79 ?_
                refine lv_if_eq (tgt := 86) hx hb dX4_fillLaydown_80 (by decide) (fun c80 => ?_) (fun c80 => ?_)
                · have hfr : fre od9 pos b9 := (fre_cong i2).mpr ((hmk.2 b9 (by omega)).mp ((bt_zero hmk.1 (by omega)).mp c80))
                  refine lv_aload_n hx hb dX4_fillLaydown_86 rfl (lv_at hl 1 rfl) ?_
                  refine rc_Vi (rest := []) C0 FX hH 33 (by decide) f33 rfl (k_X4_countTry l X ad hi _ sz lay t9 n lo hh 0 (by omega) f33) (cwV 0 C0.2.2.2.2 gX4_fillLaydown_X4_countTry rfl rfl rfl (by decide +kernel) ⟨by show 2 + 1 ≤ d + 1 + 20; omega, by show 8 + (1 + 11) + 40 ≤ 30 * (d + 1) + 300; omega⟩) rfl rfl hl.1 (Nat.le_of_ble_eq_true rfl) dX4_fillLaydown_87 ⟨Nat.le_of_ble_eq_true rfl, Nat.le_of_ble_eq_true rfl⟩ (fun r87 g87c H locs h87 hH => ?_)
                  obtain ⟨e33, rfl, n87⟩ := h87
                  have f33 : g87c 33 = .inr (4, [.int (nI sz), .int (nI lay), .int (nI (if t9 < 100000 then t9 + 1 else t9)), .int (nI n), .int (nI lo), .int (nI hh), .int (nI (if t9 < 100000 then 0 else 1)), .ref (ad 34), .ref (ad 35)]) := e33
                  have f34 : g87c 34 = arr X 12 hn := (n87 _ (by omega)).trans f34
                  have f35 : g87c 35 = arr X 12 ho9 := (n87 _ (by omega)).trans f35
                  have fr : ∀ j, j ≠ 33 → j ≠ 35 → g87c j = g j := fun j a0 a1 => (n87 j (by omega)).trans (fr j a0 a1)
                  refine rb_ne hx hb 95 dX4_fillLaydown_90 (by decide) (fun c90 => ?_) (fun c90 => ?_)
                  · rw [if_pos c90, if_pos c90] at f33
                    refine lv_aload_n hx hb dX4_fillLaydown_95 rfl (lv_at hl 1 rfl) ?_
                    refine rp_get C0 FX hH 33 (by decide) (ci := 4) (k := 8) f33 rfl kiX4 (by decide) kf19 rfl dX4_fillLaydown_96 ?_
                    refine lv_iload_n hx hb dX4_fillLaydown_99 rfl (lv_at hl 2 rfl) ?_
                    refine lv_iload hx hb dX4_fillLaydown_100 (lv_at hl 0 rfl) ?_
                    refine rp_iast C0 FX hH 35 (by decide) f35 pos b9 (by omega) (by decide) dX4_fillLaydown_102 (fun g2 H locs eq3 nq3 hH => ?_)
                    have f35 : g2 35 = arr X 12 (va_up ho9 pos b9) := eq3
                    have f33 : g2 33 = .inr (4, [.int (nI sz), .int (nI lay), .int (nI (t9 + 1)), .int (nI n), .int (nI lo), .int (nI hh), .int (nI 0), .ref (ad 34), .ref (ad 35)]) := (nq3 _ (by omega)).trans f33
                    have f34 : g2 34 = arr X 12 hn := (nq3 _ (by omega)).trans f34
                    have fr : ∀ j, j ≠ 33 → j ≠ 35 → g2 j = g j := fun j a0 a1 => (nq3 j (by omega)).trans (fr j a0 a1)
                    refine lv_aload_n hx hb dX4_fillLaydown_103 rfl (lv_at hl 1 rfl) ?_
                    refine lv_iload_n hx hb dX4_fillLaydown_104 rfl (lv_at hl 2 rfl) ?_
                    refine lv_iconst (v := nI 1) hx hb dX4_fillLaydown_105 (by decide) ?_
                    refine ni_iadd hx hb dX4_fillLaydown_106 ?_
                    refine lv_iload_n hx hb dX4_fillLaydown_107 rfl (lv_at hl 3 rfl) ?_
                    refine lv_iconst (v := nI 1) hx hb dX4_fillLaydown_108 (by decide) ?_
                    refine ni_isub hx hb (by omega) dX4_fillLaydown_109 ?_
                    refine lv_iload_n hx hb dX4_fillLaydown_110 rfl (lv_at hl 4 rfl) ?_
                    refine lv_iconst (v := nI 1) hx hb dX4_fillLaydown_111 (by decide) ?_
                    refine lv_iload hx hb dX4_fillLaydown_112 (lv_at hl 0 rfl) ?_
                    refine lv_ishl hx hb dX4_fillLaydown_114 ?_
                    refine lv_ior hx hb dX4_fillLaydown_115 ?_
                    rw [(bt_set hmk.1 (by omega)).1]
                    refine lv_iload hx hb dX4_fillLaydown_116 (lv_at hl 5 rfl) ?_
                    refine lv_aload_n hx hb dX4_fillLaydown_118 rfl (lv_at hl 1 rfl) ?_
                    refine rp_get C0 FX hH 33 (by decide) (ci := 4) (k := 7) f33 rfl kiX4 (by decide) kf15 rfl dX4_fillLaydown_119 ?_
                    refine lv_iload hx hb dX4_fillLaydown_122 (lv_at hl 0 rfl) ?_
                    refine rp_iald C0 FX hH 34 (by decide) (v := num b9) f34 b9 (by omega) (by decide) (hnn _ (by omega)) dX4_fillLaydown_124 ?_
                    refine ni_iadd hx hb dX4_fillLaydown_125 ?_
                    refine rc_Vi (rest := []) C0 FX hH 33 (by decide) f33 rfl (ih.2 _ lay (t9 + 1) hn (va_up od9 pos b9) (va_up ho9 pos b9) (pos + 1) (room - 1) (u ||| 2 ^ b9) (su + (num b9)) f33 f34 f35 hnn (up_lt (fun j hj => (i3 j hj).trans (i2 j hj).symm)) (by omega) (fun j hj => by by_cases q : j = pos; rw [q, va_up_self]; omega; rw [va_up_ne _ _ q, i2 j (by omega)]; exact hod j (by omega)) (msk_up hsz hmk (by omega) i2) (by omega) (by omega) (by obtain ⟨q, hq⟩ := hdv; exact ⟨q, by omega⟩) (by have := hnum b9 (by omega); omega) (by omega)) (cwV 4 C0.2.2.2.2 gX4_fillLaydown_X4_fillLaydown rfl rfl rfl (by decide +kernel) ⟨by show d + 20 + 1 ≤ d + 1 + 20; omega, by show 8 + (6 + 11) + (30 * d + 300) ≤ 30 * (d + 1) + 300; omega⟩) rfl rfl hl.1 (Nat.le_of_ble_eq_true rfl) dX4_fillLaydown_126 ⟨Nat.le_of_ble_eq_true rfl, Nat.le_of_ble_eq_true rfl⟩ (fun r126 g126c H locs h126 hH => ?_)
                    generalize hO126 : sr sz n num lo hh d 1 (pos + 1) (room - 1) (su + (num b9)) (t9 + 1) (va_up od9 pos b9) = o126 at h126
                    obtain ⟨rfl, ⟨ho126, e33, e35, w1_126, w2_126⟩, n126⟩ := h126
                    have f33 : g126c 33 = .inr (4, [.int (nI sz), .int (nI lay), .int (nI (o126.2.1)), .int (nI n), .int (nI lo), .int (nI hh), .int (nI (if o126.1 = 2 then 1 else 0)), .ref (ad 34), .ref (ad 35)]) := e33
                    have f35 : g126c 35 = arr X 12 ho126 := e35
                    have f34 : g126c 34 = arr X 12 hn := (n126 _ (by decide) (by decide)).trans f34
                    have fr : ∀ j, j ≠ 33 → j ≠ 35 → g126c j = g j := fun j a0 a1 => (n126 j a0 a1).trans (fr j a0 a1)
                    have hK := sr_K sz n num lo hh d 1 (pos + 1) (room - 1) (su + num b9) (t9 + 1) (va_up od9 pos b9) (by omega)
                    rw [hO126] at hK
                    have hk126 : ∀ j, j < pos → o126.2.2 j = od j := fun j hj => by rw [hK.2.2.1 j (by omega), va_up_ne _ _ (by omega)]; exact i2 j hj
                    refine rb_eq hx hb 134 dX4_fillLaydown_129 (by decide) (fun c129 => ?_) (fun c129 => ?_)
                    · refine lv_aload_n hx hb dX4_fillLaydown_134 rfl (lv_at hl 1 rfl) ?_
                      refine rp_get C0 FX hH 33 (by decide) (ci := 4) (k := 6) f33 rfl kiX4 (by decide) kf45 rfl dX4_fillLaydown_135 ?_
                      refine ni_eq0 hx hb 143 dX4_fillLaydown_138 (by decide) (by split <;> omega) (fun c138 => ?_) (fun c138 => ?_)
                      · have h02 : ¬ o126.1 = 2 := fun z => by rw [if_pos z] at c138; omega
                        rw [if_neg h02] at f33
                        have hz : o126.1 = 0 := by have := hK.1; omega
                        refine lv_iinc (v := nI (b9 + 1)) (lv' := [(5, .int (nI (b9 + 1))), (0, .ref (ad 33)), (1, .int (nI pos)), (2, .int (nI room)), (3, .int (nI u)), (4, .int (nI su))]) hx hb dX4_fillLaydown_143 hl (k := 0) rfl (ni_inc1 _) (by decide) rfl (fun ls hl => ?_)
                        refine lv_goto (tgt := 65) hx hb dX4_fillLaydown_146 (by decide) ?_
                        exact ih65 (b9 + 1) (o126.2.1) (o126.2.2) ho126 _ _ _ ls (by rw [← i1, lpF_try c71 hfr c90]; show _ = (if (sr sz n num lo hh d 1 (pos + 1) (room - 1) (su + num b9) (t9 + 1) (va_up od9 pos b9)).1 = 0 then _ else _); rw [hO126, if_pos hz]) (hk126) (fun j hj => by rw [w1_126 j (by omega), va_up_ne _ _ (by omega)]; exact i2 j hj) (hK.2.1) (by omega) (by omega) hH f33 f34 f35 fr (lv_sub hl [0, 1, 2, 3, 4, 5] rfl)
                      · have h2 : o126.1 = 2 := by
                          rcases Nat.lt_or_ge o126.1 2 with z | z
                          · rw [if_neg (by omega)] at c138; omega
                          · have := hK.1; omega
                        refine lv_iconst (v := nI 0) hx hb dX4_fillLaydown_141 (by decide) ?_
                        refine RET _ _ _ _ _ _ dX4_fillLaydown_142 (by decide) ?_ hH
                        have hO : sr sz n num lo hh (d + 1) 1 pos room su t od = lpF (fun b t od => sr sz n num lo hh d 1 (pos + 1) (room - 1) (su + num b) t od) pos (sz - (od (pos - 1) + 1)) (od (pos - 1) + 1) t od := if_neg (by omega)
                        rw [hO, ← i1, lpF_try c71 hfr c90]
                        have hO2 : (if (sr sz n num lo hh d 1 (pos + 1) (room - 1) (su + num b9) (t9 + 1) (va_up od9 pos b9)).1 = 0 then lpF (fun b t od => sr sz n num lo hh d 1 (pos + 1) (room - 1) (su + num b) t od) pos (sz - (b9 + 1)) (b9 + 1) (sr sz n num lo hh d 1 (pos + 1) (room - 1) (su + num b9) (t9 + 1) (va_up od9 pos b9)).2.1 (sr sz n num lo hh d 1 (pos + 1) (room - 1) (su + num b9) (t9 + 1) (va_up od9 pos b9)).2.2 else sr sz n num lo hh d 1 (pos + 1) (room - 1) (su + num b9) (t9 + 1) (va_up od9 pos b9)) = o126 := by rw [hO126]; exact if_neg (by omega)
                        rw [hO2]
                        exact ⟨(bI_f c129).symm, ⟨ho126, f33, f35, fun j hj => by rw [w1_126 j (by omega), va_up_ne _ _ (by omega)]; exact i2 j hj, w2_126⟩, fr⟩
                    · refine lv_iconst (v := nI 1) hx hb dX4_fillLaydown_132 (by decide) ?_
                      refine RET _ _ _ _ _ _ dX4_fillLaydown_133 (by decide) ?_ hH
                      have hO : sr sz n num lo hh (d + 1) 1 pos room su t od = lpF (fun b t od => sr sz n num lo hh d 1 (pos + 1) (room - 1) (su + num b) t od) pos (sz - (od (pos - 1) + 1)) (od (pos - 1) + 1) t od := if_neg (by omega)
                      rw [hO, ← i1, lpF_try c71 hfr c90]
                      have hO2 : (if (sr sz n num lo hh d 1 (pos + 1) (room - 1) (su + num b9) (t9 + 1) (va_up od9 pos b9)).1 = 0 then lpF (fun b t od => sr sz n num lo hh d 1 (pos + 1) (room - 1) (su + num b) t od) pos (sz - (b9 + 1)) (b9 + 1) (sr sz n num lo hh d 1 (pos + 1) (room - 1) (su + num b9) (t9 + 1) (va_up od9 pos b9)).2.1 (sr sz n num lo hh d 1 (pos + 1) (room - 1) (su + num b9) (t9 + 1) (va_up od9 pos b9)).2.2 else sr sz n num lo hh d 1 (pos + 1) (room - 1) (su + num b9) (t9 + 1) (va_up od9 pos b9)) = o126 := by rw [hO126]; exact if_neg (by omega)
                      rw [hO2]
                      exact ⟨(bI_t c129).symm, ⟨ho126, f33, f35, fun j hj => by rw [w1_126 j (by omega), va_up_ne _ _ (by omega)]; exact i2 j hj, w2_126⟩, fr⟩
                  · rw [if_neg c90, if_neg c90] at f33
                    refine lv_iconst (v := nI 0) hx hb dX4_fillLaydown_93 (by decide) ?_
                    refine RET _ _ _ _ _ _ dX4_fillLaydown_94 (by decide) ?_ hH
                    have hO : sr sz n num lo hh (d + 1) 1 pos room su t od = lpF (fun b t od => sr sz n num lo hh d 1 (pos + 1) (room - 1) (su + num b) t od) pos (sz - (od (pos - 1) + 1)) (od (pos - 1) + 1) t od := if_neg (by omega)
                    rw [hO, ← i1, lpF_spent c71 hfr c90]
                    exact ⟨(bI_f (show ¬ (2 : Nat) = 1 by decide)).symm, ⟨ho9, f33, f35, i3, fun z => absurd z (show ¬ (2 : Nat) = 1 by decide)⟩, fr⟩
                · have hfr : ¬ fre od9 pos b9 := fun z => c80 ((bt_zero hmk.1 (by omega)).mpr ((hmk.2 b9 (by omega)).mpr ((fre_cong i2).mp z)))
                  refine lv_goto (tgt := 143) hx hb dX4_fillLaydown_83 (by decide) ?_
                  refine lv_iinc (v := nI (b9 + 1)) (lv' := [(5, .int (nI (b9 + 1))), (0, .ref (ad 33)), (1, .int (nI pos)), (2, .int (nI room)), (3, .int (nI u)), (4, .int (nI su))]) hx hb dX4_fillLaydown_143 hl (k := 0) rfl (ni_inc1 _) (by decide) rfl (fun ls hl => ?_)
                  refine lv_goto (tgt := 65) hx hb dX4_fillLaydown_146 (by decide) ?_
                  exact ih65 (b9 + 1) t9 od9 ho9 _ _ _ ls (by rw [← i1, lpF_used c71 hfr]) (i2) (i3) (i4) (by omega) (by omega) hH f33 f34 f35 fr (lv_sub hl [0, 1, 2, 3, 4, 5] rfl)
          exact L65 ((sz - ((od (pos - 1)) + 1)) + 1) ((od (pos - 1)) + 1) t od ho _ _ _ ls (by rfl) (fun _ _ => rfl) (hoo) (by omega) (by have := hod (pos - 1) (by omega); omega) (Nat.lt_succ_self _) hH f33 f34 f35 fr (lv_sub hl [0, 1, 2, 3, 4, 5] rfl)
        · exact absurd c48 (by omega)
    · refine lv_iload hx hb dX4_fillLaydown_4 (lv_at hl 4 rfl) ?_
      refine ni_i2l hx hb (by omega) dX4_fillLaydown_6 ?_
      refine lv_aload_n hx hb dX4_fillLaydown_7 rfl (lv_at hl 0 rfl) ?_
      refine rp_get C0 FX hH 33 (by decide) (ci := 4) (k := 4) f33 rfl kiX4 (by decide) kf36 rfl dX4_fillLaydown_8 ?_
      refine ni_i2l hx hb (by omega) dX4_fillLaydown_11 ?_
      refine lv_aload_n hx hb dX4_fillLaydown_12 rfl (lv_at hl 0 rfl) ?_
      refine rp_get C0 FX hH 33 (by decide) (ci := 4) (k := 5) f33 rfl kiX4 (by decide) kf39 rfl dX4_fillLaydown_13 ?_
      refine ni_i2l hx hb (by omega) dX4_fillLaydown_16 ?_
      refine rc_Ni (rest := []) C0 FX hH (k_X5_within_nat l X ad hi _ su lo hh (by omega) (by omega) (by omega)) ⟨va_cnB 3 C0.2.2.2.2 gX4_fillLaydown_X5_within_n24 rfl rfl rfl (FX.1.2 (RX4, 24, yX5_within) (by decide +kernel)) (C0.2.2.2.2 (.initialized RX5) (by decide +kernel)) (by decide +kernel) ⟨by show 2 + 1 ≤ d + 1 + 20; omega, by show 8 + (6 + 11) + 40 ≤ 30 * (d + 1) + 300; omega⟩, C0.2.2.2.2 (.static yX5_within) (by decide +kernel), trivial⟩ rfl rfl hl.1 (Nat.le_of_ble_eq_true rfl) dX4_fillLaydown_17 ⟨Nat.le_of_ble_eq_true rfl, Nat.le_of_ble_eq_true rfl⟩ (fun r17 g17c H locs h17 hH => ?_)
      obtain ⟨e17, rfl⟩ := h17
      rw [e17] at hH
      refine rb_eq hx hb 36 dX4_fillLaydown_20 (by decide) (fun c20 => ?_) (fun c20 => ?_)
      · refine lv_iconst (v := nI 0) hx hb dX4_fillLaydown_36 (by decide) ?_
        refine RET _ _ _ _ _ _ dX4_fillLaydown_37 (by decide) ?_ hH
        have hO : sr sz n num lo hh (d + 1) 1 pos room su t od = (if lo ≤ su ∧ su ≤ hh then sr sz n num lo hh d 0 pos 0 0 t od else (0, t, od)) := if_pos c1
        rw [hO, if_neg c20]
        exact ⟨(bI_f (show ¬ (0 : Nat) = 1 by decide)).symm, ⟨ho, f33, f35, hoo, fun z => absurd z (show ¬ (0 : Nat) = 1 by decide)⟩, fr⟩
      · refine lv_aload_n hx hb dX4_fillLaydown_23 rfl (lv_at hl 0 rfl) ?_
        refine lv_iload_n hx hb dX4_fillLaydown_24 rfl (lv_at hl 1 rfl) ?_
        refine lv_iload_n hx hb dX4_fillLaydown_25 rfl (lv_at hl 3 rfl) ?_
        refine rc_Vi (rest := []) C0 FX hH 33 (by decide) f33 rfl (ih.1 _ lay t hn od ho pos u f33 f34 f35 hnn hoo (by omega) hod hmk (by omega) (by obtain ⟨q, hq⟩ := hdv; exact ⟨q, by omega⟩) (by omega)) (cwV 2 C0.2.2.2.2 gX4_fillLaydown_X4_openLaydown rfl rfl rfl (by decide +kernel) ⟨by show d + 20 + 1 ≤ d + 1 + 20; omega, by show 8 + (4 + 11) + (30 * d + 300) ≤ 30 * (d + 1) + 300; omega⟩) rfl rfl hl.1 (Nat.le_of_ble_eq_true rfl) dX4_fillLaydown_26 ⟨Nat.le_of_ble_eq_true rfl, Nat.le_of_ble_eq_true rfl⟩ (fun r26 g26c H locs h26 hH => ?_)
        generalize hO26 : sr sz n num lo hh d 0 pos 0 0 t od = o26 at h26
        obtain ⟨rfl, ⟨ho26, e33, e35, w1_26, w2_26⟩, n26⟩ := h26
        have f33 : g26c 33 = .inr (4, [.int (nI sz), .int (nI lay), .int (nI (o26.2.1)), .int (nI n), .int (nI lo), .int (nI hh), .int (nI (if o26.1 = 2 then 1 else 0)), .ref (ad 34), .ref (ad 35)]) := e33
        have f35 : g26c 35 = arr X 12 ho26 := e35
        have f34 : g26c 34 = arr X 12 hn := (n26 _ (by decide) (by decide)).trans f34
        have fr : ∀ j, j ≠ 33 → j ≠ 35 → g26c j = g j := fun j a0 a1 => (n26 j a0 a1).trans (fr j a0 a1)
        refine rb_eq hx hb 36 dX4_fillLaydown_29 (by decide) (fun c29 => ?_) (fun c29 => ?_)
        · refine lv_iconst (v := nI 0) hx hb dX4_fillLaydown_36 (by decide) ?_
          refine RET _ _ _ _ _ _ dX4_fillLaydown_37 (by decide) ?_ hH
          have hO : sr sz n num lo hh (d + 1) 1 pos room su t od = (if lo ≤ su ∧ su ≤ hh then sr sz n num lo hh d 0 pos 0 0 t od else (0, t, od)) := if_pos c1
          rw [hO, if_pos c20, hO26]
          exact ⟨(bI_f c29).symm, ⟨ho26, f33, f35, w1_26, w2_26⟩, fr⟩
        · refine lv_iconst (v := nI 1) hx hb dX4_fillLaydown_32 (by decide) ?_
          refine lv_goto (tgt := 37) hx hb dX4_fillLaydown_33 (by decide) ?_
          refine RET _ _ _ _ _ _ dX4_fillLaydown_37 (by decide) ?_ hH
          have hO : sr sz n num lo hh (d + 1) 1 pos room su t od = (if lo ≤ su ∧ su ≤ hh then sr sz n num lo hh d 0 pos 0 0 t od else (0, t, od)) := if_pos c1
          rw [hO, if_pos c20, hO26]
          exact ⟨(bI_t c29).symm, ⟨ho26, f33, f35, w1_26, w2_26⟩, fr⟩
