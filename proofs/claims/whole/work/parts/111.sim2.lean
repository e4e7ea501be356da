theorem Cnt.mono {sz pos : Nat} {G : Nat → Nat → Nat → (Nat → Nat) → Prop} {Sp : Nat → (Nat → Nat) → Prop} {od od' : Nat → Nat} {o : SrO} (h : Cnt sz G Sp pos od o) (he : ∀ j, j < pos → od' j = od j) : Cnt sz G Sp pos od' o :=
  ⟨h.1, h.2.1, fun z pl hp => h.2.2 z pl (fun j hj => (hp j hj).trans (he j hj))⟩
set_option maxHeartbeats 2000000 in
theorem sim {sz n : Nat} {num : Nat → Nat} {lo hh : Nat} {G : Nat → Nat → Nat → (Nat → Nat) → Prop} {Sp : Nat → (Nat → Nat) → Prop} (hn : 1 ≤ n) (R : Rul sz n num lo hh G Sp) : ∀ d : Nat,
    (∀ (s t : Nat) (od pl : Nat → Nat), s % n = 0 → (∃ q, sz = s + n * q) → 2 * (sz - s) + 1 ≤ d → (∀ j, j < s → pl j = od j) → t ≤ 100000 → Cnt sz G Sp s od (sr sz n num lo hh d 0 s 0 0 t od) → G (s + 1) 0 t pl) ∧
    (∀ (e f s c su t : Nat) (od pl : Nat → Nat), sz - f ≤ e → 1 ≤ c → c < n → s % n = 0 → (∃ q, sz = s + n + n * q) → 2 * (sz - (s + c)) ≤ d → (∀ j, j < s + c → pl j = od j) → su = psm num od s c → f ≤ sz → t ≤ 100000 → Cnt sz G Sp (s + c) od (lpF (fun b t od => sr sz n num lo hh d 1 (s + c + 1) (n - c - 1) (su + num b) t od) (s + c) (sz - f) f t od) → G (s + c + 1) f t pl) := by
  intro d
  induction d using Nat.strongRecOn with
  | ind d ih =>
  refine ⟨?_, ?_⟩
  · intro s t od pl hs hdv hd hp ht hC
    by_cases hsz : s < sz
    · have hin : lfr pl s sz 0 < sz := lfr_in hsz
      have hbx : bnx sz n pl s 0 = lfr pl s sz 0 := by
        unfold bnx
        rw [if_neg (fun z => absurd z.2 (Nat.lt_irrefl 0)), if_pos hs, Nat.sub_zero]
      obtain ⟨z9, rfl⟩ : ∃ z9, sz = z9 + 1 := ⟨sz - 1, by omega⟩
      have hless : lfr od s z9 0 = lfr pl s (z9 + 1) 0 := by
        have h1 := lfr_cong hp (z9 + 1) 0
        rw [h1] at hin
        rw [h1]
        exact lfr_less od s z9 0 (by omega)
      generalize hb : lfr pl s (z9 + 1) 0 = b at *
      obtain ⟨d1, rfl⟩ : ∃ d1, d = d1 + 2 := ⟨d - 2, by omega⟩
      have hO : sr (z9 + 1) n num lo hh (d1 + 2) 0 s 0 0 t od = sr (z9 + 1) n num lo hh (d1 + 1) 1 (s + 1) (n - 1) (num b) t (va_up od s b) := by
        show (if s < z9 + 1 then sr (z9 + 1) n num lo hh (d1 + 1) 1 (s + 1) (n - 1) (num (lfr od s (z9 + 1 - 1) 0)) t (va_up od s (lfr od s (z9 + 1 - 1) 0)) else _) = _
        rw [if_pos hsz, Nat.add_sub_cancel, hless]
      rw [hO] at hC
      have hq : ∃ q, z9 + 1 = s + n + n * q := by
        obtain ⟨q, hq⟩ := hdv
        rcases Nat.eq_zero_or_pos q with z | z
        · rw [z, Nat.mul_zero] at hq; omega
        · obtain ⟨q2, rfl⟩ : ∃ q2, q = q2 + 1 := ⟨q - 1, by omega⟩
          rw [Nat.mul_succ] at hq
          exact ⟨q2, by omega⟩
      have hsn : s + n ≤ z9 + 1 := by obtain ⟨q, hq⟩ := hq; omega
      have hp1 : ∀ j, j < s + 1 → va_up pl s b j = va_up od s b j := up_lt hp
      -- what a failure behind the first BALE comes to
      have hK : ∀ (t' : Nat) (pl' : Nat → Nat), (∀ j, j < s + 1 → pl' j = va_up od s b j) → (∀ pl'' : Nat → Nat, (∀ j, j < s → pl'' j = od j) → G s (if s = 0 then 0 else pl'' (s - 1) + 1) t' pl'') → G (s + 1) (pl' s + 1) t' pl' := by
        intro t' pl' hp' hG
        refine R.1 s (pl' s + 1) t' pl' hsz ?_ (hG pl' (fun j hj => by rw [hp' j (by omega), va_up_ne _ _ (by omega)]))
        unfold bnx
        rw [if_pos ⟨hs, Nat.succ_pos _⟩]
      have hf := R.2.2 s 0 t pl hsz (by rw [hbx]; exact hin) (Or.inl hs)
      rw [hbx] at hf
      rw [hs, if_pos (rfl : (0 : Nat) = 0)] at hf
      refine hf ?_
      rcases Nat.lt_or_ge 1 n with hn1 | hn1
      · rw [if_pos (Or.inl (by omega)), if_neg (by omega)]
        have hO2 : sr (z9 + 1) n num lo hh (d1 + 1) 1 (s + 1) (n - 1) (num b) t (va_up od s b) = lpF (fun b2 t od => sr (z9 + 1) n num lo hh d1 1 (s + 1 + 1) (n - 1 - 1) (num b + num b2) t od) (s + 1) (z9 + 1 - (b + 1)) (b + 1) t (va_up od s b) := by
          show (if n - 1 = 0 then _ else lpF _ (s + 1) (z9 + 1 - (va_up od s b (s + 1 - 1) + 1)) (va_up od s b (s + 1 - 1) + 1) t (va_up od s b)) = _
          rw [if_neg (by omega), Nat.add_sub_cancel, va_up_self]
        rw [hO2] at hC
        refine (ih d1 (by omega)).2 (z9 + 1) (b + 1) s 1 (num b) t (va_up od s b) (va_up pl s b) (by omega) (by omega) (by omega) hs hq (by omega) hp1 ?_ (by omega) ht ?_
        · have h9 := psm_up (num := num) (od := od) (pl := od) (s := s) (k := 0) (b := b) (fun _ _ => rfl)
          rw [Nat.add_zero] at h9
          rw [h9]
          show num b = 0 + num b
          omega
        · refine ⟨hC.1, hC.2.1, fun z pl' hp' => ?_⟩
          rw [if_neg (by omega), Nat.add_sub_cancel]
          exact hK _ pl' hp' (hC.2.2 z)
      · have hn0 : n = 1 := by omega
        subst hn0
        have hO2 : sr (z9 + 1) 1 num lo hh (d1 + 1) 1 (s + 1) (1 - 1) (num b) t (va_up od s b) = (if lo ≤ num b ∧ num b ≤ hh then sr (z9 + 1) 1 num lo hh d1 0 (s + 1) 0 0 t (va_up od s b) else (0, t, va_up od s b)) := by
          show (if 1 - 1 = 0 then _ else _) = _
          rw [if_pos rfl]
        rw [hO2] at hC
        have hw : wsum num (va_up pl s b) s 1 = num b := by
          unfold wsum
          show 0 + num (va_up pl s b (s + 1 - 1 + 0)) = _
          rw [Nat.add_sub_cancel, Nat.add_zero, va_up_self, Nat.zero_add]
        by_cases hW : lo ≤ num b ∧ num b ≤ hh
        · rw [if_pos (Or.inr (by rw [hw]; exact hW)), if_pos (by omega)]
          rw [if_pos hW] at hC
          refine (ih d1 (by omega)).1 (s + 1) t (va_up od s b) (va_up pl s b) (Nat.mod_one _) ⟨z9 + 1 - (s + 1), by omega⟩ (by omega) hp1 ht ?_
          refine ⟨hC.1, hC.2.1, fun z pl' hp' => ?_⟩
          rw [if_neg (by omega), Nat.add_sub_cancel]
          exact hK _ pl' hp' (hC.2.2 z)
        · rw [if_neg (by rw [hw]; exact fun z => z.elim (fun z => absurd z (by omega)) hW)]
          rw [if_neg hW] at hC
          have h9 := hK t (va_up pl s b) hp1 (hC.2.2 rfl)
          rw [va_up_self] at h9
          exact h9
    · obtain ⟨d1, rfl⟩ : ∃ d1, d = d1 + 1 := ⟨d - 1, by omega⟩
      have hO : sr sz n num lo hh (d1 + 1) 0 s 0 0 t od = (1, t, od) := if_neg hsz
      rw [hO] at hC
      have he : s = sz := by obtain ⟨q, hq⟩ := hdv; omega
      subst he
      exact hC.1 rfl pl hp
  · intro e
    induction e with
    | zero =>
      intro f s c su t od pl he hc1 hc hs hdv hd hp hsu hf ht hC
      have hfz : f = sz := by omega
      have hps : s + c < sz := by obtain ⟨q, hq⟩ := hdv; omega
      have hm : (s + c) % n = c := mod_s hs hc
      rw [lpF_end (by omega)] at hC
      refine R.1 (s + c) f t pl hps ?_ (hC.2.2 rfl pl hp)
      unfold bnx
      rw [if_neg (fun z => absurd z.1 (by omega)), if_neg (by omega), show sz - f = 0 by omega]
      exact hfz
    | succ e ihe =>
      intro f s c su t od pl he hc1 hc hs hdv hd hp hsu hf ht hC
      have hps : s + c < sz := by obtain ⟨q, hq⟩ := hdv; omega
      have hm : (s + c) % n = c := mod_s hs hc
      have hbx : bnx sz n pl (s + c) f = lfr pl (s + c) (sz - f) f := by
        unfold bnx
        rw [if_neg (fun z => absurd z.1 (by omega)), if_neg (by omega)]
      have hb1 := lfr_le pl (s + c) (sz - f) f
      have hb2 := lfr_ge pl (s + c) (sz - f) f
      have hbu := lfr_used pl (s + c) (sz - f) f
      have hbf := lfr_free pl (s + c) (sz - f) f
      generalize hbe : lfr pl (s + c) (sz - f) f = b at *
      have hsk := lpF_skip (F := fun b t od => sr sz n num lo hh d 1 (s + c + 1) (n - c - 1) (su + num b) t od) (pos := s + c) (sz := sz) (t := t) (od := od) (b - f) f (by omega) (fun j h1 h2 z => hbu j h1 (by omega) ((fre_cong hp).mpr z))
      rw [show f + (b - f) = b by omega] at hsk
      rw [hsk] at hC
      by_cases hbz : b = sz
      · rw [lpF_end (by omega)] at hC
        exact R.1 (s + c) f t pl hps (by rw [hbx]; exact hbz) (hC.2.2 rfl pl hp)
      · have hbl : b < sz := by omega
        have hfr : fre od (s + c) b := (fre_cong hp).mp (hbf (by omega))
        by_cases htt : t < 100000
        · rw [lpF_try hbl hfr htt] at hC
          obtain ⟨d1, rfl⟩ : ∃ d1, d = d1 + 1 := ⟨d - 1, by omega⟩
          have hp1 : ∀ j, j < s + c + 1 → va_up pl (s + c) b j = va_up od (s + c) b j := up_lt hp
          have hsr := sr_K sz n num lo hh (d1 + 1) 1 (s + c + 1) (n - c - 1) (su + num b) (t + 1) (va_up od (s + c) b) (by omega)
          -- the next one at the same place
          have hN : ∀ (o1 : SrO), sr sz n num lo hh (d1 + 1) 1 (s + c + 1) (n - c - 1) (su + num b) (t + 1) (va_up od (s + c) b) = o1 → o1.1 = 0 → ∀ pl' : Nat → Nat, (∀ j, j < s + c + 1 → pl' j = va_up od (s + c) b j) → G (s + c + 1) (b + 1) o1.2.1 pl' := by
            intro o1 ho1 hz pl' hp'
            have hC' : Cnt sz G Sp (s + c) od (if (sr sz n num lo hh (d1 + 1) 1 (s + c + 1) (n - c - 1) (su + num b) (t + 1) (va_up od (s + c) b)).1 = 0 then lpF (fun b t od => sr sz n num lo hh (d1 + 1) 1 (s + c + 1) (n - c - 1) (su + num b) t od) (s + c) (sz - (b + 1)) (b + 1) (sr sz n num lo hh (d1 + 1) 1 (s + c + 1) (n - c - 1) (su + num b) (t + 1) (va_up od (s + c) b)).2.1 (sr sz n num lo hh (d1 + 1) 1 (s + c + 1) (n - c - 1) (su + num b) (t + 1) (va_up od (s + c) b)).2.2 else sr sz n num lo hh (d1 + 1) 1 (s + c + 1) (n - c - 1) (su + num b) (t + 1) (va_up od (s + c) b)) := hC
            rw [ho1, if_pos hz] at hC'
            rw [ho1] at hsr
            have hpre : ∀ j, j < s + c → o1.2.2 j = od j := fun j hj => by rw [hsr.2.2.1 j (by omega), va_up_ne _ _ (by omega)]
            refine ihe (b + 1) s c su o1.2.1 o1.2.2 pl' (by omega) hc1 hc hs hdv hd (fun j hj => by rw [hp' j (by omega), va_up_ne _ _ (by omega), hpre j hj]) ?_ (by omega) hsr.2.1 (hC'.mono hpre)
            rw [hsu]
            exact sm_cong (fun j hj => by rw [hpre _ (by omega)])
          have hY : ∀ (o1 : SrO), sr sz n num lo hh (d1 + 1) 1 (s + c + 1) (n - c - 1) (su + num b) (t + 1) (va_up od (s + c) b) = o1 → Cnt sz G Sp (s + c + 1) (va_up od (s + c) b) o1 := by
            intro o1 ho1
            have hC' : Cnt sz G Sp (s + c) od (if (sr sz n num lo hh (d1 + 1) 1 (s + c + 1) (n - c - 1) (su + num b) (t + 1) (va_up od (s + c) b)).1 = 0 then lpF (fun b t od => sr sz n num lo hh (d1 + 1) 1 (s + c + 1) (n - c - 1) (su + num b) t od) (s + c) (sz - (b + 1)) (b + 1) (sr sz n num lo hh (d1 + 1) 1 (s + c + 1) (n - c - 1) (su + num b) (t + 1) (va_up od (s + c) b)).2.1 (sr sz n num lo hh (d1 + 1) 1 (s + c + 1) (n - c - 1) (su + num b) (t + 1) (va_up od (s + c) b)).2.2 else sr sz n num lo hh (d1 + 1) 1 (s + c + 1) (n - c - 1) (su + num b) (t + 1) (va_up od (s + c) b)) := hC
            rw [ho1] at hC'
            refine ⟨fun z => ?_, fun z => ?_, fun z pl' hp' => ?_⟩
            · rw [if_neg (by omega)] at hC'; exact hC'.1 z
            · rw [if_neg (by omega)] at hC'; exact hC'.2.1 z
            · rw [if_neg (by omega), Nat.add_sub_cancel, hp' (s + c) (by omega), va_up_self]
              exact hN o1 ho1 z pl' hp'
          have hf2 := R.2.2 (s + c) f t pl hps (by rw [hbx]; exact hbl) (Or.inr htt)
          rw [hbx, hm, if_neg (show ¬ c = 0 by omega)] at hf2
          refine hf2 ?_
          rcases Nat.lt_or_ge c (n - 1) with hcn | hcn
          · rw [if_pos (Or.inl hcn), if_neg (by omega)]
            have hO2 : sr sz n num lo hh (d1 + 1) 1 (s + c + 1) (n - c - 1) (su + num b) (t + 1) (va_up od (s + c) b) = lpF (fun b2 t od => sr sz n num lo hh d1 1 (s + c + 1 + 1) (n - c - 1 - 1) (su + num b + num b2) t od) (s + c + 1) (sz - (b + 1)) (b + 1) (t + 1) (va_up od (s + c) b) := by
              show (if n - c - 1 = 0 then _ else lpF _ (s + c + 1) (sz - (va_up od (s + c) b (s + c + 1 - 1) + 1)) (va_up od (s + c) b (s + c + 1 - 1) + 1) (t + 1) (va_up od (s + c) b)) = _
              rw [if_neg (by omega), Nat.add_sub_cancel, va_up_self]
            refine (ih d1 (by omega)).2 sz (b + 1) s (c + 1) (su + num b) (t + 1) (va_up od (s + c) b) (va_up pl (s + c) b) (by omega) (by omega) (by omega) hs hdv (by omega) hp1 ?_ (by omega) (by omega) (hY _ hO2)
            rw [psm_up (pl := od) (fun _ _ => rfl), hsu]
          · have hce : c = n - 1 := by omega
            have hw : wsum num (va_up pl (s + c) b) (s + c) n = su + num b := by
              have h9 := psm_up (num := num) (od := od) (pl := pl) (s := s) (k := c) (b := b) hp
              rw [hsu, ← h9]
              unfold wsum psm
              rw [show s + c + 1 - n = s by omega, show c + 1 = n by omega]
            have hO2 : sr sz n num lo hh (d1 + 1) 1 (s + c + 1) (n - c - 1) (su + num b) (t + 1) (va_up od (s + c) b) = (if lo ≤ su + num b ∧ su + num b ≤ hh then sr sz n num lo hh d1 0 (s + c + 1) 0 0 (t + 1) (va_up od (s + c) b) else (0, t + 1, va_up od (s + c) b)) := by
              show (if n - c - 1 = 0 then _ else _) = _
              rw [if_pos (by omega)]
            by_cases hW : lo ≤ su + num b ∧ su + num b ≤ hh
            · rw [if_pos (Or.inr (by rw [hw]; exact hW)), if_pos hce]
              rw [if_pos hW] at hO2
              refine (ih d1 (by omega)).1 (s + c + 1) (t + 1) (va_up od (s + c) b) (va_up pl (s + c) b) ?_ ?_ (by omega) hp1 (by omega) (hY _ hO2)
              · rw [show s + c + 1 = s + n by omega, Nat.add_mod_right]; exact hs
              · obtain ⟨q, hq⟩ := hdv; exact ⟨q, by omega⟩
            · rw [if_neg (by rw [hw]; exact fun z => z.elim (fun z => absurd z (by omega)) hW)]
              rw [if_neg hW] at hO2
              exact hN _ hO2 rfl _ hp1
        · rw [lpF_spent hbl hfr htt] at hC
          exact R.2.1 (s + c) f t pl hps (by rw [hbx]; exact hbl) (by omega) (by omega) (hC.2.1 rfl pl)
