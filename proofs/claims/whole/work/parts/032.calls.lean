section YC
variable {p : Program} {l : Launch} {e : Env} {R : Room} {s : State} {m : MethodId} {args : Array Value} {below : List Frame} {meth : Method} {c : Code} {H : Heap} {locs : List Loc} {cells slots : Nat} {Q : State → Prop}
variable {pc : Nat} {ls : Array Slot} {rest st As : List Value} {cc bytes : ByteArray} {X : Cx} {N : Nat} {ad : Nat → Nat} {g : PF} {A : Nat → Prop} {nL maxL index n : Nat} {Ts ws ws' : List Cond} {own C host : String} {y : MethodName} {rm : Room} {ret : Option FieldType}
theorem pA_in (FX : WF X N ad A s) (hH : WH X N ad A s g H locs) : ∀ q, pA N ad H.size q → A q := by
  intro q h
  rcases h with ⟨k, hk, rfl⟩ | h
  · exact FX.2.2.1 k hk
  · exact FX.2.2.2 q (Nat.le_trans hH.2.1 h)
theorem pre_in (FX : WF X N ad A s) (hH : WH X N ad A s g H locs) {av : List Value} : ∀ U : State, U.heap = H → s.WarmedH U.vm → PreW X N ad g H.size av av.toArray U := fun U hU hW => ⟨rfl, by rw [hU], by rw [hU]; exact hH.1, FX.1.warm hW⟩
theorem recv_in (FX : WF X N ad A s) (hH : WH X N ad A s g H locs) (kr : Nat) (hr : kr < N) {ci NN : Nat} {fs : List Value} {T : u_T} (hg : g kr = .inr (ci, fs)) (hcl : vwCl[ci]? = some (C, T, NN)) : ∃ cell : Cell, H[ad kr]? = some cell ∧ cell.vm.isStatics = false ∧ s.vm.findClass C = some cell.cls := va_recv FX.1.1 hH.1 hcl (wl_get' hr hg)
/-- a call of an instance method through the class's own link -/
theorem rc_Vi {post : Int32 → PF → Prop} (C0 : CallFix p m c cc nL s args Ts own) (FX : WF X N ad A s) (hH : WH X N ad A s g H locs) (kr : Nat) (hr : kr < N) {ci NN : Nat} {fs : List Value} {T : u_T} (hg : g kr = .inr (ci, fs)) (hcl : vwCl[ci]? = some (C, T, NN)) (hM : Ki l y ws rm X N ad g (.ref (ad kr) :: As) post) (cw : CallW R s args own C index y bytes maxL ret ws rm 0 0 n) (hn : As.length = n) (hst : st = As.reverse ++ .ref (ad kr) :: rest) (hsz : ls.size = nL) (hrest : (rest.map fun v => v.category).sum ≤ 8) (hdg : decode cc pc = .ok (.invokevirtual index, 3)) (hcs : cells + 0 ≤ R.cells ∧ slots + 0 ≤ R.slots)
    (kk : ∀ (r : Int32) (g' : PF) (H1 : Heap) (locs1 : List Loc), post r g' → WH X N ad A s g' H1 locs1 → W p l e R s m args below meth c H1 locs1 cells slots Q (F0 m (pc + 3) ls (.int r :: rest))) : W p l e R s m args below meth c H locs cells slots Q (F0 m pc ls st) := by
  refine va_calli (va_runV (As := As) (rest := rest) C0 (hM H.size) cw ⟨PreW.blind, recv_in FX hH kr hr hg hcl, pre_in FX hH⟩ rfl hn hsz hst (lv_room hrest) hdg hcs) hH.2 (fun q _ h => pA_in FX hH q h) (pA_in FX hH) (fun r u t H1 locs1 ht hvm hw hB hz1 hk1 hS => ?_)
  have hB : WP X N ad u t.heap := hB
  rw [ht] at hB
  exact kk r u H1 locs1 hw ⟨hB, hS⟩
theorem rc_Vl {post : Int64 → PF → Prop} (C0 : CallFix p m c cc nL s args Ts own) (FX : WF X N ad A s) (hH : WH X N ad A s g H locs) (kr : Nat) (hr : kr < N) {ci NN : Nat} {fs : List Value} {T : u_T} (hg : g kr = .inr (ci, fs)) (hcl : vwCl[ci]? = some (C, T, NN)) (hM : Kl l y ws rm X N ad g (.ref (ad kr) :: As) post) (cw : CallW R s args own C index y bytes maxL ret ws rm 0 0 n) (hn : As.length = n) (hst : st = As.reverse ++ .ref (ad kr) :: rest) (hsz : ls.size = nL) (hrest : (rest.map fun v => v.category).sum ≤ 8) (hdg : decode cc pc = .ok (.invokevirtual index, 3)) (hcs : cells + 0 ≤ R.cells ∧ slots + 0 ≤ R.slots)
    (kk : ∀ (r : Int64) (g' : PF) (H1 : Heap) (locs1 : List Loc), post r g' → WH X N ad A s g' H1 locs1 → W p l e R s m args below meth c H1 locs1 cells slots Q (F0 m (pc + 3) ls (.long r :: rest))) : W p l e R s m args below meth c H locs cells slots Q (F0 m pc ls st) := by
  refine va_calll (va_runV (As := As) (rest := rest) C0 (hM H.size) cw ⟨PreW.blind, recv_in FX hH kr hr hg hcl, pre_in FX hH⟩ rfl hn hsz hst (lv_room hrest) hdg hcs) hH.2 (fun q _ h => pA_in FX hH q h) (pA_in FX hH) (fun r u t H1 locs1 ht hvm hw hB hz1 hk1 hS => ?_)
  have hB : WP X N ad u t.heap := hB
  rw [ht] at hB
  exact kk r u H1 locs1 hw ⟨hB, hS⟩
theorem rc_Vv {post : PF → Prop} (C0 : CallFix p m c cc nL s args Ts own) (FX : WF X N ad A s) (hH : WH X N ad A s g H locs) (kr : Nat) (hr : kr < N) {ci NN : Nat} {fs : List Value} {T : u_T} (hg : g kr = .inr (ci, fs)) (hcl : vwCl[ci]? = some (C, T, NN)) (hM : Kv l y ws rm X N ad g (.ref (ad kr) :: As) post) (cw : CallW R s args own C index y bytes maxL ret ws rm 0 0 n) (hn : As.length = n) (hst : st = As.reverse ++ .ref (ad kr) :: rest) (hsz : ls.size = nL) (hrest : (rest.map fun v => v.category).sum ≤ 8) (hdg : decode cc pc = .ok (.invokevirtual index, 3)) (hcs : cells + 0 ≤ R.cells ∧ slots + 0 ≤ R.slots)
    (kk : ∀ (g' : PF) (H1 : Heap) (locs1 : List Loc), post g' → WH X N ad A s g' H1 locs1 → W p l e R s m args below meth c H1 locs1 cells slots Q (F0 m (pc + 3) ls rest)) : W p l e R s m args below meth c H locs cells slots Q (F0 m pc ls st) := by
  refine va_callv (va_runV (As := As) (rest := rest) C0 (hM H.size) cw ⟨PreW.blind, recv_in FX hH kr hr hg hcl, pre_in FX hH⟩ rfl hn hsz hst (lv_room hrest) hdg hcs) hH.2 (fun q _ h => pA_in FX hH q h) (pA_in FX hH) (fun u t H1 locs1 ht hvm hw hB hz1 hk1 hS => ?_)
  have hB : WP X N ad u t.heap := hB
  rw [ht] at hB
  exact kk u H1 locs1 hw ⟨hB, hS⟩
theorem rc_Vq {post : Option Nat → PF → Prop} (C0 : CallFix p m c cc nL s args Ts own) (FX : WF X N ad A s) (hH : WH X N ad A s g H locs) (kr : Nat) (hr : kr < N) {ci NN : Nat} {fs : List Value} {T : u_T} (hg : g kr = .inr (ci, fs)) (hcl : vwCl[ci]? = some (C, T, NN)) (hM : Kq l y ws rm X N ad g (.ref (ad kr) :: As) post) (cw : CallW R s args own C index y bytes maxL ret ws rm 0 0 n) (hn : As.length = n) (hst : st = As.reverse ++ .ref (ad kr) :: rest) (hsz : ls.size = nL) (hrest : (rest.map fun v => v.category).sum ≤ 8) (hdg : decode cc pc = .ok (.invokevirtual index, 3)) (hcs : cells + 0 ≤ R.cells ∧ slots + 0 ≤ R.slots)
    (kk : ∀ (r : Option Nat) (g' : PF) (H1 : Heap) (locs1 : List Loc), post r g' → WH X N ad A s g' H1 locs1 → W p l e R s m args below meth c H1 locs1 cells slots Q (F0 m (pc + 3) ls (va_rf r :: rest))) : W p l e R s m args below meth c H locs cells slots Q (F0 m pc ls st) := by
  refine va_callq (va_runV (As := As) (rest := rest) C0 (hM H.size) cw ⟨PreW.blind, recv_in FX hH kr hr hg hcl, pre_in FX hH⟩ rfl hn hsz hst (lv_room hrest) hdg hcs) hH.2 (fun q _ h => pA_in FX hH q h) (pA_in FX hH) (fun r u t H1 locs1 ht hvm hw hB hz1 hk1 hS => ?_)
  have hB : WP X N ad u t.heap := hB
  rw [ht] at hB
  exact kk r u H1 locs1 hw ⟨hB, hS⟩
/-- static calls -/
theorem rc_Si {post : Int32 → PF → Prop} (C0 : CallFix p m c cc nL s args Ts own) (FX : WF X N ad A s) (hH : WH X N ad A s g H locs) (hM : Ki l y ws rm X N ad g As post) (cw : CallB R s args own index y bytes maxL ret ws rm 0 0 n ∧ (Cond.static y).before args s = true) (hn : As.length = n) (hst : st = As.reverse ++ rest) (hsz : ls.size = nL) (hrest : (rest.map fun v => v.category).sum ≤ 8) (hdg : decode cc pc = .ok (.invokestatic index, 3)) (hcs : cells + 0 ≤ R.cells ∧ slots + 0 ≤ R.slots)
    (kk : ∀ (r : Int32) (g' : PF) (H1 : Heap) (locs1 : List Loc), post r g' → WH X N ad A s g' H1 locs1 → W p l e R s m args below meth c H1 locs1 cells slots Q (F0 m (pc + 3) ls (.int r :: rest))) : W p l e R s m args below meth c H locs cells slots Q (F0 m pc ls st) := by
  refine va_calli (va_runS (As := As) (rest := rest) C0 (hM H.size) cw ⟨PreW.blind, pre_in FX hH⟩ rfl hn hsz hst (lv_room hrest) hdg hcs) hH.2 (fun q _ h => pA_in FX hH q h) (pA_in FX hH) (fun r u t H1 locs1 ht hvm hw hB hz1 hk1 hS => ?_)
  have hB : WP X N ad u t.heap := hB
  rw [ht] at hB
  exact kk r u H1 locs1 hw ⟨hB, hS⟩
theorem rc_Sl {post : Int64 → PF → Prop} (C0 : CallFix p m c cc nL s args Ts own) (FX : WF X N ad A s) (hH : WH X N ad A s g H locs) (hM : Kl l y ws rm X N ad g As post) (cw : CallB R s args own index y bytes maxL ret ws rm 0 0 n ∧ (Cond.static y).before args s = true) (hn : As.length = n) (hst : st = As.reverse ++ rest) (hsz : ls.size = nL) (hrest : (rest.map fun v => v.category).sum ≤ 8) (hdg : decode cc pc = .ok (.invokestatic index, 3)) (hcs : cells + 0 ≤ R.cells ∧ slots + 0 ≤ R.slots)
    (kk : ∀ (r : Int64) (g' : PF) (H1 : Heap) (locs1 : List Loc), post r g' → WH X N ad A s g' H1 locs1 → W p l e R s m args below meth c H1 locs1 cells slots Q (F0 m (pc + 3) ls (.long r :: rest))) : W p l e R s m args below meth c H locs cells slots Q (F0 m pc ls st) := by
  refine va_calll (va_runS (As := As) (rest := rest) C0 (hM H.size) cw ⟨PreW.blind, pre_in FX hH⟩ rfl hn hsz hst (lv_room hrest) hdg hcs) hH.2 (fun q _ h => pA_in FX hH q h) (pA_in FX hH) (fun r u t H1 locs1 ht hvm hw hB hz1 hk1 hS => ?_)
  have hB : WP X N ad u t.heap := hB
  rw [ht] at hB
  exact kk r u H1 locs1 hw ⟨hB, hS⟩
/-- a static call of a nest mate's private method -/
theorem rc_Ni {post : Int32 → PF → Prop} (C0 : CallFix p m c cc nL s args Ts own) (FX : WF X N ad A s) (hH : WH X N ad A s g H locs) (hM : Ki l y ws rm X N ad g As post) (cw : va_CN R s args own index y host bytes maxL ret ws rm 0 0 n ∧ (Cond.static y).before args s = true ∧ True) (hn : As.length = n) (hst : st = As.reverse ++ rest) (hsz : ls.size = nL) (hrest : (rest.map fun v => v.category).sum ≤ 8) (hdg : decode cc pc = .ok (.invokestatic index, 3)) (hcs : cells + 0 ≤ R.cells ∧ slots + 0 ≤ R.slots)
    (kk : ∀ (r : Int32) (g' : PF) (H1 : Heap) (locs1 : List Loc), post r g' → WH X N ad A s g' H1 locs1 → W p l e R s m args below meth c H1 locs1 cells slots Q (F0 m (pc + 3) ls (.int r :: rest))) : W p l e R s m args below meth c H locs cells slots Q (F0 m pc ls st) := by
  refine va_calli (va_runSN (As := As) (rest := rest) C0 (hM H.size) cw ⟨PreW.blind, pre_in FX hH⟩ rfl hn hsz hst (lv_room hrest) hdg hcs) hH.2 (fun q _ h => pA_in FX hH q h) (pA_in FX hH) (fun r u t H1 locs1 ht hvm hw hB hz1 hk1 hS => ?_)
  have hB : WP X N ad u t.heap := hB
  rw [ht] at hB
  exact kk r u H1 locs1 hw ⟨hB, hS⟩
/-! longs compared, and the branch behind -/
theorem lc_eq (hx : p.tables.exec = Jvm.exec) (hb : c.code = cc) {x z : Int64} {off : Int} (tgt : Nat) (hd : decode cc pc = .ok (.lcmp, 1)) (hdg : decode cc (pc + 1) = .ok (.ifCond .eq off, 3)) (ht : ((pc + 1 : Nat) : Int) + off = (tgt : Int))
    (kt : x = z → W p l e R s m args below meth c H locs cells slots Q (F0 m tgt ls rest)) (kf : ¬ x = z → W p l e R s m args below meth c H locs cells slots Q (F0 m (pc + 4) ls rest)) : W p l e R s m args below meth c H locs cells slots Q (F0 m pc ls (.long z :: .long x :: rest)) :=
  W.lcmp hx hb hd (lv_if_eq hx hb hdg ht (fun h => kt ((lg_cmp_eq x z).mp h)) (fun h => kf (fun h2 => h ((lg_cmp_eq x z).mpr h2))))
theorem lc_ne (hx : p.tables.exec = Jvm.exec) (hb : c.code = cc) {x z : Int64} {off : Int} (tgt : Nat) (hd : decode cc pc = .ok (.lcmp, 1)) (hdg : decode cc (pc + 1) = .ok (.ifCond .ne off, 3)) (ht : ((pc + 1 : Nat) : Int) + off = (tgt : Int))
    (kt : ¬ x = z → W p l e R s m args below meth c H locs cells slots Q (F0 m tgt ls rest)) (kf : x = z → W p l e R s m args below meth c H locs cells slots Q (F0 m (pc + 4) ls rest)) : W p l e R s m args below meth c H locs cells slots Q (F0 m pc ls (.long z :: .long x :: rest)) :=
  W.lcmp hx hb hd (lv_if_ne hx hb hdg ht (fun h => kt (fun h2 => h ((lg_cmp_eq x z).mpr h2))) (fun h => kf ((lg_cmp_eq x z).mp h)))
theorem lc_lt (hx : p.tables.exec = Jvm.exec) (hb : c.code = cc) {x z : Int64} {off : Int} (tgt : Nat) (hd : decode cc pc = .ok (.lcmp, 1)) (hdg : decode cc (pc + 1) = .ok (.ifCond .lt off, 3)) (ht : ((pc + 1 : Nat) : Int) + off = (tgt : Int))
    (kt : x < z → W p l e R s m args below meth c H locs cells slots Q (F0 m tgt ls rest)) (kf : ¬ x < z → W p l e R s m args below meth c H locs cells slots Q (F0 m (pc + 4) ls rest)) : W p l e R s m args below meth c H locs cells slots Q (F0 m pc ls (.long z :: .long x :: rest)) :=
  W.lcmp hx hb hd (lv_if_lt hx hb hdg ht (fun h => kt ((lg_cmp_lt x z).mp h)) (fun h => kf (fun h2 => h ((lg_cmp_lt x z).mpr h2))))
theorem lc_ge (hx : p.tables.exec = Jvm.exec) (hb : c.code = cc) {x z : Int64} {off : Int} (tgt : Nat) (hd : decode cc pc = .ok (.lcmp, 1)) (hdg : decode cc (pc + 1) = .ok (.ifCond .ge off, 3)) (ht : ((pc + 1 : Nat) : Int) + off = (tgt : Int))
    (kt : z ≤ x → W p l e R s m args below meth c H locs cells slots Q (F0 m tgt ls rest)) (kf : ¬ z ≤ x → W p l e R s m args below meth c H locs cells slots Q (F0 m (pc + 4) ls rest)) : W p l e R s m args below meth c H locs cells slots Q (F0 m pc ls (.long z :: .long x :: rest)) :=
  W.lcmp hx hb hd (lv_if_ge hx hb hdg ht (fun h => kt ((lg_cmp_ge x z).mp h)) (fun h => kf (fun h2 => h ((lg_cmp_ge x z).mpr h2))))
theorem lc_gt (hx : p.tables.exec = Jvm.exec) (hb : c.code = cc) {x z : Int64} {off : Int} (tgt : Nat) (hd : decode cc pc = .ok (.lcmp, 1)) (hdg : decode cc (pc + 1) = .ok (.ifCond .gt off, 3)) (ht : ((pc + 1 : Nat) : Int) + off = (tgt : Int))
    (kt : z < x → W p l e R s m args below meth c H locs cells slots Q (F0 m tgt ls rest)) (kf : ¬ z < x → W p l e R s m args below meth c H locs cells slots Q (F0 m (pc + 4) ls rest)) : W p l e R s m args below meth c H locs cells slots Q (F0 m pc ls (.long z :: .long x :: rest)) :=
  W.lcmp hx hb hd (lv_if_gt hx hb hdg ht (fun h => kt ((lg_cmp_gt x z).mp h)) (fun h => kf (fun h2 => h ((lg_cmp_gt x z).mpr h2))))
theorem lc_le (hx : p.tables.exec = Jvm.exec) (hb : c.code = cc) {x z : Int64} {off : Int} (tgt : Nat) (hd : decode cc pc = .ok (.lcmp, 1)) (hdg : decode cc (pc + 1) = .ok (.ifCond .le off, 3)) (ht : ((pc + 1 : Nat) : Int) + off = (tgt : Int))
    (kt : x ≤ z → W p l e R s m args below meth c H locs cells slots Q (F0 m tgt ls rest)) (kf : ¬ x ≤ z → W p l e R s m args below meth c H locs cells slots Q (F0 m (pc + 4) ls rest)) : W p l e R s m args below meth c H locs cells slots Q (F0 m pc ls (.long z :: .long x :: rest)) :=
  W.lcmp hx hb hd (lv_if_le hx hb hdg ht (fun h => kt ((lg_cmp_le x z).mp h)) (fun h => kf (fun h2 => h ((lg_cmp_le x z).mpr h2))))
theorem nl_eq (hx : p.tables.exec = Jvm.exec) (hb : c.code = cc) {a b : Nat} {off : Int} (tgt : Nat) (hd : decode cc pc = .ok (.lcmp, 1)) (hdg : decode cc (pc + 1) = .ok (.ifCond .eq off, 3)) (ht : ((pc + 1 : Nat) : Int) + off = (tgt : Int)) (h1 : a < 2 ^ 63) (h2 : b < 2 ^ 63)
    (kt : a = b → W p l e R s m args below meth c H locs cells slots Q (F0 m tgt ls rest)) (kf : a ≠ b → W p l e R s m args below meth c H locs cells slots Q (F0 m (pc + 4) ls rest)) : W p l e R s m args below meth c H locs cells slots Q (F0 m pc ls (.long (lN b) :: .long (lN a) :: rest)) :=
  lc_eq hx hb tgt hd hdg ht (fun h => kt ((pk_lEQ h1 h2).mp h)) (fun h => kf (fun h3 => h ((pk_lEQ h1 h2).mpr h3)))
theorem nl_ne (hx : p.tables.exec = Jvm.exec) (hb : c.code = cc) {a b : Nat} {off : Int} (tgt : Nat) (hd : decode cc pc = .ok (.lcmp, 1)) (hdg : decode cc (pc + 1) = .ok (.ifCond .ne off, 3)) (ht : ((pc + 1 : Nat) : Int) + off = (tgt : Int)) (h1 : a < 2 ^ 63) (h2 : b < 2 ^ 63)
    (kt : a ≠ b → W p l e R s m args below meth c H locs cells slots Q (F0 m tgt ls rest)) (kf : a = b → W p l e R s m args below meth c H locs cells slots Q (F0 m (pc + 4) ls rest)) : W p l e R s m args below meth c H locs cells slots Q (F0 m pc ls (.long (lN b) :: .long (lN a) :: rest)) :=
  lc_ne hx hb tgt hd hdg ht (fun h => kt (fun h3 => h ((pk_lEQ h1 h2).mpr h3))) (fun h => kf ((pk_lEQ h1 h2).mp h))
theorem nl_lt (hx : p.tables.exec = Jvm.exec) (hb : c.code = cc) {a b : Nat} {off : Int} (tgt : Nat) (hd : decode cc pc = .ok (.lcmp, 1)) (hdg : decode cc (pc + 1) = .ok (.ifCond .lt off, 3)) (ht : ((pc + 1 : Nat) : Int) + off = (tgt : Int)) (h1 : a < 2 ^ 63) (h2 : b < 2 ^ 63)
    (kt : a < b → W p l e R s m args below meth c H locs cells slots Q (F0 m tgt ls rest)) (kf : b ≤ a → W p l e R s m args below meth c H locs cells slots Q (F0 m (pc + 4) ls rest)) : W p l e R s m args below meth c H locs cells slots Q (F0 m pc ls (.long (lN b) :: .long (lN a) :: rest)) :=
  lc_lt hx hb tgt hd hdg ht (fun h => kt ((pk_lLT h1 h2).mp h)) (fun h => kf (Nat.le_of_not_lt (fun h3 => h ((pk_lLT h1 h2).mpr h3))))
theorem nl_ge (hx : p.tables.exec = Jvm.exec) (hb : c.code = cc) {a b : Nat} {off : Int} (tgt : Nat) (hd : decode cc pc = .ok (.lcmp, 1)) (hdg : decode cc (pc + 1) = .ok (.ifCond .ge off, 3)) (ht : ((pc + 1 : Nat) : Int) + off = (tgt : Int)) (h1 : a < 2 ^ 63) (h2 : b < 2 ^ 63)
    (kt : b ≤ a → W p l e R s m args below meth c H locs cells slots Q (F0 m tgt ls rest)) (kf : a < b → W p l e R s m args below meth c H locs cells slots Q (F0 m (pc + 4) ls rest)) : W p l e R s m args below meth c H locs cells slots Q (F0 m pc ls (.long (lN b) :: .long (lN a) :: rest)) :=
  lc_ge hx hb tgt hd hdg ht (fun h => kt ((pk_lLE h2 h1).mp h)) (fun h => kf (Nat.lt_of_not_le (fun h3 => h ((pk_lLE h2 h1).mpr h3))))
theorem nl_gt (hx : p.tables.exec = Jvm.exec) (hb : c.code = cc) {a b : Nat} {off : Int} (tgt : Nat) (hd : decode cc pc = .ok (.lcmp, 1)) (hdg : decode cc (pc + 1) = .ok (.ifCond .gt off, 3)) (ht : ((pc + 1 : Nat) : Int) + off = (tgt : Int)) (h1 : a < 2 ^ 63) (h2 : b < 2 ^ 63)
    (kt : b < a → W p l e R s m args below meth c H locs cells slots Q (F0 m tgt ls rest)) (kf : a ≤ b → W p l e R s m args below meth c H locs cells slots Q (F0 m (pc + 4) ls rest)) : W p l e R s m args below meth c H locs cells slots Q (F0 m pc ls (.long (lN b) :: .long (lN a) :: rest)) :=
  lc_gt hx hb tgt hd hdg ht (fun h => kt ((pk_lLT h2 h1).mp h)) (fun h => kf (Nat.le_of_not_lt (fun h3 => h ((pk_lLT h2 h1).mpr h3))))
theorem nl_le (hx : p.tables.exec = Jvm.exec) (hb : c.code = cc) {a b : Nat} {off : Int} (tgt : Nat) (hd : decode cc pc = .ok (.lcmp, 1)) (hdg : decode cc (pc + 1) = .ok (.ifCond .le off, 3)) (ht : ((pc + 1 : Nat) : Int) + off = (tgt : Int)) (h1 : a < 2 ^ 63) (h2 : b < 2 ^ 63)
    (kt : a ≤ b → W p l e R s m args below meth c H locs cells slots Q (F0 m tgt ls rest)) (kf : b < a → W p l e R s m args below meth c H locs cells slots Q (F0 m (pc + 4) ls rest)) : W p l e R s m args below meth c H locs cells slots Q (F0 m pc ls (.long (lN b) :: .long (lN a) :: rest)) :=
  lc_le hx hb tgt hd hdg ht (fun h => kt ((pk_lLE h1 h2).mp h)) (fun h => kf (Nat.lt_of_not_le (fun h3 => h ((pk_lLE h1 h2).mpr h3))))
/-! one int against 0 -/
theorem ni_eq0 (hx : p.tables.exec = Jvm.exec) (hb : c.code = cc) {a : Nat} {off : Int} (tgt : Nat) (hdg : decode cc pc = .ok (.ifCond .eq off, 3)) (ht : (pc : Int) + off = (tgt : Int)) (h1 : a < 2 ^ 31)
    (kt : a = 0 → W p l e R s m args below meth c H locs cells slots Q (F0 m tgt ls rest)) (kf : 0 < a → W p l e R s m args below meth c H locs cells slots Q (F0 m (pc + 3) ls rest)) : W p l e R s m args below meth c H locs cells slots Q (F0 m pc ls (.int (nI a) :: rest)) :=
  lv_if_eq hx hb hdg ht (fun h => kt ((nI_eq h1 (show 0 < 2 ^ 31 by omega)).mp h)) (fun h => kf (Nat.pos_of_ne_zero (fun h2 => h (by rw [h2]; rfl))))
theorem ni_ne0 (hx : p.tables.exec = Jvm.exec) (hb : c.code = cc) {a : Nat} {off : Int} (tgt : Nat) (hdg : decode cc pc = .ok (.ifCond .ne off, 3)) (ht : (pc : Int) + off = (tgt : Int)) (h1 : a < 2 ^ 31)
    (kt : 0 < a → W p l e R s m args below meth c H locs cells slots Q (F0 m tgt ls rest)) (kf : a = 0 → W p l e R s m args below meth c H locs cells slots Q (F0 m (pc + 3) ls rest)) : W p l e R s m args below meth c H locs cells slots Q (F0 m pc ls (.int (nI a) :: rest)) :=
  lv_if_ne hx hb hdg ht (fun h => kt (Nat.pos_of_ne_zero (fun h2 => h (by rw [h2]; rfl)))) (fun h => kf ((nI_eq h1 (show 0 < 2 ^ 31 by omega)).mp h))
theorem ni_gt0 (hx : p.tables.exec = Jvm.exec) (hb : c.code = cc) {a : Nat} {off : Int} (tgt : Nat) (hdg : decode cc pc = .ok (.ifCond .gt off, 3)) (ht : (pc : Int) + off = (tgt : Int)) (h1 : a < 2 ^ 31)
    (kt : 0 < a → W p l e R s m args below meth c H locs cells slots Q (F0 m tgt ls rest)) (kf : a = 0 → W p l e R s m args below meth c H locs cells slots Q (F0 m (pc + 3) ls rest)) : W p l e R s m args below meth c H locs cells slots Q (F0 m pc ls (.int (nI a) :: rest)) :=
  lv_if_gt hx hb hdg ht (fun h => kt ((nI_ltI (show 0 < 2 ^ 31 by omega) h1).mp h)) (fun h => kf (Nat.eq_zero_of_not_pos (fun h2 => h ((nI_ltI (show 0 < 2 ^ 31 by omega) h1).mpr h2))))
theorem ni_le0 (hx : p.tables.exec = Jvm.exec) (hb : c.code = cc) {a : Nat} {off : Int} (tgt : Nat) (hdg : decode cc pc = .ok (.ifCond .le off, 3)) (ht : (pc : Int) + off = (tgt : Int)) (h1 : a < 2 ^ 31)
    (kt : a = 0 → W p l e R s m args below meth c H locs cells slots Q (F0 m tgt ls rest)) (kf : 0 < a → W p l e R s m args below meth c H locs cells slots Q (F0 m (pc + 3) ls rest)) : W p l e R s m args below meth c H locs cells slots Q (F0 m pc ls (.int (nI a) :: rest)) :=
  lv_if_le hx hb hdg ht (fun h => kt (Nat.le_zero.mp ((nI_leI h1 (show 0 < 2 ^ 31 by omega)).mp h))) (fun h => kf (Nat.pos_of_ne_zero (fun h2 => h (by rw [h2]; decide))))
theorem ni_lt0 (hx : p.tables.exec = Jvm.exec) (hb : c.code = cc) {a : Nat} {off : Int} (hdg : decode cc pc = .ok (.ifCond .lt off, 3)) (tgt : Nat) (ht : (pc : Int) + off = (tgt : Int)) (h1 : a < 2 ^ 31)
    (kf : W p l e R s m args below meth c H locs cells slots Q (F0 m (pc + 3) ls rest)) : W p l e R s m args below meth c H locs cells slots Q (F0 m pc ls (.int (nI a) :: rest)) :=
  lv_if_lt hx hb hdg ht (fun h => absurd h (nI_pos h1)) (fun _ => kf)
theorem ni_ge0 (hx : p.tables.exec = Jvm.exec) (hb : c.code = cc) {a : Nat} {off : Int} (tgt : Nat) (hdg : decode cc pc = .ok (.ifCond .ge off, 3)) (ht : (pc : Int) + off = (tgt : Int)) (h1 : a < 2 ^ 31)
    (kt : W p l e R s m args below meth c H locs cells slots Q (F0 m tgt ls rest)) : W p l e R s m args below meth c H locs cells slots Q (F0 m pc ls (.int (nI a) :: rest)) :=
  lv_if_ge hx hb hdg ht (fun _ => kt) (fun h => absurd (nI_pos' h1) h)
/-! a boolean -/
def bI (P : Prop) [Decidable P] : Int32 := if P then 1 else 0
theorem bI_0 {P : Prop} [Decidable P] : bI P = 0 ↔ ¬ P := by unfold bI; by_cases h : P <;> simp [h]
theorem rb_eq {P : Prop} [Decidable P] (hx : p.tables.exec = Jvm.exec) (hb : c.code = cc) {off : Int} (tgt : Nat) (hdg : decode cc pc = .ok (.ifCond .eq off, 3)) (ht : (pc : Int) + off = (tgt : Int))
    (kt : ¬ P → W p l e R s m args below meth c H locs cells slots Q (F0 m tgt ls rest)) (kf : P → W p l e R s m args below meth c H locs cells slots Q (F0 m (pc + 3) ls rest)) : W p l e R s m args below meth c H locs cells slots Q (F0 m pc ls (.int (bI P) :: rest)) :=
  lv_if_eq hx hb hdg ht (fun h => kt (bI_0.mp h)) (fun h => kf (Decidable.of_not_not (fun h2 => h (bI_0.mpr h2))))
theorem rb_ne {P : Prop} [Decidable P] (hx : p.tables.exec = Jvm.exec) (hb : c.code = cc) {off : Int} (tgt : Nat) (hdg : decode cc pc = .ok (.ifCond .ne off, 3)) (ht : (pc : Int) + off = (tgt : Int))
    (kt : P → W p l e R s m args below meth c H locs cells slots Q (F0 m tgt ls rest)) (kf : ¬ P → W p l e R s m args below meth c H locs cells slots Q (F0 m (pc + 3) ls rest)) : W p l e R s m args below meth c H locs cells slots Q (F0 m pc ls (.int (bI P) :: rest)) :=
  lv_if_ne hx hb hdg ht (fun h => kt (Decidable.of_not_not (fun h2 => h (bI_0.mpr h2)))) (fun h => kf (bI_0.mp h))
theorem bI_nar {P : Prop} [Decidable P] : narrow .boolean (.int (bI P)) = .int (bI P) := by unfold bI; by_cases h : P <;> simp [h] <;> decide
end YC
