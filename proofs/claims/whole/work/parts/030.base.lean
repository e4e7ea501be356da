/-! the world by roles: role k stands at the address ad k and holds g k -/
abbrev PF : Type := Nat → va_E
abbrev Cx : Type := va_G × ClassId × ClassId × ClassId
def tyl (X : Cx) : List (ClassId × FieldType) := [(X.2.1, .int), (X.2.2.1, .object RX2), (X.2.2.2, .object RX3)]
def wl (N : Nat) (ad : Nat → Nat) (g : PF) : va_W := (List.range N).map (fun k => (ad k, g k))
def nestM : List (String × Nat × MethodName) := [(RX1, 26, yX0_init), (RX1, 31, yX2_init), (RX5, 22, yX3_init), (RX5, 25, yX4_init), (RX1, 34, yX5_within), (RX3, 17, yX5_within), (RX4, 24, yX5_within)]
def WK (X : Cx) (s : State) : Prop := va_K X.1 vwCl (tyl X) s ∧ ∀ q ∈ nestM, va_Nw (.methodLinkNest q.1 q.2.1 q.2.2 RX5) s
theorem WK.warm {X : Cx} {s U : State} (h : WK X s) (hW : s.WarmedH U.vm) : WK X U := ⟨va_K.moved hW.alike h.1, fun q hq => va_Nw.warmM hW (h.2 q hq)⟩
theorem WK.same {X : Cx} {s U : State} (h : WK X s) (hW : s.vm = U.vm) : WK X U := ⟨va_K.moved (by rw [hW]; exact Vm.Alike.refl U.vm) h.1, fun q hq => va_Nw.same rfl hW (h.2 q hq)⟩
def WP (X : Cx) (N : Nat) (ad : Nat → Nat) (g : PF) (H : Heap) : Prop := va_P X.1 vwCl (wl N ad g) H
def inj (N : Nat) (ad : Nat → Nat) : Prop := ∀ i j, i < N → j < N → ad i = ad j → i = j
def pA (N : Nat) (ad : Nat → Nat) (sz : Nat) : Nat → Prop := fun q => (∃ k, k < N ∧ ad k = q) ∨ sz ≤ q
theorem wl_get {N : Nat} {ad : Nat → Nat} {g : PF} {k : Nat} (h : k < N) : (wl N ad g)[k]? = some (ad k, g k) := by simp [wl, h]
theorem wl_get' {N : Nat} {ad : Nat → Nat} {g : PF} {k : Nat} {e : va_E} (h : k < N) (hg : g k = e) : (wl N ad g)[k]? = some (ad k, e) := by rw [wl_get h, hg]
theorem wl_inv {N : Nat} {ad : Nat → Nat} {g : PF} {k : Nat} {q : Nat × va_E} (h : (wl N ad g)[k]? = some q) : k < N ∧ q = (ad k, g k) := by
  by_cases hk : k < N
  · rw [wl_get hk] at h; exact ⟨hk, (Option.some.inj h).symm⟩
  · have : (wl N ad g)[k]? = none := by simp [wl]; omega
    rw [this] at h; cases h
theorem wl_set {N : Nat} {ad : Nat → Nat} {g : PF} {k : Nat} (h : k < N) (e : va_E) : (wl N ad g).set k (ad k, e) = wl N ad (va_up g k e) := by
  apply List.ext_getElem?
  intro i
  by_cases hi : i < N
  · rw [wl_get hi, List.getElem?_set]
    by_cases hk : k = i
    · subst hk; simp [wl, h, va_up]
    · rw [if_neg hk, wl_get hi, va_up_ne _ _ (fun e => hk e.symm)]
  · have e1 : (wl N ad (va_up g k e))[i]? = none := by simp [wl]; omega
    rw [e1]; simp [wl]; omega
theorem wl_D {N : Nat} {ad : Nat → Nat} {g : PF} {A : Nat → Prop} (hi : inj N ad) (hA : ∀ k, k < N → A (ad k)) : va_D A (wl N ad g) := by
  refine ⟨fun i j p q h1 h2 e => ?_, fun k q h => ?_⟩
  · obtain ⟨a1, rfl⟩ := wl_inv h1
    obtain ⟨a2, rfl⟩ := wl_inv h2
    exact hi i j a1 a2 e
  · obtain ⟨a1, rfl⟩ := wl_inv h
    exact hA k a1
def WF (X : Cx) (N : Nat) (ad : Nat → Nat) (A : Nat → Prop) (s : State) : Prop := WK X s ∧ inj N ad ∧ (∀ k, k < N → A (ad k)) ∧ ∀ q, s.heap.size ≤ q → A q
def WH (X : Cx) (N : Nat) (ad : Nat → Nat) (A : Nat → Prop) (s : State) (g : PF) (H : Heap) (locs : List Loc) : Prop := WP X N ad g H ∧ va_S A s.heap H locs
def PreW (X : Cx) (N : Nat) (ad : Nat → Nat) (g : PF) (sz : Nat) (av : List Value) : Array Value → State → Prop := va_Pc av (fun U => U.heap.size = sz ∧ WP X N ad g U.heap ∧ WK X U)
theorem PreW.blind {X : Cx} {N : Nat} {ad : Nat → Nat} {g : PF} {sz : Nat} {av : List Value} : FrameBlind (PreW X N ad g sz av) := fun a U gg mk q => by
  obtain ⟨q0, q1, qP, qK⟩ := q
  exact ⟨q0, q1, qP, qK.same (by rfl)⟩
def BW (X : Cx) (N : Nat) (ad : Nat → Nat) (g : PF) (t : State) : Prop := WP X N ad g t.heap
/-- contracts: an int, a long, nothing, a reference or null -/
def Ki (l : Launch) (y : MethodName) (ws : List Cond) (rm : Room) (X : Cx) (N : Nat) (ad : Nat → Nat) (g : PF) (av : List Value) (post : Int32 → PF → Prop) : Prop := ∀ sz : Nat, Met l y ws rm (PreW X N ad g sz av) (va_Qi post (BW X N ad) (pA N ad sz)) 0 0 (pA N ad sz)
def Kl (l : Launch) (y : MethodName) (ws : List Cond) (rm : Room) (X : Cx) (N : Nat) (ad : Nat → Nat) (g : PF) (av : List Value) (post : Int64 → PF → Prop) : Prop := ∀ sz : Nat, Met l y ws rm (PreW X N ad g sz av) (va_Ql post (BW X N ad) (pA N ad sz)) 0 0 (pA N ad sz)
def Kv (l : Launch) (y : MethodName) (ws : List Cond) (rm : Room) (X : Cx) (N : Nat) (ad : Nat → Nat) (g : PF) (av : List Value) (post : PF → Prop) : Prop := ∀ sz : Nat, Met l y ws rm (PreW X N ad g sz av) (va_Qv post (BW X N ad) (pA N ad sz)) 0 0 (pA N ad sz)
def Kq (l : Launch) (y : MethodName) (ws : List Cond) (rm : Room) (X : Cx) (N : Nat) (ad : Nat → Nat) (g : PF) (av : List Value) (post : Option Nat → PF → Prop) : Prop := ∀ sz : Nat, Met l y ws rm (PreW X N ad g sz av) (va_Qq post (BW X N ad) (pA N ad sz)) 0 0 (pA N ad sz)
/-- what stands at a method's entry -/
def ENT (l : Launch) (y : MethodName) (ws : List Cond) (rm : Room) (X : Cx) (N : Nat) (ad : Nat → Nat) (g : PF) (av : List Value) (cc : ByteArray) (maxL : Nat) (p : Program) (e : Env) (s : State) (m : MethodId) (below : List Frame) (meth : Method) (c : Code) : Prop :=
  CallFix p m c cc maxL s av.toArray ws y.cls ∧ WF X N ad (pA N ad s.heap.size) s ∧ WH X N ad (pA N ad s.heap.size) s g s.heap []
theorem ENT.of {l : Launch} {y : MethodName} {ws : List Cond} {rm : Room} {X : Cx} {N : Nat} {ad : Nat → Nat} {g : PF} {av : List Value} {cc : ByteArray} {maxL : Nat} {ret : Option FieldType} {p : Program} {e : Env} {s : State} {m : MethodId} {below : List Frame} {meth : Method} {c : Code} {s₁ : State} {sz : Nat} (hi : inj N ad) (B : BodyLoose p l y (headSpec ws rm) cc maxL ret e s m av.toArray below meth c s₁) (hml : c.maxLocals = maxL) (hsz : s.heap.size = sz) (hP : WP X N ad g s.heap) (hK : WK X s) : ENT l y ws rm X N ad g av cc maxL p e s m below meth c := by
  refine ⟨⟨B.exec, B.bytes, hml, findClass_of_methodNamed B.named, atoms_spec (ws := ws) B.pre⟩, ⟨hK, hi, fun k hk => Or.inl ⟨k, hk, rfl⟩, fun q hq => Or.inr hq⟩, hP, va_S.rf⟩
theorem Ki.of {l : Launch} {y : MethodName} {ws ws' : List Cond} {rm : Room} {X : Cx} {N : Nat} {ad : Nat → Nat} {g : PF} {av : List Value} {post : Int32 → PF → Prop} {cc : ByteArray} {maxL : Nat} {ty : FieldType} (hi : inj N ad) (hy : plainName y.cls = true) (hw : ws = Cond.code y cc maxL (some ty) :: ws') (hsl : (lg_sl av).length ≤ maxL)
    (body : ∀ (p : Program) (e : Env) (s : State) (m : MethodId) (below : List Frame) (meth : Method) (c : Code) (Q : State → Prop), ENT l y ws rm X N ad g av cc maxL p e s m below meth c →
      (∀ (pc : Nat) (r : Int32) (g' : PF) (H : Heap) (locs : List Loc) (ls : Array Slot), decode cc pc = .ok (.ireturn, 1) → narrow ty (.int r) = .int r → post r g' → WH X N ad (pA N ad s.heap.size) s g' H locs → W p l e rm s m av.toArray below meth c H locs 0 0 Q (F0 m pc ls [.int r])) →
      ∀ ls : Array Slot, lv_has ls maxL (lv_args 0 av) → W p l e rm s m av.toArray below meth c s.heap [] 0 0 Q (F0 m 0 ls [])) : Ki l y ws rm X N ad g av post := by
  intro sz
  refine Met.ofW (cc := cc) (maxL := maxL) (ret := some ty) hy hw ?_
  intro p e s m args below meth c s₁ B hml hv
  obtain ⟨rfl, hsz, hP, hK⟩ := hv
  have E := ENT.of hi B hml hsz hP hK
  subst hsz
  have hlocks := B.notSynchronized
  rw [lg_entry_eq]
  refine body p e s m below meth c _ E (fun pc r g' H locs ls hd hn hp hH => ?_) _ (lv_entry av hsl)
  exact W.zret (v := r) E.1.1 E.1.2.1 B.returns hn (fun t ht hW => ⟨⟨r, g', rfl, hp, by show WP X N ad g' t.heap; rw [ht]; exact hH.1⟩, hH.2.F ht⟩) hH.2.2.2 hd
theorem Kl.of {l : Launch} {y : MethodName} {ws ws' : List Cond} {rm : Room} {X : Cx} {N : Nat} {ad : Nat → Nat} {g : PF} {av : List Value} {post : Int64 → PF → Prop} {cc : ByteArray} {maxL : Nat} (hi : inj N ad) (hy : plainName y.cls = true) (hw : ws = Cond.code y cc maxL (some .long) :: ws') (hsl : (lg_sl av).length ≤ maxL)
    (body : ∀ (p : Program) (e : Env) (s : State) (m : MethodId) (below : List Frame) (meth : Method) (c : Code) (Q : State → Prop), ENT l y ws rm X N ad g av cc maxL p e s m below meth c →
      (∀ (pc : Nat) (r : Int64) (g' : PF) (H : Heap) (locs : List Loc) (ls : Array Slot), decode cc pc = .ok (.lreturn, 1) → post r g' → WH X N ad (pA N ad s.heap.size) s g' H locs → W p l e rm s m av.toArray below meth c H locs 0 0 Q (F0 m pc ls [.long r])) →
      ∀ ls : Array Slot, lv_has ls maxL (lv_args 0 av) → W p l e rm s m av.toArray below meth c s.heap [] 0 0 Q (F0 m 0 ls [])) : Kl l y ws rm X N ad g av post := by
  intro sz
  refine Met.ofW (cc := cc) (maxL := maxL) (ret := some .long) hy hw ?_
  intro p e s m args below meth c s₁ B hml hv
  obtain ⟨rfl, hsz, hP, hK⟩ := hv
  have E := ENT.of hi B hml hsz hP hK
  subst hsz
  have hlocks := B.notSynchronized
  rw [lg_entry_eq]
  refine body p e s m below meth c _ E (fun pc r g' H locs ls hd hp hH => ?_) _ (lv_entry av hsl)
  exact W.lret (v := r) E.1.1 E.1.2.1 B.returns (fun t ht hW => ⟨⟨r, g', rfl, hp, by show WP X N ad g' t.heap; rw [ht]; exact hH.1⟩, hH.2.F ht⟩) hH.2.2.2 hd
theorem Kv.of {l : Launch} {y : MethodName} {ws ws' : List Cond} {rm : Room} {X : Cx} {N : Nat} {ad : Nat → Nat} {g : PF} {av : List Value} {post : PF → Prop} {cc : ByteArray} {maxL : Nat} (hi : inj N ad) (hy : plainName y.cls = true) (hw : ws = Cond.code y cc maxL none :: ws') (hsl : (lg_sl av).length ≤ maxL)
    (body : ∀ (p : Program) (e : Env) (s : State) (m : MethodId) (below : List Frame) (meth : Method) (c : Code) (Q : State → Prop), ENT l y ws rm X N ad g av cc maxL p e s m below meth c →
      (∀ (pc : Nat) (g' : PF) (H : Heap) (locs : List Loc) (ls : Array Slot), decode cc pc = .ok (.return_, 1) → post g' → WH X N ad (pA N ad s.heap.size) s g' H locs → W p l e rm s m av.toArray below meth c H locs 0 0 Q (F0 m pc ls [])) →
      ∀ ls : Array Slot, lv_has ls maxL (lv_args 0 av) → W p l e rm s m av.toArray below meth c s.heap [] 0 0 Q (F0 m 0 ls [])) : Kv l y ws rm X N ad g av post := by
  intro sz
  refine Met.ofW (cc := cc) (maxL := maxL) (ret := none) hy hw ?_
  intro p e s m args below meth c s₁ B hml hv
  obtain ⟨rfl, hsz, hP, hK⟩ := hv
  have E := ENT.of hi B hml hsz hP hK
  subst hsz
  have hlocks := B.notSynchronized
  rw [lg_entry_eq]
  refine body p e s m below meth c _ E (fun pc g' H locs ls hd hp hH => ?_) _ (lv_entry av hsl)
  exact W.vret E.1.1 E.1.2.1 B.returns (fun t ht hW => ⟨⟨g', rfl, hp, by show WP X N ad g' t.heap; rw [ht]; exact hH.1⟩, hH.2.F ht⟩) hH.2.2.2 hd
theorem Kq.of {l : Launch} {y : MethodName} {ws ws' : List Cond} {rm : Room} {X : Cx} {N : Nat} {ad : Nat → Nat} {g : PF} {av : List Value} {post : Option Nat → PF → Prop} {cc : ByteArray} {maxL : Nat} {C : String} (hi : inj N ad) (hy : plainName y.cls = true) (hw : ws = Cond.code y cc maxL (some (.object C)) :: ws') (hsl : (lg_sl av).length ≤ maxL)
    (body : ∀ (p : Program) (e : Env) (s : State) (m : MethodId) (below : List Frame) (meth : Method) (c : Code) (Q : State → Prop), ENT l y ws rm X N ad g av cc maxL p e s m below meth c →
      (∀ (pc : Nat) (r : Option Nat) (g' : PF) (H : Heap) (locs : List Loc) (ls : Array Slot), decode cc pc = .ok (.areturn, 1) → post r g' → WH X N ad (pA N ad s.heap.size) s g' H locs → W p l e rm s m av.toArray below meth c H locs 0 0 Q (F0 m pc ls [va_rf r])) →
      ∀ ls : Array Slot, lv_has ls maxL (lv_args 0 av) → W p l e rm s m av.toArray below meth c s.heap [] 0 0 Q (F0 m 0 ls [])) : Kq l y ws rm X N ad g av post := by
  intro sz
  refine Met.ofW (cc := cc) (maxL := maxL) (ret := some (.object C)) hy hw ?_
  intro p e s m args below meth c s₁ B hml hv
  obtain ⟨rfl, hsz, hP, hK⟩ := hv
  have E := ENT.of hi B hml hsz hP hK
  subst hsz
  have hlocks := B.notSynchronized
  rw [lg_entry_eq]
  refine body p e s m below meth c _ E (fun pc r g' H locs ls hd hp hH => ?_) _ (lv_entry av hsl)
  exact W.aret (v := va_rf r) E.1.1 E.1.2.1 B.returns (Or.inl ⟨C, rfl⟩) (va_rf_or r) (fun t ht hW => ⟨⟨r, g', rfl, hp, by show WP X N ad g' t.heap; rw [ht]; exact hH.1⟩, hH.2.F ht⟩) hH.2.2.2 hd
