theorem arr_cI {X : Cx} {s : State} {cA : ClassId} (h : va_K X.1 vwCl (tyl X) s) (h2 : va_K X.1 vwCl (tyl X ++ [(cA, .int)]) s) : cA = X.2.1 := by
  have a1 : s.vm.findClass ("[" ++ (FieldType.int).toString) = some X.2.1 := (h.2 0 _ rfl).2
  have a2 : s.vm.findClass ("[" ++ (FieldType.int).toString) = some cA := (h2.2 3 _ rfl).2
  exact Option.some.inj (a2.symm.trans a1)
theorem arr_cM {X : Cx} {s : State} {cA : ClassId} (h : va_K X.1 vwCl (tyl X) s) (h2 : va_K X.1 vwCl (tyl X ++ [(cA, .object RX2)]) s) : cA = X.2.2.1 := by
  obtain ⟨_, _, _, _, _, a1⟩ := (h.2 1 _ rfl).2
  obtain ⟨_, _, _, _, _, a2⟩ := (h2.2 3 _ rfl).2
  exact Option.some.inj (a2.symm.trans a1)
theorem arr_cR {X : Cx} {s : State} {cA : ClassId} (h : va_K X.1 vwCl (tyl X) s) (h2 : va_K X.1 vwCl (tyl X ++ [(cA, .object RX3)]) s) : cA = X.2.2.2 := by
  obtain ⟨_, _, _, _, _, a1⟩ := (h.2 2 _ rfl).2
  obtain ⟨_, _, _, _, _, a2⟩ := (h2.2 3 _ rfl).2
  exact Option.some.inj (a2.symm.trans a1)
def WO (s : State) : Prop := va_AO RX2 s ∧ va_AO RX3 s
theorem WO.moved {s U : State} (h : WO s) (hv : s.vm.Alike U.vm) : WO U := ⟨va_AO.moved hv h.1, va_AO.moved hv h.2⟩
/-- a constructor's start: the cells ws, the tables -/
def PreC (X : Cx) (ws : va_W) (sz : Nat) (av : List Value) : Array Value → State → Prop := va_Pc av (fun U => U.heap.size = sz ∧ va_P X.1 vwCl ws U.heap ∧ va_D (fun _ => True) ws ∧ WK X U ∧ WO U)
theorem PreC.blind {X : Cx} {ws : va_W} {sz : Nat} {av : List Value} : FrameBlind (PreC X ws sz av) := fun a U gg mk q => by
  obtain ⟨q0, q1, qP, qD, qK, qO⟩ := q
  exact ⟨q0, q1, qP, qD, qK.same (by rfl), qO.moved (Vm.Alike.refl U.vm)⟩
theorem preC_in {X : Cx} {ws wc : va_W} {s : State} {H : Heap} {A : Nat → Prop} {av : List Value} (hK : WK X s) (hO : WO s) (hP : va_P X.1 vwCl wc H) (hD : va_D A wc) : ∀ U : State, U.heap = H → s.WarmedH U.vm → PreC X wc H.size av av.toArray U := fun U hU hW => ⟨rfl, by rw [hU], by rw [hU]; exact hP, hD.weaken (fun _ _ _ _ => trivial), hK.warm hW, hO.moved hW.alike⟩
/-- a constructor's contract: mc cells of ms slots come; u are their addresses, cs all cells behind it -/
def Kc (l : Launch) (y : MethodName) (ws : List Cond) (rm : Room) (X : Cx) (w0 : va_W) (av : List Value) (mc ms : Nat) (cs : (Nat → Nat) → va_W) : Prop := ∀ sz : Nat, Met l y ws rm (PreC X w0 sz av) (va_Qv (fun _ : Nat → Nat => True) (fun u t => va_P X.1 vwCl (cs u) t.heap ∧ va_D (va_A w0 sz) (cs u)) (va_A w0 sz)) mc ms (va_A w0 sz)
def ENC (y : MethodName) (ws : List Cond) (X : Cx) (w0 : va_W) (av : List Value) (cc : ByteArray) (maxL : Nat) (p : Program) (s : State) (m : MethodId) (meth : Method) (c : Code) : Prop :=
  CallFix p m c cc maxL s av.toArray ws y.cls ∧ va_P X.1 vwCl w0 s.heap ∧ va_D (va_A w0 s.heap.size) w0 ∧ WK X s ∧ WO s ∧ meth.name = y.name ∧ va_S (va_A w0 s.heap.size) s.heap s.heap [] ∧ ∀ q : Nat, s.heap.size ≤ q → va_A w0 s.heap.size q
theorem Kc.of {l : Launch} {y : MethodName} {ws ws' : List Cond} {rm : Room} {X : Cx} {w0 : va_W} {av : List Value} {mc ms : Nat} {cs : (Nat → Nat) → va_W} {cc : ByteArray} {maxL : Nat} (hy : plainName y.cls = true) (hw : ws = Cond.code y cc maxL none :: ws') (hsl : (lg_sl av).length ≤ maxL)
    (body : ∀ (p : Program) (e : Env) (s : State) (m : MethodId) (below : List Frame) (meth : Method) (c : Code) (Q : State → Prop), ENC y ws X w0 av cc maxL p s m meth c →
      (∀ (pc k n : Nat) (u : Nat → Nat) (H : Heap) (locs : List Loc) (ls : Array Slot), decode cc pc = .ok (.return_, 1) → k ≤ mc → n ≤ ms → va_P X.1 vwCl (cs u) H → va_D (va_A w0 s.heap.size) (cs u) → va_S (va_A w0 s.heap.size) s.heap H locs → W p l e rm s m av.toArray below meth c H locs k n Q (F0 m pc ls [])) →
      ∀ ls : Array Slot, lv_has ls maxL (lv_args 0 av) → W p l e rm s m av.toArray below meth c s.heap [] 0 0 Q (F0 m 0 ls [])) : Kc l y ws rm X w0 av mc ms cs := by
  intro sz
  refine Met.ofW (cc := cc) (maxL := maxL) (ret := none) hy hw ?_
  intro p e s m args below meth c s₁ B hml hv
  obtain ⟨rfl, hsz, hP, hD, hK, hO⟩ := hv
  subst hsz
  have hlocks := B.notSynchronized
  have E : ENC y ws X w0 av cc maxL p s m meth c := ⟨⟨B.exec, B.bytes, hml, findClass_of_methodNamed B.named, atoms_spec (ws := ws) B.pre⟩, hP, hD.self, hK, hO, (name_of_methodNamed B.named B.method).1, va_S.rf, fun q h => Or.inr h⟩
  rw [lg_entry_eq]
  refine body p e s m below meth c _ E (fun pc k n u H locs ls hd hk hn hP1 hD1 hS1 => ?_) _ (lv_entry av hsl)
  refine W.widen (k := mc) (n := ms) hk hn ?_
  exact W.vret E.1.1 E.1.2.1 B.returns (fun t ht hW => ⟨⟨u, rfl, trivial, by rw [ht]; exact hP1, hD1⟩, hS1.F ht⟩) hS1.2.2 hd
