-- ===== PART A: goes FIRST, ahead of the names: the tables' words, and 'selects' of the private methods out of them =====
/-- a private method of a class that the tables say can be made, by its rows of tables_1 -/
def lw_okq (q : MethodName × Nat) : Prop := (q.1.cls ≠ "java/lang/invoke/MethodHandle" ∧ q.1.cls ≠ "java/lang/invoke/VarHandle") ∧ Cond.instantiable q.1.cls q.2 ∈ tables_1 ∧ Cond.privateMethod q.1 ∈ tables_1 ∧ Cond.instanceMethod q.1 ∈ tables_1
theorem lw_p0 : lw_okq (⟨"YarnMill$Line", "reckonCount", "(I)Z"⟩, 5) := ⟨⟨by decide +kernel, by decide +kernel⟩, List.mem_of_getElem? (i := 18) (by decide +kernel), List.mem_of_getElem? (i := 196) (by decide +kernel), List.mem_of_getElem? (i := 197) (by decide +kernel)⟩
theorem lw_p1 : lw_okq (⟨"YarnMill$Fraction", "reduce", "()V"⟩, 2) := ⟨⟨by decide +kernel, by decide +kernel⟩, List.mem_of_getElem? (i := 26) (by decide +kernel), List.mem_of_getElem? (i := 204) (by decide +kernel), List.mem_of_getElem? (i := 205) (by decide +kernel)⟩
theorem lw_p2 : lw_okq (⟨"YarnMill$Line", "toldPart", "(I)J"⟩, 5) := ⟨⟨by decide +kernel, by decide +kernel⟩, List.mem_of_getElem? (i := 18) (by decide +kernel), List.mem_of_getElem? (i := 217) (by decide +kernel), List.mem_of_getElem? (i := 218) (by decide +kernel)⟩
theorem lw_p3 : lw_okq (⟨"YarnMill$Line", "reckonPeriod", "(II)V"⟩, 5) := ⟨⟨by decide +kernel, by decide +kernel⟩, List.mem_of_getElem? (i := 18) (by decide +kernel), List.mem_of_getElem? (i := 230) (by decide +kernel), List.mem_of_getElem? (i := 231) (by decide +kernel)⟩
theorem lw_p4 : lw_okq (⟨"YarnMill$Line", "isNear", "(IIII)Z"⟩, 5) := ⟨⟨by decide +kernel, by decide +kernel⟩, List.mem_of_getElem? (i := 18) (by decide +kernel), List.mem_of_getElem? (i := 244) (by decide +kernel), List.mem_of_getElem? (i := 245) (by decide +kernel)⟩
theorem lw_p5 : lw_okq (⟨"YarnMill", "rowOrNull", "(I)LYarnMill$Row;"⟩, 3) := ⟨⟨by decide +kernel, by decide +kernel⟩, List.mem_of_getElem? (i := 10) (by decide +kernel), List.mem_of_getElem? (i := 252) (by decide +kernel), List.mem_of_getElem? (i := 253) (by decide +kernel)⟩
theorem lw_p6 : lw_okq (⟨"YarnMill$Row", "sumOf", "(II)I"⟩, 2) := ⟨⟨by decide +kernel, by decide +kernel⟩, List.mem_of_getElem? (i := 85) (by decide +kernel), List.mem_of_getElem? (i := 321) (by decide +kernel), List.mem_of_getElem? (i := 322) (by decide +kernel)⟩
theorem lw_p7 : lw_okq (⟨"YarnMill$Row", "given", "(II)I"⟩, 2) := ⟨⟨by decide +kernel, by decide +kernel⟩, List.mem_of_getElem? (i := 85) (by decide +kernel), List.mem_of_getElem? (i := 338) (by decide +kernel), List.mem_of_getElem? (i := 339) (by decide +kernel)⟩
theorem lw_p8 : lw_okq (⟨"YarnMill$Row", "unevenness", "()J"⟩, 2) := ⟨⟨by decide +kernel, by decide +kernel⟩, List.mem_of_getElem? (i := 85) (by decide +kernel), List.mem_of_getElem? (i := 351) (by decide +kernel), List.mem_of_getElem? (i := 352) (by decide +kernel)⟩
theorem lw_p9 : lw_okq (⟨"YarnMill$Row", "mean", "()J"⟩, 2) := ⟨⟨by decide +kernel, by decide +kernel⟩, List.mem_of_getElem? (i := 85) (by decide +kernel), List.mem_of_getElem? (i := 389) (by decide +kernel), List.mem_of_getElem? (i := 390) (by decide +kernel)⟩
theorem lw_p10 : lw_okq (⟨"YarnMill$Row", "runFrom", "(IJZ)I"⟩, 2) := ⟨⟨by decide +kernel, by decide +kernel⟩, List.mem_of_getElem? (i := 85) (by decide +kernel), List.mem_of_getElem? (i := 393) (by decide +kernel), List.mem_of_getElem? (i := 394) (by decide +kernel)⟩
theorem lw_p11 : lw_okq (⟨"YarnMill$Row", "placeFrom", "(IJJI)I"⟩, 2) := ⟨⟨by decide +kernel, by decide +kernel⟩, List.mem_of_getElem? (i := 85) (by decide +kernel), List.mem_of_getElem? (i := 408) (by decide +kernel), List.mem_of_getElem? (i := 409) (by decide +kernel)⟩
theorem lw_p12 : lw_okq (⟨"YarnMill$Store", "openLaydown", "(II)Z"⟩, 9) := ⟨⟨by decide +kernel, by decide +kernel⟩, List.mem_of_getElem? (i := 99) (by decide +kernel), List.mem_of_getElem? (i := 439) (by decide +kernel), List.mem_of_getElem? (i := 440) (by decide +kernel)⟩
theorem lw_p13 : lw_okq (⟨"YarnMill$Store", "fillLaydown", "(IIII)Z"⟩, 9) := ⟨⟨by decide +kernel, by decide +kernel⟩, List.mem_of_getElem? (i := 99) (by decide +kernel), List.mem_of_getElem? (i := 443) (by decide +kernel), List.mem_of_getElem? (i := 444) (by decide +kernel)⟩
theorem lw_p14 : lw_okq (⟨"YarnMill$Store", "countTry", "()Z"⟩, 9) := ⟨⟨by decide +kernel, by decide +kernel⟩, List.mem_of_getElem? (i := 99) (by decide +kernel), List.mem_of_getElem? (i := 447) (by decide +kernel), List.mem_of_getElem? (i := 448) (by decide +kernel)⟩
theorem lw_p15 : lw_okq (⟨"YarnMill", "countCells", "()I"⟩, 3) := ⟨⟨by decide +kernel, by decide +kernel⟩, List.mem_of_getElem? (i := 10) (by decide +kernel), List.mem_of_getElem? (i := 472) (by decide +kernel), List.mem_of_getElem? (i := 473) (by decide +kernel)⟩
def lw_privs_1 : List (MethodName × Nat) := [(⟨"YarnMill$Line", "reckonCount", "(I)Z"⟩, 5), (⟨"YarnMill$Fraction", "reduce", "()V"⟩, 2), (⟨"YarnMill$Line", "toldPart", "(I)J"⟩, 5), (⟨"YarnMill$Line", "reckonPeriod", "(II)V"⟩, 5), (⟨"YarnMill$Line", "isNear", "(IIII)Z"⟩, 5), (⟨"YarnMill", "rowOrNull", "(I)LYarnMill$Row;"⟩, 3), (⟨"YarnMill$Row", "sumOf", "(II)I"⟩, 2), (⟨"YarnMill$Row", "given", "(II)I"⟩, 2), (⟨"YarnMill$Row", "unevenness", "()J"⟩, 2), (⟨"YarnMill$Row", "mean", "()J"⟩, 2), (⟨"YarnMill$Row", "runFrom", "(IJZ)I"⟩, 2), (⟨"YarnMill$Row", "placeFrom", "(IJJI)I"⟩, 2), (⟨"YarnMill$Store", "openLaydown", "(II)Z"⟩, 9), (⟨"YarnMill$Store", "fillLaydown", "(IIII)Z"⟩, 9), (⟨"YarnMill$Store", "countTry", "()Z"⟩, 9), (⟨"YarnMill", "countCells", "()I"⟩, 3)]
theorem lw_r1 : ∀ q ∈ lw_privs_1, lw_okq q := List.forall_mem_cons.mpr ⟨lw_p0, List.forall_mem_cons.mpr ⟨lw_p1, List.forall_mem_cons.mpr ⟨lw_p2, List.forall_mem_cons.mpr ⟨lw_p3, List.forall_mem_cons.mpr ⟨lw_p4, List.forall_mem_cons.mpr ⟨lw_p5, List.forall_mem_cons.mpr ⟨lw_p6, List.forall_mem_cons.mpr ⟨lw_p7, List.forall_mem_cons.mpr ⟨lw_p8, List.forall_mem_cons.mpr ⟨lw_p9, List.forall_mem_cons.mpr ⟨lw_p10, List.forall_mem_cons.mpr ⟨lw_p11, List.forall_mem_cons.mpr ⟨lw_p12, List.forall_mem_cons.mpr ⟨lw_p13, List.forall_mem_cons.mpr ⟨lw_p14, List.forall_mem_cons.mpr ⟨lw_p15, fun _ h => absurd h List.not_mem_nil⟩⟩⟩⟩⟩⟩⟩⟩⟩⟩⟩⟩⟩⟩⟩⟩
theorem lw_p16 : lw_okq (⟨"YarnMillModel", "isMachine", "(I)Z"⟩, 18) := ⟨⟨by decide +kernel, by decide +kernel⟩, List.mem_of_getElem? (i := 493) (by decide +kernel), List.mem_of_getElem? (i := 574) (by decide +kernel), List.mem_of_getElem? (i := 575) (by decide +kernel)⟩
theorem lw_p17 : lw_okq (⟨"YarnMillModel", "countOf", "(II)J"⟩, 18) := ⟨⟨by decide +kernel, by decide +kernel⟩, List.mem_of_getElem? (i := 493) (by decide +kernel), List.mem_of_getElem? (i := 587) (by decide +kernel), List.mem_of_getElem? (i := 588) (by decide +kernel)⟩
theorem lw_p18 : lw_okq (⟨"YarnMillModel", "periodOf", "(III)J"⟩, 18) := ⟨⟨by decide +kernel, by decide +kernel⟩, List.mem_of_getElem? (i := 493) (by decide +kernel), List.mem_of_getElem? (i := 601) (by decide +kernel), List.mem_of_getElem? (i := 602) (by decide +kernel)⟩
theorem lw_p19 : lw_okq (⟨"YarnMillModel", "becomes", "(II)I"⟩, 18) := ⟨⟨by decide +kernel, by decide +kernel⟩, List.mem_of_getElem? (i := 493) (by decide +kernel), List.mem_of_getElem? (i := 643) (by decide +kernel), List.mem_of_getElem? (i := 644) (by decide +kernel)⟩
theorem lw_p20 : lw_okq (⟨"YarnMillModel", "sum", "(I)J"⟩, 18) := ⟨⟨by decide +kernel, by decide +kernel⟩, List.mem_of_getElem? (i := 493) (by decide +kernel), List.mem_of_getElem? (i := 667) (by decide +kernel), List.mem_of_getElem? (i := 668) (by decide +kernel)⟩
theorem lw_p21 : lw_okq (⟨"YarnMillModel", "waveOf", "(II)J"⟩, 18) := ⟨⟨by decide +kernel, by decide +kernel⟩, List.mem_of_getElem? (i := 493) (by decide +kernel), List.mem_of_getElem? (i := 676) (by decide +kernel), List.mem_of_getElem? (i := 677) (by decide +kernel)⟩
theorem lw_p22 : lw_okq (⟨"YarnMillModel", "run", "(IIJII)I"⟩, 18) := ⟨⟨by decide +kernel, by decide +kernel⟩, List.mem_of_getElem? (i := 493) (by decide +kernel), List.mem_of_getElem? (i := 695) (by decide +kernel), List.mem_of_getElem? (i := 696) (by decide +kernel)⟩
theorem lw_p23 : lw_okq (⟨"YarnMillModel", "nextBale", "(II)I"⟩, 18) := ⟨⟨by decide +kernel, by decide +kernel⟩, List.mem_of_getElem? (i := 493) (by decide +kernel), List.mem_of_getElem? (i := 716) (by decide +kernel), List.mem_of_getElem? (i := 717) (by decide +kernel)⟩
theorem lw_p24 : lw_okq (⟨"YarnMillModel", "isWhole", "(IIII)Z"⟩, 18) := ⟨⟨by decide +kernel, by decide +kernel⟩, List.mem_of_getElem? (i := 493) (by decide +kernel), List.mem_of_getElem? (i := 721) (by decide +kernel), List.mem_of_getElem? (i := 722) (by decide +kernel)⟩
theorem lw_p25 : lw_okq (⟨"YarnMillModel", "manyOf", "(I)I"⟩, 18) := ⟨⟨by decide +kernel, by decide +kernel⟩, List.mem_of_getElem? (i := 493) (by decide +kernel), List.mem_of_getElem? (i := 738) (by decide +kernel), List.mem_of_getElem? (i := 739) (by decide +kernel)⟩
def lw_privs_2 : List (MethodName × Nat) := [(⟨"YarnMillModel", "isMachine", "(I)Z"⟩, 18), (⟨"YarnMillModel", "countOf", "(II)J"⟩, 18), (⟨"YarnMillModel", "periodOf", "(III)J"⟩, 18), (⟨"YarnMillModel", "becomes", "(II)I"⟩, 18), (⟨"YarnMillModel", "sum", "(I)J"⟩, 18), (⟨"YarnMillModel", "waveOf", "(II)J"⟩, 18), (⟨"YarnMillModel", "run", "(IIJII)I"⟩, 18), (⟨"YarnMillModel", "nextBale", "(II)I"⟩, 18), (⟨"YarnMillModel", "isWhole", "(IIII)Z"⟩, 18), (⟨"YarnMillModel", "manyOf", "(I)I"⟩, 18)]
theorem lw_r2 : ∀ q ∈ lw_privs_2, lw_okq q := List.forall_mem_cons.mpr ⟨lw_p16, List.forall_mem_cons.mpr ⟨lw_p17, List.forall_mem_cons.mpr ⟨lw_p18, List.forall_mem_cons.mpr ⟨lw_p19, List.forall_mem_cons.mpr ⟨lw_p20, List.forall_mem_cons.mpr ⟨lw_p21, List.forall_mem_cons.mpr ⟨lw_p22, List.forall_mem_cons.mpr ⟨lw_p23, List.forall_mem_cons.mpr ⟨lw_p24, List.forall_mem_cons.mpr ⟨lw_p25, fun _ h => absurd h List.not_mem_nil⟩⟩⟩⟩⟩⟩⟩⟩⟩⟩
def lw_privs : List (MethodName × Nat) := lw_privs_1 ++ (lw_privs_2)
def lw_tbl : List Cond := k2_sels lw_privs ++ tables_1
theorem lw_privs_ok : ∀ q ∈ lw_privs, lw_okq q := by
  show ∀ q ∈ lw_privs_1 ++ (lw_privs_2), lw_okq q
  exact List.forall_mem_append.mpr ⟨lw_r1, lw_r2⟩

theorem goodIn_r {big : List Cond} (ws : List Cond) (ps : List Nat) (hp : ws = ps.filterMap (fun i => big[i]?)) (h : ws.all goodWord = true) : GoodIn big ws := by
  intro w hw
  have h1 := List.all_eq_true.mp h w hw
  rw [hp] at hw
  obtain ⟨i, -, hi⟩ := List.mem_filterMap.mp hw
  have hm : w ∈ big := by first | exact List.mem_of_getElem? hi | exact List.getElem?_mem hi
  exact ⟨hm, good_of_word h1⟩
theorem goodIn_app {big a b : List Cond} (ha : GoodIn big a) (hb : GoodIn big b) : GoodIn big (a ++ b) := fun w h => (List.mem_append.mp h).elim (ha w) (hb w)
theorem goodIn_ca {big a b : List Cond} {c : Cond} (ha : GoodIn big (c :: a)) (hb : GoodIn big b) : GoodIn big (c :: (a ++ b)) := fun w h => (List.mem_cons.mp h).elim (fun e => ha w (List.mem_cons.mpr (Or.inl e))) (fun h => (List.mem_append.mp h).elim (fun h => ha w (List.mem_cons.mpr (Or.inr h))) (hb w))
theorem goodIn_sub {big ws : List Cond} (hm : ∀ w ∈ ws, w ∈ big) (h : ws.all goodWord = true) : GoodIn big ws := fun w hw => ⟨hm w hw, good_of_word (List.all_eq_true.mp h w hw)⟩

def RX0 : String := "YarnMill$Fraction"
def TX0 : u_T := fun k => match k with
  | 0 => ("YarnMill$Fraction", "above", "J", false)
  | _ => ("YarnMill$Fraction", "below", "J", false)
def tyX0 : Nat → FieldType := fun k => match k with
  | 0 => .long
  | _ => .long
abbrev wsX00 : List Cond := u_ws RX0 TX0 2
theorem nmX0 : ∀ a, a < 2 → ∀ b, b < 2 → a ≠ b → (TX0 a).2.1 ≠ (TX0 b).2.1 := by decide +kernel
theorem tyX0_ok : ∀ k, k < 2 → parseFieldDescriptor (TX0 k).2.2.1 = some (tyX0 k) := by decide +kernel
abbrev cX0_init : ByteArray := prog_2_method_1_code
def yX0_init : MethodName := ⟨RX0, "<init>", "()V"⟩
abbrev cX0_set : ByteArray := prog_2_method_2_code
def yX0_set : MethodName := ⟨RX0, "set", "(JJ)V"⟩
abbrev cX0_times : ByteArray := prog_2_method_3_code
def yX0_times : MethodName := ⟨RX0, "times", "(JJ)V"⟩
abbrev cX0_reduce : ByteArray := prog_2_method_4_code
def yX0_reduce : MethodName := ⟨RX0, "reduce", "()V"⟩
abbrev cX0_commonDivisor : ByteArray := prog_2_method_5_code
def yX0_commonDivisor : MethodName := ⟨RX0, "commonDivisor", "(JJ)J"⟩
def RX1 : String := "YarnMill$Line"
def TX1 : u_T := fun k => match k with
  | 0 => ("YarnMill$Line", "size", "I", false)
  | 1 => ("YarnMill$Line", "firstAbove", "I", false)
  | 2 => ("YarnMill$Line", "firstBelow", "I", false)
  | 3 => ("YarnMill$Line", "machines", "[LYarnMill$Machine;", true)
  | _ => ("YarnMill$Line", "told", "LYarnMill$Fraction;", true)
def tyX1 : Nat → FieldType := fun k => match k with
  | 0 => .int
  | 1 => .int
  | 2 => .int
  | 3 => .array (.object "YarnMill$Machine")
  | _ => .object "YarnMill$Fraction"
abbrev wsX10 : List Cond := u_ws RX1 TX1 5
theorem nmX1 : ∀ a, a < 5 → ∀ b, b < 5 → a ≠ b → (TX1 a).2.1 ≠ (TX1 b).2.1 := by decide +kernel
theorem tyX1_ok : ∀ k, k < 5 → parseFieldDescriptor (TX1 k).2.2.1 = some (tyX1 k) := by decide +kernel
abbrev cX1_init : ByteArray := prog_3_method_1_code
def yX1_init : MethodName := ⟨RX1, "<init>", "()V"⟩
abbrev cX1_setFirst : ByteArray := prog_3_method_2_code
def yX1_setFirst : MethodName := ⟨RX1, "setFirst", "(II)I"⟩
abbrev cX1_addMachine : ByteArray := prog_3_method_3_code
def yX1_addMachine : MethodName := ⟨RX1, "addMachine", "(IIII)I"⟩
abbrev cX1_addRoller : ByteArray := prog_3_method_4_code
def yX1_addRoller : MethodName := ⟨RX1, "addRoller", "(II)I"⟩
abbrev cX1_removeAll : ByteArray := prog_3_method_5_code
def yX1_removeAll : MethodName := ⟨RX1, "removeAll", "()I"⟩
abbrev cX1_countRollers : ByteArray := prog_3_method_6_code
def yX1_countRollers : MethodName := ⟨RX1, "countRollers", "()I"⟩
abbrev cX1_tellCount : ByteArray := prog_3_method_7_code
def yX1_tellCount : MethodName := ⟨RX1, "tellCount", "(II)J"⟩
abbrev cX1_tellPeriod : ByteArray := prog_3_method_8_code
def yX1_tellPeriod : MethodName := ⟨RX1, "tellPeriod", "(III)J"⟩
abbrev cX1_findNear : ByteArray := prog_3_method_9_code
def yX1_findNear : MethodName := ⟨RX1, "findNear", "(III)I"⟩
abbrev cX1_toldPart : ByteArray := prog_3_method_10_code
def yX1_toldPart : MethodName := ⟨RX1, "toldPart", "(I)J"⟩
abbrev cX1_reckonCount : ByteArray := prog_3_method_11_code
def yX1_reckonCount : MethodName := ⟨RX1, "reckonCount", "(I)Z"⟩
abbrev cX1_reckonPeriod : ByteArray := prog_3_method_12_code
def yX1_reckonPeriod : MethodName := ⟨RX1, "reckonPeriod", "(II)V"⟩
abbrev cX1_isNear : ByteArray := prog_3_method_13_code
def yX1_isNear : MethodName := ⟨RX1, "isNear", "(IIII)Z"⟩
def RX2 : String := "YarnMill$Machine"
def TX2 : u_T := fun k => match k with
  | 0 => ("YarnMill$Machine", "doublings", "I", false)
  | 1 => ("YarnMill$Machine", "above", "I", false)
  | 2 => ("YarnMill$Machine", "below", "I", false)
  | 3 => ("YarnMill$Machine", "loss", "I", false)
  | 4 => ("YarnMill$Machine", "rollers", "I", false)
  | _ => ("YarnMill$Machine", "rounds", "[I", true)
def tyX2 : Nat → FieldType := fun k => match k with
  | 0 => .int
  | 1 => .int
  | 2 => .int
  | 3 => .int
  | 4 => .int
  | _ => .array .int
abbrev wsX20 : List Cond := u_ws RX2 TX2 6
theorem nmX2 : ∀ a, a < 6 → ∀ b, b < 6 → a ≠ b → (TX2 a).2.1 ≠ (TX2 b).2.1 := by decide +kernel
theorem tyX2_ok : ∀ k, k < 6 → parseFieldDescriptor (TX2 k).2.2.1 = some (tyX2 k) := by decide +kernel
abbrev cX2_init : ByteArray := prog_4_method_1_code
def yX2_init : MethodName := ⟨RX2, "<init>", "()V"⟩
def RX3 : String := "YarnMill$Row"
def TX3 : u_T := fun k => match k with
  | 0 => ("YarnMill$Row", "size", "I", false)
  | _ => ("YarnMill$Row", "cells", "[I", true)
def tyX3 : Nat → FieldType := fun k => match k with
  | 0 => .int
  | _ => .array .int
abbrev wsX30 : List Cond := u_ws RX3 TX3 2
theorem nmX3 : ∀ a, a < 2 → ∀ b, b < 2 → a ≠ b → (TX3 a).2.1 ≠ (TX3 b).2.1 := by decide +kernel
theorem tyX3_ok : ∀ k, k < 2 → parseFieldDescriptor (TX3 k).2.2.1 = some (tyX3 k) := by decide +kernel
abbrev cX3_init : ByteArray := prog_5_method_1_code
def yX3_init : MethodName := ⟨RX3, "<init>", "()V"⟩
abbrev cX3_addCell : ByteArray := prog_5_method_2_code
def yX3_addCell : MethodName := ⟨RX3, "addCell", "(I)I"⟩
abbrev cX3_addDrawn : ByteArray := prog_5_method_3_code
def yX3_addDrawn : MethodName := ⟨RX3, "addDrawn", "(IIII)I"⟩
abbrev cX3_removeAll : ByteArray := prog_5_method_4_code
def yX3_removeAll : MethodName := ⟨RX3, "removeAll", "()I"⟩
abbrev cX3_massAt : ByteArray := prog_5_method_5_code
def yX3_massAt : MethodName := ⟨RX3, "massAt", "(I)I"⟩
abbrev cX3_addRow : ByteArray := prog_5_method_6_code
def yX3_addRow : MethodName := ⟨RX3, "addRow", "(LYarnMill$Row;)I"⟩
abbrev cX3_stretchBy : ByteArray := prog_5_method_7_code
def yX3_stretchBy : MethodName := ⟨RX3, "stretchBy", "(I)I"⟩
abbrev cX3_gatherBy : ByteArray := prog_5_method_8_code
def yX3_gatherBy : MethodName := ⟨RX3, "gatherBy", "(I)I"⟩
abbrev cX3_faultBy : ByteArray := prog_5_method_9_code
def yX3_faultBy : MethodName := ⟨RX3, "faultBy", "(II)I"⟩
abbrev cX3_measure : ByteArray := prog_5_method_10_code
def yX3_measure : MethodName := ⟨RX3, "measure", "(I)J"⟩
abbrev cX3_waveAt : ByteArray := prog_5_method_11_code
def yX3_waveAt : MethodName := ⟨RX3, "waveAt", "(I)J"⟩
abbrev cX3_greatestUpTo : ByteArray := prog_5_method_12_code
def yX3_greatestUpTo : MethodName := ⟨RX3, "greatestUpTo", "(I)I"⟩
abbrev cX3_countPlaces : ByteArray := prog_5_method_13_code
def yX3_countPlaces : MethodName := ⟨RX3, "countPlaces", "(IIII)I"⟩
abbrev cX3_removePlaces : ByteArray := prog_5_method_14_code
def yX3_removePlaces : MethodName := ⟨RX3, "removePlaces", "(III)I"⟩
abbrev cX3_mixInto : ByteArray := prog_5_method_15_code
def yX3_mixInto : MethodName := ⟨RX3, "mixInto", "(J)J"⟩
abbrev cX3_sumOf : ByteArray := prog_5_method_16_code
def yX3_sumOf : MethodName := ⟨RX3, "sumOf", "(II)I"⟩
abbrev cX3_given : ByteArray := prog_5_method_17_code
def yX3_given : MethodName := ⟨RX3, "given", "(II)I"⟩
abbrev cX3_unevenness : ByteArray := prog_5_method_18_code
def yX3_unevenness : MethodName := ⟨RX3, "unevenness", "()J"⟩
abbrev cX3_isGreater : ByteArray := prog_5_method_19_code
def yX3_isGreater : MethodName := ⟨RX3, "isGreater", "(JJJJ)Z"⟩
abbrev cX3_isLaw : ByteArray := prog_5_method_20_code
def yX3_isLaw : MethodName := ⟨RX3, "isLaw", "(III)Z"⟩
abbrev cX3_mean : ByteArray := prog_5_method_21_code
def yX3_mean : MethodName := ⟨RX3, "mean", "()J"⟩
abbrev cX3_placeFrom : ByteArray := prog_5_method_22_code
def yX3_placeFrom : MethodName := ⟨RX3, "placeFrom", "(IJJI)I"⟩
abbrev cX3_runFrom : ByteArray := prog_5_method_23_code
def yX3_runFrom : MethodName := ⟨RX3, "runFrom", "(IJZ)I"⟩
def RX4 : String := "YarnMill$Store"
def TX4 : u_T := fun k => match k with
  | 0 => ("YarnMill$Store", "size", "I", false)
  | 1 => ("YarnMill$Store", "laydowns", "I", false)
  | 2 => ("YarnMill$Store", "tried", "I", false)
  | 3 => ("YarnMill$Store", "each", "I", false)
  | 4 => ("YarnMill$Store", "leastSum", "I", false)
  | 5 => ("YarnMill$Store", "mostSum", "I", false)
  | 6 => ("YarnMill$Store", "spent", "Z", false)
  | 7 => ("YarnMill$Store", "numbers", "[I", true)
  | _ => ("YarnMill$Store", "order", "[I", true)
def tyX4 : Nat → FieldType := fun k => match k with
  | 0 => .int
  | 1 => .int
  | 2 => .int
  | 3 => .int
  | 4 => .int
  | 5 => .int
  | 6 => .boolean
  | 7 => .array .int
  | _ => .array .int
abbrev wsX40 : List Cond := u_ws RX4 TX4 9
theorem nmX4 : ∀ a, a < 9 → ∀ b, b < 9 → a ≠ b → (TX4 a).2.1 ≠ (TX4 b).2.1 := by decide +kernel
theorem tyX4_ok : ∀ k, k < 9 → parseFieldDescriptor (TX4 k).2.2.1 = some (tyX4 k) := by decide +kernel
abbrev cX4_init : ByteArray := prog_6_method_1_code
def yX4_init : MethodName := ⟨RX4, "<init>", "()V"⟩
abbrev cX4_addBale : ByteArray := prog_6_method_2_code
def yX4_addBale : MethodName := ⟨RX4, "addBale", "(I)I"⟩
abbrev cX4_removeAll : ByteArray := prog_6_method_3_code
def yX4_removeAll : MethodName := ⟨RX4, "removeAll", "()I"⟩
abbrev cX4_makePlan : ByteArray := prog_6_method_4_code
def yX4_makePlan : MethodName := ⟨RX4, "makePlan", "(III)I"⟩
abbrev cX4_planned : ByteArray := prog_6_method_5_code
def yX4_planned : MethodName := ⟨RX4, "planned", "(II)I"⟩
abbrev cX4_mixInto : ByteArray := prog_6_method_6_code
def yX4_mixInto : MethodName := ⟨RX4, "mixInto", "(J)J"⟩
abbrev cX4_openLaydown : ByteArray := prog_6_method_7_code
def yX4_openLaydown : MethodName := ⟨RX4, "openLaydown", "(II)Z"⟩
abbrev cX4_fillLaydown : ByteArray := prog_6_method_8_code
def yX4_fillLaydown : MethodName := ⟨RX4, "fillLaydown", "(IIII)Z"⟩
abbrev cX4_countTry : ByteArray := prog_6_method_9_code
def yX4_countTry : MethodName := ⟨RX4, "countTry", "()Z"⟩
def RX5 : String := "YarnMill"
def TX5 : u_T := fun k => match k with
  | 0 => ("YarnMill", "line", "LYarnMill$Line;", true)
  | 1 => ("YarnMill", "rows", "[LYarnMill$Row;", true)
  | _ => ("YarnMill", "store", "LYarnMill$Store;", true)
def tyX5 : Nat → FieldType := fun k => match k with
  | 0 => .object "YarnMill$Line"
  | 1 => .array (.object "YarnMill$Row")
  | _ => .object "YarnMill$Store"
abbrev wsX50 : List Cond := u_ws RX5 TX5 3
theorem nmX5 : ∀ a, a < 3 → ∀ b, b < 3 → a ≠ b → (TX5 a).2.1 ≠ (TX5 b).2.1 := by decide +kernel
theorem tyX5_ok : ∀ k, k < 3 → parseFieldDescriptor (TX5 k).2.2.1 = some (tyX5 k) := by decide +kernel
abbrev cX5_init : ByteArray := prog_1_method_1_code
def yX5_init : MethodName := ⟨RX5, "<init>", "()V"⟩
abbrev cX5_count : ByteArray := prog_1_method_2_code
def yX5_count : MethodName := ⟨RX5, "count", "(II)I"⟩
abbrev cX5_machine : ByteArray := prog_1_method_3_code
def yX5_machine : MethodName := ⟨RX5, "machine", "(IIII)I"⟩
abbrev cX5_roller : ByteArray := prog_1_method_4_code
def yX5_roller : MethodName := ⟨RX5, "roller", "(II)I"⟩
abbrev cX5_clear : ByteArray := prog_1_method_5_code
def yX5_clear : MethodName := ⟨RX5, "clear", "()I"⟩
abbrev cX5_countAt : ByteArray := prog_1_method_6_code
def yX5_countAt : MethodName := ⟨RX5, "countAt", "(II)J"⟩
abbrev cX5_period : ByteArray := prog_1_method_7_code
def yX5_period : MethodName := ⟨RX5, "period", "(III)J"⟩
abbrev cX5_names : ByteArray := prog_1_method_8_code
def yX5_names : MethodName := ⟨RX5, "names", "(III)I"⟩
abbrev cX5_cell : ByteArray := prog_1_method_9_code
def yX5_cell : MethodName := ⟨RX5, "cell", "(II)I"⟩
abbrev cX5_draw : ByteArray := prog_1_method_10_code
def yX5_draw : MethodName := ⟨RX5, "draw", "(IIIII)I"⟩
abbrev cX5_empty : ByteArray := prog_1_method_11_code
def yX5_empty : MethodName := ⟨RX5, "empty", "(I)I"⟩
abbrev cX5_at : ByteArray := prog_1_method_12_code
def yX5_at : MethodName := ⟨RX5, "at", "(II)I"⟩
abbrev cX5_join : ByteArray := prog_1_method_13_code
def yX5_join : MethodName := ⟨RX5, "join", "(II)I"⟩
abbrev cX5_stretch : ByteArray := prog_1_method_14_code
def yX5_stretch : MethodName := ⟨RX5, "stretch", "(II)I"⟩
abbrev cX5_gather : ByteArray := prog_1_method_15_code
def yX5_gather : MethodName := ⟨RX5, "gather", "(II)I"⟩
abbrev cX5_fault : ByteArray := prog_1_method_16_code
def yX5_fault : MethodName := ⟨RX5, "fault", "(III)I"⟩
abbrev cX5_about : ByteArray := prog_1_method_17_code
def yX5_about : MethodName := ⟨RX5, "about", "(II)J"⟩
abbrev cX5_wave : ByteArray := prog_1_method_18_code
def yX5_wave : MethodName := ⟨RX5, "wave", "(II)J"⟩
abbrev cX5_greatest : ByteArray := prog_1_method_19_code
def yX5_greatest : MethodName := ⟨RX5, "greatest", "(II)I"⟩
abbrev cX5_places : ByteArray := prog_1_method_20_code
def yX5_places : MethodName := ⟨RX5, "places", "(IIIII)I"⟩
abbrev cX5_cleared : ByteArray := prog_1_method_21_code
def yX5_cleared : MethodName := ⟨RX5, "cleared", "(IIII)I"⟩
abbrev cX5_bale : ByteArray := prog_1_method_22_code
def yX5_bale : MethodName := ⟨RX5, "bale", "(I)I"⟩
abbrev cX5_clearBales : ByteArray := prog_1_method_23_code
def yX5_clearBales : MethodName := ⟨RX5, "clearBales", "()I"⟩
abbrev cX5_plan : ByteArray := prog_1_method_24_code
def yX5_plan : MethodName := ⟨RX5, "plan", "(III)I"⟩
abbrev cX5_planAt : ByteArray := prog_1_method_25_code
def yX5_planAt : MethodName := ⟨RX5, "planAt", "(II)I"⟩
abbrev cX5_tries : ByteArray := prog_1_method_26_code
def yX5_tries : MethodName := ⟨RX5, "tries", "()I"⟩
abbrev cX5_many : ByteArray := prog_1_method_27_code
def yX5_many : MethodName := ⟨RX5, "many", "(I)I"⟩
abbrev cX5_digest : ByteArray := prog_1_method_28_code
def yX5_digest : MethodName := ⟨RX5, "digest", "()J"⟩
abbrev cX5_countCells : ByteArray := prog_1_method_29_code
def yX5_countCells : MethodName := ⟨RX5, "countCells", "()I"⟩
abbrev cX5_rowOrNull : ByteArray := prog_1_method_30_code
def yX5_rowOrNull : MethodName := ⟨RX5, "rowOrNull", "(I)LYarnMill$Row;"⟩
abbrev cX5_within : ByteArray := prog_1_method_31_code
def yX5_within : MethodName := ⟨RX5, "within", "(JJJ)Z"⟩
def RX6 : String := "YarnMillModel"
def TX6 : u_T := fun k => match k with
  | 0 => ("YarnMillModel", "above", "I", false)
  | 1 => ("YarnMillModel", "below", "I", false)
  | 2 => ("YarnMillModel", "machines", "I", false)
  | 3 => ("YarnMillModel", "doublings", "[I", true)
  | 4 => ("YarnMillModel", "draftAbove", "[I", true)
  | 5 => ("YarnMillModel", "draftBelow", "[I", true)
  | 6 => ("YarnMillModel", "loss", "[I", true)
  | 7 => ("YarnMillModel", "rollers", "[I", true)
  | 8 => ("YarnMillModel", "round", "[I", true)
  | 9 => ("YarnMillModel", "cells", "[I", true)
  | 10 => ("YarnMillModel", "mass", "[I", true)
  | 11 => ("YarnMillModel", "fresh", "[I", true)
  | 12 => ("YarnMillModel", "bales", "I", false)
  | 13 => ("YarnMillModel", "number", "[I", true)
  | 14 => ("YarnMillModel", "laydowns", "I", false)
  | 15 => ("YarnMillModel", "perLaydown", "I", false)
  | 16 => ("YarnMillModel", "plan", "[I", true)
  | _ => ("YarnMillModel", "tries", "I", false)
def tyX6 : Nat → FieldType := fun k => match k with
  | 0 => .int
  | 1 => .int
  | 2 => .int
  | 3 => .array .int
  | 4 => .array .int
  | 5 => .array .int
  | 6 => .array .int
  | 7 => .array .int
  | 8 => .array .int
  | 9 => .array .int
  | 10 => .array .int
  | 11 => .array .int
  | 12 => .int
  | 13 => .array .int
  | 14 => .int
  | 15 => .int
  | 16 => .array .int
  | _ => .int
abbrev wsX60 : List Cond := u_ws RX6 TX6 18
theorem nmX6 : ∀ a, a < 18 → ∀ b, b < 18 → a ≠ b → (TX6 a).2.1 ≠ (TX6 b).2.1 := by decide +kernel
theorem tyX6_ok : ∀ k, k < 18 → parseFieldDescriptor (TX6 k).2.2.1 = some (tyX6 k) := by decide +kernel
abbrev cX6_init : ByteArray := prog_8_method_1_code
def yX6_init : MethodName := ⟨RX6, "<init>", "()V"⟩
abbrev cX6_in : ByteArray := prog_8_method_2_code
def yX6_in : MethodName := ⟨RX6, "in", "(JJJ)Z"⟩
abbrev cX6_common : ByteArray := prog_8_method_3_code
def yX6_common : MethodName := ⟨RX6, "common", "(JJ)J"⟩
abbrev cX6_count : ByteArray := prog_8_method_4_code
def yX6_count : MethodName := ⟨RX6, "count", "(II)I"⟩
abbrev cX6_machine : ByteArray := prog_8_method_5_code
def yX6_machine : MethodName := ⟨RX6, "machine", "(IIII)I"⟩
abbrev cX6_isMachine : ByteArray := prog_8_method_6_code
def yX6_isMachine : MethodName := ⟨RX6, "isMachine", "(I)Z"⟩
abbrev cX6_roller : ByteArray := prog_8_method_7_code
def yX6_roller : MethodName := ⟨RX6, "roller", "(II)I"⟩
abbrev cX6_clear : ByteArray := prog_8_method_8_code
def yX6_clear : MethodName := ⟨RX6, "clear", "()I"⟩
abbrev cX6_countOf : ByteArray := prog_8_method_9_code
def yX6_countOf : MethodName := ⟨RX6, "countOf", "(II)J"⟩
abbrev cX6_countAt : ByteArray := prog_8_method_10_code
def yX6_countAt : MethodName := ⟨RX6, "countAt", "(II)J"⟩
abbrev cX6_periodOf : ByteArray := prog_8_method_11_code
def yX6_periodOf : MethodName := ⟨RX6, "periodOf", "(III)J"⟩
abbrev cX6_period : ByteArray := prog_8_method_12_code
def yX6_period : MethodName := ⟨RX6, "period", "(III)J"⟩
abbrev cX6_names : ByteArray := prog_8_method_13_code
def yX6_names : MethodName := ⟨RX6, "names", "(III)I"⟩
abbrev cX6_isRow : ByteArray := prog_8_method_14_code
def yX6_isRow : MethodName := ⟨RX6, "isRow", "(I)Z"⟩
abbrev cX6_isMass : ByteArray := prog_8_method_15_code
def yX6_isMass : MethodName := ⟨RX6, "isMass", "(J)Z"⟩
abbrev cX6_cell : ByteArray := prog_8_method_16_code
def yX6_cell : MethodName := ⟨RX6, "cell", "(II)I"⟩
abbrev cX6_draw : ByteArray := prog_8_method_17_code
def yX6_draw : MethodName := ⟨RX6, "draw", "(IIIII)I"⟩
abbrev cX6_empty : ByteArray := prog_8_method_18_code
def yX6_empty : MethodName := ⟨RX6, "empty", "(I)I"⟩
abbrev cX6_at : ByteArray := prog_8_method_19_code
def yX6_at : MethodName := ⟨RX6, "at", "(II)I"⟩
abbrev cX6_becomes : ByteArray := prog_8_method_20_code
def yX6_becomes : MethodName := ⟨RX6, "becomes", "(II)I"⟩
abbrev cX6_join : ByteArray := prog_8_method_21_code
def yX6_join : MethodName := ⟨RX6, "join", "(II)I"⟩
abbrev cX6_stretch : ByteArray := prog_8_method_22_code
def yX6_stretch : MethodName := ⟨RX6, "stretch", "(II)I"⟩
abbrev cX6_gather : ByteArray := prog_8_method_23_code
def yX6_gather : MethodName := ⟨RX6, "gather", "(II)I"⟩
abbrev cX6_fault : ByteArray := prog_8_method_24_code
def yX6_fault : MethodName := ⟨RX6, "fault", "(III)I"⟩
abbrev cX6_sum : ByteArray := prog_8_method_25_code
def yX6_sum : MethodName := ⟨RX6, "sum", "(I)J"⟩
abbrev cX6_about : ByteArray := prog_8_method_26_code
def yX6_about : MethodName := ⟨RX6, "about", "(II)J"⟩
abbrev cX6_waveOf : ByteArray := prog_8_method_27_code
def yX6_waveOf : MethodName := ⟨RX6, "waveOf", "(II)J"⟩
abbrev cX6_wave : ByteArray := prog_8_method_28_code
def yX6_wave : MethodName := ⟨RX6, "wave", "(II)J"⟩
abbrev cX6_isAbove : ByteArray := prog_8_method_29_code
def yX6_isAbove : MethodName := ⟨RX6, "isAbove", "(JJJJ)Z"⟩
abbrev cX6_greatest : ByteArray := prog_8_method_30_code
def yX6_greatest : MethodName := ⟨RX6, "greatest", "(II)I"⟩
abbrev cX6_isLaw : ByteArray := prog_8_method_31_code
def yX6_isLaw : MethodName := ⟨RX6, "isLaw", "(III)Z"⟩
abbrev cX6_run : ByteArray := prog_8_method_32_code
def yX6_run : MethodName := ⟨RX6, "run", "(IIJII)I"⟩
abbrev cX6_places : ByteArray := prog_8_method_33_code
def yX6_places : MethodName := ⟨RX6, "places", "(IIIII)I"⟩
abbrev cX6_cleared : ByteArray := prog_8_method_34_code
def yX6_cleared : MethodName := ⟨RX6, "cleared", "(IIII)I"⟩
abbrev cX6_bale : ByteArray := prog_8_method_35_code
def yX6_bale : MethodName := ⟨RX6, "bale", "(I)I"⟩
abbrev cX6_clearBales : ByteArray := prog_8_method_36_code
def yX6_clearBales : MethodName := ⟨RX6, "clearBales", "()I"⟩
abbrev cX6_nextBale : ByteArray := prog_8_method_37_code
def yX6_nextBale : MethodName := ⟨RX6, "nextBale", "(II)I"⟩
abbrev cX6_isWhole : ByteArray := prog_8_method_38_code
def yX6_isWhole : MethodName := ⟨RX6, "isWhole", "(IIII)Z"⟩
abbrev cX6_plan : ByteArray := prog_8_method_39_code
def yX6_plan : MethodName := ⟨RX6, "plan", "(III)I"⟩
abbrev cX6_planAt : ByteArray := prog_8_method_40_code
def yX6_planAt : MethodName := ⟨RX6, "planAt", "(II)I"⟩
abbrev cX6_tries : ByteArray := prog_8_method_41_code
def yX6_tries : MethodName := ⟨RX6, "tries", "()I"⟩
abbrev cX6_manyOf : ByteArray := prog_8_method_42_code
def yX6_manyOf : MethodName := ⟨RX6, "manyOf", "(I)I"⟩
abbrev cX6_many : ByteArray := prog_8_method_43_code
def yX6_many : MethodName := ⟨RX6, "many", "(I)I"⟩
abbrev cX6_digest : ByteArray := prog_8_method_44_code
def yX6_digest : MethodName := ⟨RX6, "digest", "()J"⟩
def RJ9 : String := "java/lang/Math"
def TJ9 : u_T := fun k => match k with
  | _ => ("", "", "", false)
def tyJ9 : Nat → FieldType := fun k => match k with
  | _ => .int
abbrev wsJ90 : List Cond := u_ws RJ9 TJ9 0
theorem nmJ9 : ∀ a, a < 0 → ∀ b, b < 0 → a ≠ b → (TJ9 a).2.1 ≠ (TJ9 b).2.1 := by decide +kernel
theorem tyJ9_ok : ∀ k, k < 0 → parseFieldDescriptor (TJ9 k).2.2.1 = some (tyJ9 k) := by decide +kernel
abbrev cJ9_max_7cf53 : ByteArray := prog_9_method_65_code
def yJ9_max_7cf53 : MethodName := ⟨RJ9, "max", "(II)I"⟩
abbrev cJ9_min_7cf53 : ByteArray := prog_9_method_69_code
def yJ9_min_7cf53 : MethodName := ⟨RJ9, "min", "(II)I"⟩
def RL : String := "YarnMillLaw"
abbrev cL_law : ByteArray := code
def yL_law : MethodName := ⟨RL, "law", "([I)Z"⟩
def wsX0_init : List Cond := .code yX0_init cX0_init 1 none :: ([.methodLink RX0 1 objectInit, .instanceMethod objectInit, .code objectInit ⟨#[0xb1]⟩ 1 none, .fieldLink RX0 7 "YarnMill$Fraction" "above" "J", .fieldLink RX0 13 "YarnMill$Fraction" "below" "J"] ++ wsX00)
def wsX0_commonDivisor : List Cond := .code yX0_commonDivisor cX0_commonDivisor 11 (some .long) :: ([])
def wsX0_reduce : List Cond := .code yX0_reduce cX0_reduce 3 none :: ([.fieldLink RX0 7 "YarnMill$Fraction" "above" "J", .fieldLink RX0 13 "YarnMill$Fraction" "below" "J", .methodLink RX0 23 yX0_commonDivisor, .static yX0_commonDivisor, .initialized RX0, .code yX0_commonDivisor cX0_commonDivisor 11 (some .long)] ++ wsX00)
def wsX0_set : List Cond := .code yX0_set cX0_set 5 none :: ([.fieldLink RX0 7 "YarnMill$Fraction" "above" "J", .fieldLink RX0 13 "YarnMill$Fraction" "below" "J", .methodLink RX0 16 yX0_reduce, .instanceMethod yX0_reduce, .selects RX0 yX0_reduce yX0_reduce, .initialized RX0, .code yX0_reduce cX0_reduce 3 none, .methodLink RX0 23 yX0_commonDivisor, .static yX0_commonDivisor, .code yX0_commonDivisor cX0_commonDivisor 11 (some .long)] ++ wsX00)
def wsX0_times : List Cond := .code yX0_times cX0_times 5 none :: ([.fieldLink RX0 7 "YarnMill$Fraction" "above" "J", .fieldLink RX0 13 "YarnMill$Fraction" "below" "J", .methodLink RX0 19 yX0_set, .instanceMethod yX0_set, .selects RX0 yX0_set yX0_set, .initialized RX0, .code yX0_set cX0_set 5 none, .methodLink RX0 16 yX0_reduce, .instanceMethod yX0_reduce, .selects RX0 yX0_reduce yX0_reduce, .code yX0_reduce cX0_reduce 3 none, .methodLink RX0 23 yX0_commonDivisor, .static yX0_commonDivisor, .code yX0_commonDivisor cX0_commonDivisor 11 (some .long)] ++ wsX00)
def wsX2_init : List Cond := .code yX2_init cX2_init 1 none :: ([.methodLink RX2 1 objectInit, .instanceMethod objectInit, .code objectInit ⟨#[0xb1]⟩ 1 none, .arrayClass .int, .fieldLink RX2 9 "YarnMill$Machine" "rounds" "[I"] ++ wsX20)
def wsX1_init : List Cond := .code yX1_init cX1_init 2 none :: ([.methodLink RX1 3 objectInit, .instanceMethod objectInit, .code objectInit ⟨#[0xb1]⟩ 1 none, .fieldLink RX1 9 "YarnMill$Line" "firstAbove" "I", .fieldLink RX1 15 "YarnMill$Line" "firstBelow" "I", .classLink RX1 18 RX2, .fieldLink RX1 20 "YarnMill$Line" "machines" "[LYarnMill$Machine;", .classLink RX1 24 RX0, .instantiable RX0 2, .initialized RX0, .fieldLink RX1 27 "YarnMill$Line" "told" "LYarnMill$Fraction;", .instantiable RX2 6, .initialized RX2, .instanceMethod yX0_init, .code yX0_init cX0_init 1 none, .methodLink RX0 1 objectInit, .fieldLink RX0 7 "YarnMill$Fraction" "above" "J", .fieldLink RX0 13 "YarnMill$Fraction" "below" "J", .instanceMethod yX2_init, .code yX2_init cX2_init 1 none, .methodLink RX2 1 objectInit, .arrayClass .int, .fieldLink RX2 9 "YarnMill$Machine" "rounds" "[I"] ++ wsX10 ++ wsX00 ++ wsX20)
def wsX5_within : List Cond := .code yX5_within cX5_within 6 (some .boolean) :: ([])
def wsX1_setFirst : List Cond := .code yX1_setFirst cX1_setFirst 3 (some .int) :: ([.constantLong RX1 32 (10000), .fieldLink RX1 9 "YarnMill$Line" "firstAbove" "I", .fieldLink RX1 15 "YarnMill$Line" "firstBelow" "I", .static yX5_within, .initialized RX5, .code yX5_within cX5_within 6 (some .boolean)] ++ wsX10)
def wsX1_addMachine : List Cond := .code yX1_addMachine cX1_addMachine 6 (some .int) :: ([.constantLong RX1 38 (16), .constantLong RX1 40 (60), .constantLong RX1 42 (20), .constantLong RX1 44 (500), .fieldLink RX1 46 "YarnMill$Line" "size" "I", .fieldLink RX1 20 "YarnMill$Line" "machines" "[LYarnMill$Machine;", .fieldLink RX1 49 "YarnMill$Machine" "doublings" "I", .fieldLink RX1 52 "YarnMill$Machine" "above" "I", .fieldLink RX1 55 "YarnMill$Machine" "below" "I", .fieldLink RX1 58 "YarnMill$Machine" "loss" "I", .fieldLink RX1 61 "YarnMill$Machine" "rollers" "I", .static yX5_within, .initialized RX5, .code yX5_within cX5_within 6 (some .boolean)] ++ wsX10 ++ wsX20)
def wsX1_addRoller : List Cond := .code yX1_addRoller cX1_addRoller 4 (some .int) :: ([.fieldLink RX1 46 "YarnMill$Line" "size" "I", .constantLong RX1 64 (1000), .fieldLink RX1 20 "YarnMill$Line" "machines" "[LYarnMill$Machine;", .fieldLink RX1 61 "YarnMill$Machine" "rollers" "I", .fieldLink RX1 66 "YarnMill$Machine" "rounds" "[I", .static yX5_within, .initialized RX5, .code yX5_within cX5_within 6 (some .boolean)] ++ wsX10 ++ wsX20)
def wsX1_removeAll : List Cond := .code yX1_removeAll cX1_removeAll 2 (some .int) :: ([.fieldLink RX1 46 "YarnMill$Line" "size" "I"] ++ wsX10)
def wsX1_countRollers : List Cond := .code yX1_countRollers cX1_countRollers 3 (some .int) :: ([.fieldLink RX1 46 "YarnMill$Line" "size" "I", .fieldLink RX1 20 "YarnMill$Line" "machines" "[LYarnMill$Machine;", .fieldLink RX1 61 "YarnMill$Machine" "rollers" "I"] ++ wsX10 ++ wsX20)
def wsX1_reckonCount_r1 : List Cond := [Cond.fieldLink RX1 27 "YarnMill$Line" "told" "LYarnMill$Fraction;", Cond.fieldLink RX1 9 "YarnMill$Line" "firstAbove" "I", Cond.fieldLink RX1 15 "YarnMill$Line" "firstBelow" "I", Cond.fieldLink RX1 20 "YarnMill$Line" "machines" "[LYarnMill$Machine;", Cond.fieldLink RX1 49 "YarnMill$Machine" "doublings" "I", Cond.fieldLink RX1 58 "YarnMill$Machine" "loss" "I", Cond.fieldLink RX1 55 "YarnMill$Machine" "below" "I", Cond.constantLong RX1 64 (1000), Cond.fieldLink RX1 52 "YarnMill$Machine" "above" "I", Cond.fieldLink RX1 94 "YarnMill$Fraction" "above" "J", Cond.constantLong RX1 106 (1000000000000), Cond.fieldLink RX1 97 "YarnMill$Fraction" "below" "J", Cond.methodLink RX1 99 yX0_set, Cond.instanceMethod yX0_set, Cond.selects RX0 yX0_set yX0_set, Cond.initialized RX0, Cond.code yX0_set cX0_set 5 none, Cond.fieldLink RX0 7 "YarnMill$Fraction" "above" "J", Cond.fieldLink RX0 13 "YarnMill$Fraction" "below" "J", Cond.methodLink RX0 16 yX0_reduce, Cond.instanceMethod yX0_reduce, Cond.selects RX0 yX0_reduce yX0_reduce, Cond.code yX0_reduce cX0_reduce 3 none, Cond.methodLink RX0 23 yX0_commonDivisor]
def wsX1_reckonCount_r2 : List Cond := [Cond.static yX0_commonDivisor, Cond.code yX0_commonDivisor cX0_commonDivisor 11 (some .long), Cond.methodLink RX1 103 yX0_times, Cond.instanceMethod yX0_times, Cond.selects RX0 yX0_times yX0_times, Cond.code yX0_times cX0_times 5 none, Cond.methodLink RX0 19 yX0_set]
def wsX1_reckonCount : List Cond := .code yX1_reckonCount cX1_reckonCount 4 (some .boolean) :: ((wsX1_reckonCount_r1 ++ wsX1_reckonCount_r2) ++ wsX10 ++ wsX20 ++ wsX00)
def wsX1_toldPart : List Cond := .code yX1_toldPart cX1_toldPart 2 (some .long) :: ([.fieldLink RX1 27 "YarnMill$Line" "told" "LYarnMill$Fraction;", .fieldLink RX1 94 "YarnMill$Fraction" "above" "J", .fieldLink RX1 97 "YarnMill$Fraction" "below" "J"] ++ wsX10 ++ wsX00)
def wsX1_tellCount_r1 : List Cond := [Cond.fieldLink RX1 46 "YarnMill$Line" "size" "I", Cond.constantLong RX1 70 (-2), Cond.constantLong RX1 80 (-6), Cond.static yX5_within, Cond.initialized RX5, Cond.code yX5_within cX5_within 6 (some .boolean), Cond.methodLink RX1 72 yX1_reckonCount, Cond.instanceMethod yX1_reckonCount, Cond.selects RX1 yX1_reckonCount yX1_reckonCount, Cond.initialized RX1, Cond.code yX1_reckonCount cX1_reckonCount 4 (some .boolean), Cond.fieldLink RX1 27 "YarnMill$Line" "told" "LYarnMill$Fraction;", Cond.fieldLink RX1 9 "YarnMill$Line" "firstAbove" "I", Cond.fieldLink RX1 15 "YarnMill$Line" "firstBelow" "I", Cond.fieldLink RX1 20 "YarnMill$Line" "machines" "[LYarnMill$Machine;", Cond.fieldLink RX1 49 "YarnMill$Machine" "doublings" "I", Cond.fieldLink RX1 58 "YarnMill$Machine" "loss" "I", Cond.fieldLink RX1 55 "YarnMill$Machine" "below" "I", Cond.constantLong RX1 64 (1000), Cond.fieldLink RX1 52 "YarnMill$Machine" "above" "I", Cond.fieldLink RX1 94 "YarnMill$Fraction" "above" "J", Cond.constantLong RX1 106 (1000000000000), Cond.fieldLink RX1 97 "YarnMill$Fraction" "below" "J", Cond.methodLink RX1 99 yX0_set]
def wsX1_tellCount_r2 : List Cond := [Cond.instanceMethod yX0_set, Cond.selects RX0 yX0_set yX0_set, Cond.initialized RX0, Cond.code yX0_set cX0_set 5 none, Cond.fieldLink RX0 7 "YarnMill$Fraction" "above" "J", Cond.fieldLink RX0 13 "YarnMill$Fraction" "below" "J", Cond.methodLink RX0 16 yX0_reduce, Cond.instanceMethod yX0_reduce, Cond.selects RX0 yX0_reduce yX0_reduce, Cond.code yX0_reduce cX0_reduce 3 none, Cond.methodLink RX0 23 yX0_commonDivisor, Cond.static yX0_commonDivisor, Cond.code yX0_commonDivisor cX0_commonDivisor 11 (some .long), Cond.methodLink RX1 103 yX0_times, Cond.instanceMethod yX0_times, Cond.selects RX0 yX0_times yX0_times, Cond.code yX0_times cX0_times 5 none, Cond.methodLink RX0 19 yX0_set, Cond.methodLink RX1 76 yX1_toldPart, Cond.instanceMethod yX1_toldPart, Cond.selects RX1 yX1_toldPart yX1_toldPart, Cond.code yX1_toldPart cX1_toldPart 2 (some .long)]
def wsX1_tellCount : List Cond := .code yX1_tellCount cX1_tellCount 3 (some .long) :: ((wsX1_tellCount_r1 ++ wsX1_tellCount_r2) ++ wsX10 ++ wsX20 ++ wsX00)
def wsX1_reckonPeriod_r1 : List Cond := [Cond.fieldLink RX1 27 "YarnMill$Line" "told" "LYarnMill$Fraction;", Cond.fieldLink RX1 20 "YarnMill$Line" "machines" "[LYarnMill$Machine;", Cond.fieldLink RX1 66 "YarnMill$Machine" "rounds" "[I", Cond.fieldLink RX1 46 "YarnMill$Line" "size" "I", Cond.fieldLink RX1 52 "YarnMill$Machine" "above" "I", Cond.fieldLink RX1 55 "YarnMill$Machine" "below" "I", Cond.methodLink RX1 99 yX0_set, Cond.instanceMethod yX0_set, Cond.selects RX0 yX0_set yX0_set, Cond.initialized RX0, Cond.code yX0_set cX0_set 5 none, Cond.fieldLink RX0 7 "YarnMill$Fraction" "above" "J", Cond.fieldLink RX0 13 "YarnMill$Fraction" "below" "J", Cond.methodLink RX0 16 yX0_reduce, Cond.instanceMethod yX0_reduce, Cond.selects RX0 yX0_reduce yX0_reduce, Cond.code yX0_reduce cX0_reduce 3 none, Cond.methodLink RX0 23 yX0_commonDivisor, Cond.static yX0_commonDivisor, Cond.code yX0_commonDivisor cX0_commonDivisor 11 (some .long), Cond.methodLink RX1 103 yX0_times, Cond.instanceMethod yX0_times, Cond.selects RX0 yX0_times yX0_times, Cond.code yX0_times cX0_times 5 none]
def wsX1_reckonPeriod_r2 : List Cond := [Cond.methodLink RX0 19 yX0_set]
def wsX1_reckonPeriod : List Cond := .code yX1_reckonPeriod cX1_reckonPeriod 4 none :: ((wsX1_reckonPeriod_r1 ++ wsX1_reckonPeriod_r2) ++ wsX10 ++ wsX20 ++ wsX00)
def wsX1_tellPeriod_r1 : List Cond := [Cond.fieldLink RX1 46 "YarnMill$Line" "size" "I", Cond.fieldLink RX1 20 "YarnMill$Line" "machines" "[LYarnMill$Machine;", Cond.fieldLink RX1 61 "YarnMill$Machine" "rollers" "I", Cond.constantLong RX1 70 (-2), Cond.static yX5_within, Cond.initialized RX5, Cond.code yX5_within cX5_within 6 (some .boolean), Cond.methodLink RX1 82 yX1_reckonPeriod, Cond.instanceMethod yX1_reckonPeriod, Cond.selects RX1 yX1_reckonPeriod yX1_reckonPeriod, Cond.initialized RX1, Cond.code yX1_reckonPeriod cX1_reckonPeriod 4 none, Cond.fieldLink RX1 27 "YarnMill$Line" "told" "LYarnMill$Fraction;", Cond.fieldLink RX1 66 "YarnMill$Machine" "rounds" "[I", Cond.fieldLink RX1 52 "YarnMill$Machine" "above" "I", Cond.fieldLink RX1 55 "YarnMill$Machine" "below" "I", Cond.methodLink RX1 99 yX0_set, Cond.instanceMethod yX0_set, Cond.selects RX0 yX0_set yX0_set, Cond.initialized RX0, Cond.code yX0_set cX0_set 5 none, Cond.fieldLink RX0 7 "YarnMill$Fraction" "above" "J", Cond.fieldLink RX0 13 "YarnMill$Fraction" "below" "J", Cond.methodLink RX0 16 yX0_reduce]
def wsX1_tellPeriod_r2 : List Cond := [Cond.instanceMethod yX0_reduce, Cond.selects RX0 yX0_reduce yX0_reduce, Cond.code yX0_reduce cX0_reduce 3 none, Cond.methodLink RX0 23 yX0_commonDivisor, Cond.static yX0_commonDivisor, Cond.code yX0_commonDivisor cX0_commonDivisor 11 (some .long), Cond.methodLink RX1 103 yX0_times, Cond.instanceMethod yX0_times, Cond.selects RX0 yX0_times yX0_times, Cond.code yX0_times cX0_times 5 none, Cond.methodLink RX0 19 yX0_set, Cond.methodLink RX1 76 yX1_toldPart, Cond.instanceMethod yX1_toldPart, Cond.selects RX1 yX1_toldPart yX1_toldPart, Cond.code yX1_toldPart cX1_toldPart 2 (some .long), Cond.fieldLink RX1 94 "YarnMill$Fraction" "above" "J", Cond.fieldLink RX1 97 "YarnMill$Fraction" "below" "J"]
def wsX1_tellPeriod : List Cond := .code yX1_tellPeriod cX1_tellPeriod 4 (some .long) :: ((wsX1_tellPeriod_r1 ++ wsX1_tellPeriod_r2) ++ wsX10 ++ wsX20 ++ wsX00)
def wsX1_isNear_r1 : List Cond := [Cond.fieldLink RX1 27 "YarnMill$Line" "told" "LYarnMill$Fraction;", Cond.fieldLink RX1 97 "YarnMill$Fraction" "below" "J", Cond.constantLong RX1 64 (1000), Cond.fieldLink RX1 94 "YarnMill$Fraction" "above" "J", Cond.methodLink RX1 82 yX1_reckonPeriod, Cond.instanceMethod yX1_reckonPeriod, Cond.selects RX1 yX1_reckonPeriod yX1_reckonPeriod, Cond.initialized RX1, Cond.code yX1_reckonPeriod cX1_reckonPeriod 4 none, Cond.fieldLink RX1 20 "YarnMill$Line" "machines" "[LYarnMill$Machine;", Cond.fieldLink RX1 66 "YarnMill$Machine" "rounds" "[I", Cond.fieldLink RX1 46 "YarnMill$Line" "size" "I", Cond.fieldLink RX1 52 "YarnMill$Machine" "above" "I", Cond.fieldLink RX1 55 "YarnMill$Machine" "below" "I", Cond.methodLink RX1 99 yX0_set, Cond.instanceMethod yX0_set, Cond.selects RX0 yX0_set yX0_set, Cond.initialized RX0, Cond.code yX0_set cX0_set 5 none, Cond.fieldLink RX0 7 "YarnMill$Fraction" "above" "J", Cond.fieldLink RX0 13 "YarnMill$Fraction" "below" "J", Cond.methodLink RX0 16 yX0_reduce, Cond.instanceMethod yX0_reduce, Cond.selects RX0 yX0_reduce yX0_reduce]
def wsX1_isNear_r2 : List Cond := [Cond.code yX0_reduce cX0_reduce 3 none, Cond.methodLink RX0 23 yX0_commonDivisor, Cond.static yX0_commonDivisor, Cond.code yX0_commonDivisor cX0_commonDivisor 11 (some .long), Cond.methodLink RX1 103 yX0_times, Cond.instanceMethod yX0_times, Cond.selects RX0 yX0_times yX0_times, Cond.code yX0_times cX0_times 5 none, Cond.methodLink RX0 19 yX0_set, Cond.static yX5_within, Cond.initialized RX5, Cond.code yX5_within cX5_within 6 (some .boolean)]
def wsX1_isNear : List Cond := .code yX1_isNear cX1_isNear 7 (some .boolean) :: ((wsX1_isNear_r1 ++ wsX1_isNear_r2) ++ wsX10 ++ wsX00 ++ wsX20)
def wsX1_findNear_r1 : List Cond := [Cond.constantLong RX1 86 (1000000), Cond.constantLong RX1 88 (999), Cond.fieldLink RX1 46 "YarnMill$Line" "size" "I", Cond.fieldLink RX1 20 "YarnMill$Line" "machines" "[LYarnMill$Machine;", Cond.fieldLink RX1 61 "YarnMill$Machine" "rollers" "I", Cond.static yX5_within, Cond.initialized RX5, Cond.code yX5_within cX5_within 6 (some .boolean), Cond.methodLink RX1 90 yX1_isNear, Cond.instanceMethod yX1_isNear, Cond.selects RX1 yX1_isNear yX1_isNear, Cond.initialized RX1, Cond.code yX1_isNear cX1_isNear 7 (some .boolean), Cond.fieldLink RX1 27 "YarnMill$Line" "told" "LYarnMill$Fraction;", Cond.fieldLink RX1 97 "YarnMill$Fraction" "below" "J", Cond.constantLong RX1 64 (1000), Cond.fieldLink RX1 94 "YarnMill$Fraction" "above" "J", Cond.methodLink RX1 82 yX1_reckonPeriod, Cond.instanceMethod yX1_reckonPeriod, Cond.selects RX1 yX1_reckonPeriod yX1_reckonPeriod, Cond.code yX1_reckonPeriod cX1_reckonPeriod 4 none, Cond.fieldLink RX1 66 "YarnMill$Machine" "rounds" "[I", Cond.fieldLink RX1 52 "YarnMill$Machine" "above" "I", Cond.fieldLink RX1 55 "YarnMill$Machine" "below" "I"]
def wsX1_findNear_r2 : List Cond := [Cond.methodLink RX1 99 yX0_set, Cond.instanceMethod yX0_set, Cond.selects RX0 yX0_set yX0_set, Cond.initialized RX0, Cond.code yX0_set cX0_set 5 none, Cond.fieldLink RX0 7 "YarnMill$Fraction" "above" "J", Cond.fieldLink RX0 13 "YarnMill$Fraction" "below" "J", Cond.methodLink RX0 16 yX0_reduce, Cond.instanceMethod yX0_reduce, Cond.selects RX0 yX0_reduce yX0_reduce, Cond.code yX0_reduce cX0_reduce 3 none, Cond.methodLink RX0 23 yX0_commonDivisor, Cond.static yX0_commonDivisor, Cond.code yX0_commonDivisor cX0_commonDivisor 11 (some .long), Cond.methodLink RX1 103 yX0_times, Cond.instanceMethod yX0_times, Cond.selects RX0 yX0_times yX0_times, Cond.code yX0_times cX0_times 5 none, Cond.methodLink RX0 19 yX0_set]
def wsX1_findNear : List Cond := .code yX1_findNear cX1_findNear 7 (some .int) :: ((wsX1_findNear_r1 ++ wsX1_findNear_r2) ++ wsX10 ++ wsX20 ++ wsX00)
def wsX3_init : List Cond := .code yX3_init cX3_init 1 none :: ([.methodLink RX3 3 objectInit, .instanceMethod objectInit, .code objectInit ⟨#[0xb1]⟩ 1 none, .arrayClass .int, .fieldLink RX3 11 "YarnMill$Row" "cells" "[I"] ++ wsX30)
def wsX3_addCell : List Cond := .code yX3_addCell cX3_addCell 2 (some .int) :: ([.constantLong RX3 15 (1000000), .fieldLink RX3 21 "YarnMill$Row" "size" "I", .fieldLink RX3 11 "YarnMill$Row" "cells" "[I", .static yX5_within, .initialized RX5, .code yX5_within cX5_within 6 (some .boolean)] ++ wsX30)
def wsX3_addDrawn : List Cond := .code yX3_addDrawn cX3_addDrawn 7 (some .int) :: ([.constantLong RX3 25 (100), .constantLong RX3 27 (10000), .fieldLink RX3 21 "YarnMill$Row" "size" "I", .constant RX3 29 (1103515245), .constant RX3 30 (2147483647), .fieldLink RX3 11 "YarnMill$Row" "cells" "[I", .constant RX3 31 (65536), .static yX5_within, .initialized RX5, .code yX5_within cX5_within 6 (some .boolean)] ++ wsX30)
def wsX3_removeAll : List Cond := .code yX3_removeAll cX3_removeAll 2 (some .int) :: ([.fieldLink RX3 21 "YarnMill$Row" "size" "I"] ++ wsX30)
def wsX3_massAt : List Cond := .code yX3_massAt cX3_massAt 2 (some .int) :: ([.fieldLink RX3 21 "YarnMill$Row" "size" "I", .fieldLink RX3 11 "YarnMill$Row" "cells" "[I", .static yX5_within, .initialized RX5, .code yX5_within cX5_within 6 (some .boolean)] ++ wsX30)
def wsX3_addRow : List Cond := .code yX3_addRow cX3_addRow 3 (some .int) :: ([.fieldLink RX3 21 "YarnMill$Row" "size" "I", .fieldLink RX3 11 "YarnMill$Row" "cells" "[I", .constant RX3 32 (1000000)] ++ wsX30)
def wsX3_stretchBy : List Cond := .code yX3_stretchBy cX3_stretchBy 6 (some .int) :: ([.constantLong RX3 33 (2), .constantLong RX3 35 (8), .fieldLink RX3 21 "YarnMill$Row" "size" "I", .fieldLink RX3 11 "YarnMill$Row" "cells" "[I", .static yX5_within, .initialized RX5, .code yX5_within cX5_within 6 (some .boolean)] ++ wsX30)
def wsX3_sumOf : List Cond := .code yX3_sumOf cX3_sumOf 6 (some .int) :: ([.fieldLink RX3 21 "YarnMill$Row" "size" "I", .methodLink RX3 88 Lib.Math.min.name, .static Lib.Math.min.name, .initialized "java/lang/Math", .code Lib.Math.min.name Lib.Math.min.code 2 (some .int), .fieldLink RX3 11 "YarnMill$Row" "cells" "[I"] ++ wsX30)
def wsX3_gatherBy : List Cond := .code yX3_gatherBy cX3_gatherBy 4 (some .int) :: ([.constantLong RX3 33 (2), .constantLong RX3 37 (20), .fieldLink RX3 21 "YarnMill$Row" "size" "I", .constant RX3 32 (1000000), .fieldLink RX3 11 "YarnMill$Row" "cells" "[I", .static yX5_within, .initialized RX5, .code yX5_within cX5_within 6 (some .boolean), .methodLink RX3 39 yX3_sumOf, .instanceMethod yX3_sumOf, .selects RX3 yX3_sumOf yX3_sumOf, .initialized RX3, .code yX3_sumOf cX3_sumOf 6 (some .int), .methodLink RX3 88 Lib.Math.min.name, .static Lib.Math.min.name, .initialized "java/lang/Math", .code Lib.Math.min.name Lib.Math.min.code 2 (some .int)] ++ wsX30)
def wsX3_given : List Cond := .code yX3_given cX3_given 3 (some .int) :: ([.fieldLink RX3 11 "YarnMill$Row" "cells" "[I", .constantLong RX3 45 (1000)] ++ wsX30)
def wsX3_faultBy : List Cond := .code yX3_faultBy cX3_faultBy 8 (some .int) :: ([.constantLong RX3 33 (2), .constantLong RX3 43 (400), .constantLong RX3 45 (1000), .fieldLink RX3 21 "YarnMill$Row" "size" "I", .fieldLink RX3 11 "YarnMill$Row" "cells" "[I", .constant RX3 32 (1000000), .static yX5_within, .initialized RX5, .code yX5_within cX5_within 6 (some .boolean), .methodLink RX3 47 yX3_given, .instanceMethod yX3_given, .selects RX3 yX3_given yX3_given, .initialized RX3, .code yX3_given cX3_given 3 (some .int)] ++ wsX30)
def wsX3_unevenness : List Cond := .code yX3_unevenness cX3_unevenness 5 (some .long) :: ([.fieldLink RX3 21 "YarnMill$Row" "size" "I", .fieldLink RX3 11 "YarnMill$Row" "cells" "[I", .methodLink RX3 39 yX3_sumOf, .instanceMethod yX3_sumOf, .selects RX3 yX3_sumOf yX3_sumOf, .initialized RX3, .code yX3_sumOf cX3_sumOf 6 (some .int), .methodLink RX3 88 Lib.Math.min.name, .static Lib.Math.min.name, .initialized "java/lang/Math", .code Lib.Math.min.name Lib.Math.min.code 2 (some .int)] ++ wsX30)
def wsX3_measure : List Cond := .code yX3_measure cX3_measure 2 (some .long) :: ([.fieldLink RX3 21 "YarnMill$Row" "size" "I", .constantLong RX3 54 (-1), .methodLink RX3 39 yX3_sumOf, .instanceMethod yX3_sumOf, .selects RX3 yX3_sumOf yX3_sumOf, .initialized RX3, .code yX3_sumOf cX3_sumOf 6 (some .int), .methodLink RX3 88 Lib.Math.min.name, .static Lib.Math.min.name, .initialized "java/lang/Math", .code Lib.Math.min.name Lib.Math.min.code 2 (some .int), .fieldLink RX3 11 "YarnMill$Row" "cells" "[I", .methodLink RX3 50 yX3_unevenness, .instanceMethod yX3_unevenness, .selects RX3 yX3_unevenness yX3_unevenness, .code yX3_unevenness cX3_unevenness 5 (some .long)] ++ wsX30)
def wsX3_waveAt : List Cond := .code yX3_waveAt cX3_waveAt 11 (some .long) :: ([.constantLong RX3 33 (2), .constantLong RX3 56 (200), .constantLong RX3 54 (-1), .fieldLink RX3 21 "YarnMill$Row" "size" "I", .fieldLink RX3 11 "YarnMill$Row" "cells" "[I", .static yX5_within, .initialized RX5, .code yX5_within cX5_within 6 (some .boolean)] ++ wsX30)
def wsX3_isGreater : List Cond := .code yX3_isGreater cX3_isGreater 8 (some .boolean) :: ([])
def wsX3_greatestUpTo : List Cond := .code yX3_greatestUpTo cX3_greatestUpTo 12 (some .int) :: ([.constantLong RX3 33 (2), .constantLong RX3 56 (200), .fieldLink RX3 21 "YarnMill$Row" "size" "I", .static yX5_within, .initialized RX5, .code yX5_within cX5_within 6 (some .boolean), .methodLink RX3 58 yX3_waveAt, .instanceMethod yX3_waveAt, .selects RX3 yX3_waveAt yX3_waveAt, .initialized RX3, .code yX3_waveAt cX3_waveAt 11 (some .long), .constantLong RX3 54 (-1), .fieldLink RX3 11 "YarnMill$Row" "cells" "[I", .methodLink RX3 62 yX3_isGreater, .static yX3_isGreater, .code yX3_isGreater cX3_isGreater 8 (some .boolean)] ++ wsX30)
def wsX3_isLaw : List Cond := .code yX3_isLaw cX3_isLaw 3 (some .boolean) :: ([.constantLong RX3 45 (1000), .constantLong RX3 25 (100), .constantLong RX3 91 (50), .static yX5_within, .initialized RX5, .code yX5_within cX5_within 6 (some .boolean)])
def wsX3_mean : List Cond := .code yX3_mean cX3_mean 1 (some .long) :: ([.fieldLink RX3 21 "YarnMill$Row" "size" "I", .methodLink RX3 39 yX3_sumOf, .instanceMethod yX3_sumOf, .selects RX3 yX3_sumOf yX3_sumOf, .initialized RX3, .code yX3_sumOf cX3_sumOf 6 (some .int), .methodLink RX3 88 Lib.Math.min.name, .static Lib.Math.min.name, .initialized "java/lang/Math", .code Lib.Math.min.name Lib.Math.min.code 2 (some .int), .fieldLink RX3 11 "YarnMill$Row" "cells" "[I"] ++ wsX30)
def wsX3_runFrom : List Cond := .code yX3_runFrom cX3_runFrom 6 (some .int) :: ([.fieldLink RX3 21 "YarnMill$Row" "size" "I", .fieldLink RX3 11 "YarnMill$Row" "cells" "[I", .constantLong RX3 25 (100)] ++ wsX30)
def wsX3_countPlaces_r1 : List Cond := [Cond.fieldLink RX3 21 "YarnMill$Row" "size" "I", Cond.methodLink RX3 77 Lib.Math.max.name, Cond.static Lib.Math.max.name, Cond.initialized "java/lang/Math", Cond.code Lib.Math.max.name Lib.Math.max.code 2 (some .int), Cond.methodLink RX3 66 yX3_isLaw, Cond.static yX3_isLaw, Cond.initialized RX3, Cond.code yX3_isLaw cX3_isLaw 3 (some .boolean), Cond.constantLong RX3 45 (1000), Cond.constantLong RX3 25 (100), Cond.constantLong RX3 91 (50), Cond.static yX5_within, Cond.initialized RX5, Cond.code yX5_within cX5_within 6 (some .boolean), Cond.methodLink RX3 70 yX3_mean, Cond.instanceMethod yX3_mean, Cond.selects RX3 yX3_mean yX3_mean, Cond.code yX3_mean cX3_mean 1 (some .long), Cond.methodLink RX3 39 yX3_sumOf, Cond.instanceMethod yX3_sumOf, Cond.selects RX3 yX3_sumOf yX3_sumOf, Cond.code yX3_sumOf cX3_sumOf 6 (some .int), Cond.methodLink RX3 88 Lib.Math.min.name]
def wsX3_countPlaces_r2 : List Cond := [Cond.static Lib.Math.min.name, Cond.code Lib.Math.min.name Lib.Math.min.code 2 (some .int), Cond.fieldLink RX3 11 "YarnMill$Row" "cells" "[I", Cond.methodLink RX3 73 yX3_runFrom, Cond.instanceMethod yX3_runFrom, Cond.selects RX3 yX3_runFrom yX3_runFrom, Cond.code yX3_runFrom cX3_runFrom 6 (some .int)]
def wsX3_countPlaces : List Cond := .code yX3_countPlaces cX3_countPlaces 11 (some .int) :: ((wsX3_countPlaces_r1 ++ wsX3_countPlaces_r2) ++ wsX30)
def wsX3_placeFrom : List Cond := .code yX3_placeFrom cX3_placeFrom 9 (some .int) :: ([.methodLink RX3 73 yX3_runFrom, .instanceMethod yX3_runFrom, .selects RX3 yX3_runFrom yX3_runFrom, .initialized RX3, .code yX3_runFrom cX3_runFrom 6 (some .int), .fieldLink RX3 21 "YarnMill$Row" "size" "I", .fieldLink RX3 11 "YarnMill$Row" "cells" "[I", .constantLong RX3 25 (100)] ++ wsX30)
def wsX3_removePlaces_r1 : List Cond := [Cond.fieldLink RX3 21 "YarnMill$Row" "size" "I", Cond.fieldLink RX3 11 "YarnMill$Row" "cells" "[I", Cond.methodLink RX3 77 Lib.Math.max.name, Cond.static Lib.Math.max.name, Cond.initialized "java/lang/Math", Cond.code Lib.Math.max.name Lib.Math.max.code 2 (some .int), Cond.methodLink RX3 66 yX3_isLaw, Cond.static yX3_isLaw, Cond.initialized RX3, Cond.code yX3_isLaw cX3_isLaw 3 (some .boolean), Cond.constantLong RX3 45 (1000), Cond.constantLong RX3 25 (100), Cond.constantLong RX3 91 (50), Cond.static yX5_within, Cond.initialized RX5, Cond.code yX5_within cX5_within 6 (some .boolean), Cond.methodLink RX3 70 yX3_mean, Cond.instanceMethod yX3_mean, Cond.selects RX3 yX3_mean yX3_mean, Cond.code yX3_mean cX3_mean 1 (some .long), Cond.methodLink RX3 39 yX3_sumOf, Cond.instanceMethod yX3_sumOf, Cond.selects RX3 yX3_sumOf yX3_sumOf, Cond.code yX3_sumOf cX3_sumOf 6 (some .int)]
def wsX3_removePlaces_r2 : List Cond := [Cond.methodLink RX3 88 Lib.Math.min.name, Cond.static Lib.Math.min.name, Cond.code Lib.Math.min.name Lib.Math.min.code 2 (some .int), Cond.methodLink RX3 82 yX3_placeFrom, Cond.instanceMethod yX3_placeFrom, Cond.selects RX3 yX3_placeFrom yX3_placeFrom, Cond.code yX3_placeFrom cX3_placeFrom 9 (some .int), Cond.methodLink RX3 73 yX3_runFrom, Cond.instanceMethod yX3_runFrom, Cond.selects RX3 yX3_runFrom yX3_runFrom, Cond.code yX3_runFrom cX3_runFrom 6 (some .int)]
def wsX3_removePlaces : List Cond := .code yX3_removePlaces cX3_removePlaces 13 (some .int) :: ((wsX3_removePlaces_r1 ++ wsX3_removePlaces_r2) ++ wsX30)
def wsX3_mixInto : List Cond := .code yX3_mixInto cX3_mixInto 6 (some .long) :: ([.fieldLink RX3 21 "YarnMill$Row" "size" "I", .constantLong RX3 86 (31), .fieldLink RX3 11 "YarnMill$Row" "cells" "[I"] ++ wsX30)
def wsX4_init : List Cond := .code yX4_init cX4_init 1 none :: ([.methodLink RX4 3 objectInit, .instanceMethod objectInit, .code objectInit ⟨#[0xb1]⟩ 1 none, .fieldLink RX4 9 "YarnMill$Store" "each" "I", .arrayClass .int, .fieldLink RX4 15 "YarnMill$Store" "numbers" "[I", .fieldLink RX4 19 "YarnMill$Store" "order" "[I"] ++ wsX40)
def wsX4_addBale : List Cond := .code yX4_addBale cX4_addBale 2 (some .int) :: ([.constantLong RX4 22 (10000), .fieldLink RX4 28 "YarnMill$Store" "size" "I", .fieldLink RX4 31 "YarnMill$Store" "laydowns" "I", .fieldLink RX4 15 "YarnMill$Store" "numbers" "[I", .static yX5_within, .initialized RX5, .code yX5_within cX5_within 6 (some .boolean)] ++ wsX40)
def wsX4_removeAll : List Cond := .code yX4_removeAll cX4_removeAll 2 (some .int) :: ([.fieldLink RX4 28 "YarnMill$Store" "size" "I", .fieldLink RX4 31 "YarnMill$Store" "laydowns" "I"] ++ wsX40)
def wsX4_countTry : List Cond := .code yX4_countTry cX4_countTry 1 (some .boolean) :: ([.fieldLink RX4 42 "YarnMill$Store" "tried" "I", .constant RX4 63 (100000), .fieldLink RX4 45 "YarnMill$Store" "spent" "Z"] ++ wsX40)
def wsX4_fillLaydown : List Cond := .code yX4_fillLaydown cX4_fillLaydown 6 (some .boolean) :: ([.fieldLink RX4 36 "YarnMill$Store" "leastSum" "I", .fieldLink RX4 39 "YarnMill$Store" "mostSum" "I", .fieldLink RX4 28 "YarnMill$Store" "size" "I", .fieldLink RX4 19 "YarnMill$Store" "order" "[I", .fieldLink RX4 15 "YarnMill$Store" "numbers" "[I", .fieldLink RX4 45 "YarnMill$Store" "spent" "Z", .static yX5_within, .initialized RX5, .code yX5_within cX5_within 6 (some .boolean), .methodLink RX4 49 yX4_openLaydown, .instanceMethod yX4_openLaydown, .selects RX4 yX4_openLaydown yX4_openLaydown, .initialized RX4, .methodLink RX4 59 yX4_countTry, .instanceMethod yX4_countTry, .selects RX4 yX4_countTry yX4_countTry, .code yX4_countTry cX4_countTry 1 (some .boolean), .fieldLink RX4 42 "YarnMill$Store" "tried" "I", .constant RX4 63 (100000), .methodLink RX4 55 yX4_fillLaydown, .instanceMethod yX4_fillLaydown, .selects RX4 yX4_fillLaydown yX4_fillLaydown, .code yX4_openLaydown cX4_openLaydown 4 (some .boolean), .fieldLink RX4 9 "YarnMill$Store" "each" "I"] ++ wsX40)
def wsX4_openLaydown : List Cond := .code yX4_openLaydown cX4_openLaydown 4 (some .boolean) :: ([.fieldLink RX4 28 "YarnMill$Store" "size" "I", .fieldLink RX4 19 "YarnMill$Store" "order" "[I", .fieldLink RX4 9 "YarnMill$Store" "each" "I", .fieldLink RX4 15 "YarnMill$Store" "numbers" "[I", .methodLink RX4 55 yX4_fillLaydown, .instanceMethod yX4_fillLaydown, .selects RX4 yX4_fillLaydown yX4_fillLaydown, .initialized RX4, .code yX4_fillLaydown cX4_fillLaydown 6 (some .boolean), .fieldLink RX4 36 "YarnMill$Store" "leastSum" "I", .fieldLink RX4 39 "YarnMill$Store" "mostSum" "I", .fieldLink RX4 45 "YarnMill$Store" "spent" "Z", .static yX5_within, .initialized RX5, .code yX5_within cX5_within 6 (some .boolean), .methodLink RX4 49 yX4_openLaydown, .instanceMethod yX4_openLaydown, .selects RX4 yX4_openLaydown yX4_openLaydown, .methodLink RX4 59 yX4_countTry, .instanceMethod yX4_countTry, .selects RX4 yX4_countTry yX4_countTry, .code yX4_countTry cX4_countTry 1 (some .boolean), .fieldLink RX4 42 "YarnMill$Store" "tried" "I", .constant RX4 63 (100000)] ++ wsX40)
def wsX4_makePlan_r1 : List Cond := [Cond.constantLong RX4 34 (6), Cond.constantLong RX4 22 (10000), Cond.fieldLink RX4 31 "YarnMill$Store" "laydowns" "I", Cond.fieldLink RX4 28 "YarnMill$Store" "size" "I", Cond.fieldLink RX4 9 "YarnMill$Store" "each" "I", Cond.fieldLink RX4 36 "YarnMill$Store" "leastSum" "I", Cond.fieldLink RX4 39 "YarnMill$Store" "mostSum" "I", Cond.fieldLink RX4 42 "YarnMill$Store" "tried" "I", Cond.fieldLink RX4 45 "YarnMill$Store" "spent" "Z", Cond.static yX5_within, Cond.initialized RX5, Cond.code yX5_within cX5_within 6 (some .boolean), Cond.methodLink RX4 49 yX4_openLaydown, Cond.instanceMethod yX4_openLaydown, Cond.selects RX4 yX4_openLaydown yX4_openLaydown, Cond.initialized RX4, Cond.code yX4_openLaydown cX4_openLaydown 4 (some .boolean), Cond.fieldLink RX4 19 "YarnMill$Store" "order" "[I", Cond.fieldLink RX4 15 "YarnMill$Store" "numbers" "[I", Cond.methodLink RX4 55 yX4_fillLaydown, Cond.instanceMethod yX4_fillLaydown, Cond.selects RX4 yX4_fillLaydown yX4_fillLaydown, Cond.code yX4_fillLaydown cX4_fillLaydown 6 (some .boolean), Cond.methodLink RX4 59 yX4_countTry]
def wsX4_makePlan_r2 : List Cond := [Cond.instanceMethod yX4_countTry, Cond.selects RX4 yX4_countTry yX4_countTry, Cond.code yX4_countTry cX4_countTry 1 (some .boolean), Cond.constant RX4 63 (100000)]
def wsX4_makePlan : List Cond := .code yX4_makePlan cX4_makePlan 4 (some .int) :: ((wsX4_makePlan_r1 ++ wsX4_makePlan_r2) ++ wsX40)
def wsX4_planned : List Cond := .code yX4_planned cX4_planned 3 (some .int) :: ([.fieldLink RX4 31 "YarnMill$Store" "laydowns" "I", .fieldLink RX4 9 "YarnMill$Store" "each" "I", .fieldLink RX4 19 "YarnMill$Store" "order" "[I", .static yX5_within, .initialized RX5, .code yX5_within cX5_within 6 (some .boolean)] ++ wsX40)
def wsX4_mixInto : List Cond := .code yX4_mixInto cX4_mixInto 6 (some .long) :: ([.fieldLink RX4 31 "YarnMill$Store" "laydowns" "I", .fieldLink RX4 9 "YarnMill$Store" "each" "I", .constantLong RX4 53 (31), .fieldLink RX4 19 "YarnMill$Store" "order" "[I"] ++ wsX40)
def wsX5_init_r1 : List Cond := [Cond.methodLink RX5 1 objectInit, Cond.instanceMethod objectInit, Cond.code objectInit ⟨#[0xb1]⟩ 1 none, Cond.classLink RX5 7 RX1, Cond.instantiable RX1 5, Cond.initialized RX1, Cond.fieldLink RX5 10 "YarnMill" "line" "LYarnMill$Line;", Cond.classLink RX5 16 RX3, Cond.fieldLink RX5 18 "YarnMill" "rows" "[LYarnMill$Row;", Cond.instantiable RX3 2, Cond.initialized RX3, Cond.classLink RX5 23 RX4, Cond.instantiable RX4 9, Cond.initialized RX4, Cond.fieldLink RX5 26 "YarnMill" "store" "LYarnMill$Store;", Cond.methodLink RX5 9 yX1_init, Cond.instanceMethod yX1_init, Cond.code yX1_init cX1_init 2 none, Cond.methodLink RX1 3 objectInit, Cond.fieldLink RX1 9 "YarnMill$Line" "firstAbove" "I", Cond.fieldLink RX1 15 "YarnMill$Line" "firstBelow" "I", Cond.classLink RX1 18 RX2, Cond.fieldLink RX1 20 "YarnMill$Line" "machines" "[LYarnMill$Machine;", Cond.classLink RX1 24 RX0]
def wsX5_init_r2 : List Cond := [Cond.instantiable RX0 2, Cond.initialized RX0, Cond.fieldLink RX1 27 "YarnMill$Line" "told" "LYarnMill$Fraction;", Cond.instantiable RX2 6, Cond.initialized RX2, Cond.instanceMethod yX0_init, Cond.code yX0_init cX0_init 1 none, Cond.methodLink RX0 1 objectInit, Cond.fieldLink RX0 7 "YarnMill$Fraction" "above" "J", Cond.fieldLink RX0 13 "YarnMill$Fraction" "below" "J", Cond.instanceMethod yX2_init, Cond.code yX2_init cX2_init 1 none, Cond.methodLink RX2 1 objectInit, Cond.arrayClass .int, Cond.fieldLink RX2 9 "YarnMill$Machine" "rounds" "[I", Cond.instanceMethod yX3_init, Cond.code yX3_init cX3_init 1 none, Cond.methodLink RX3 3 objectInit, Cond.fieldLink RX3 11 "YarnMill$Row" "cells" "[I", Cond.instanceMethod yX4_init, Cond.code yX4_init cX4_init 1 none, Cond.methodLink RX4 3 objectInit, Cond.fieldLink RX4 9 "YarnMill$Store" "each" "I", Cond.fieldLink RX4 15 "YarnMill$Store" "numbers" "[I"]
def wsX5_init_r3 : List Cond := [Cond.fieldLink RX4 19 "YarnMill$Store" "order" "[I"]
def wsX5_init : List Cond := .code yX5_init cX5_init 2 none :: ((wsX5_init_r1 ++ (wsX5_init_r2 ++ wsX5_init_r3)) ++ wsX10 ++ wsX50 ++ wsX30 ++ wsX40 ++ wsX00 ++ wsX20)
def wsX5_count : List Cond := .code yX5_count cX5_count 3 (some .int) :: ([.fieldLink RX5 10 "YarnMill" "line" "LYarnMill$Line;", .methodLink RX5 30 yX1_setFirst, .instanceMethod yX1_setFirst, .selects RX1 yX1_setFirst yX1_setFirst, .initialized RX1, .code yX1_setFirst cX1_setFirst 3 (some .int), .constantLong RX1 32 (10000), .fieldLink RX1 9 "YarnMill$Line" "firstAbove" "I", .fieldLink RX1 15 "YarnMill$Line" "firstBelow" "I", .static yX5_within, .initialized RX5, .code yX5_within cX5_within 6 (some .boolean)] ++ wsX50 ++ wsX10)
def wsX5_machine : List Cond := .code yX5_machine cX5_machine 5 (some .int) :: ([.fieldLink RX5 10 "YarnMill" "line" "LYarnMill$Line;", .methodLink RX5 34 yX1_addMachine, .instanceMethod yX1_addMachine, .selects RX1 yX1_addMachine yX1_addMachine, .initialized RX1, .code yX1_addMachine cX1_addMachine 6 (some .int), .constantLong RX1 38 (16), .constantLong RX1 40 (60), .constantLong RX1 42 (20), .constantLong RX1 44 (500), .fieldLink RX1 46 "YarnMill$Line" "size" "I", .fieldLink RX1 20 "YarnMill$Line" "machines" "[LYarnMill$Machine;", .fieldLink RX1 49 "YarnMill$Machine" "doublings" "I", .fieldLink RX1 52 "YarnMill$Machine" "above" "I", .fieldLink RX1 55 "YarnMill$Machine" "below" "I", .fieldLink RX1 58 "YarnMill$Machine" "loss" "I", .fieldLink RX1 61 "YarnMill$Machine" "rollers" "I", .static yX5_within, .initialized RX5, .code yX5_within cX5_within 6 (some .boolean)] ++ wsX50 ++ wsX10 ++ wsX20)
def wsX5_roller : List Cond := .code yX5_roller cX5_roller 3 (some .int) :: ([.fieldLink RX5 10 "YarnMill" "line" "LYarnMill$Line;", .methodLink RX5 38 yX1_addRoller, .instanceMethod yX1_addRoller, .selects RX1 yX1_addRoller yX1_addRoller, .initialized RX1, .code yX1_addRoller cX1_addRoller 4 (some .int), .fieldLink RX1 46 "YarnMill$Line" "size" "I", .constantLong RX1 64 (1000), .fieldLink RX1 20 "YarnMill$Line" "machines" "[LYarnMill$Machine;", .fieldLink RX1 61 "YarnMill$Machine" "rollers" "I", .fieldLink RX1 66 "YarnMill$Machine" "rounds" "[I", .static yX5_within, .initialized RX5, .code yX5_within cX5_within 6 (some .boolean)] ++ wsX50 ++ wsX10 ++ wsX20)
def wsX5_clear : List Cond := .code yX5_clear cX5_clear 1 (some .int) :: ([.fieldLink RX5 10 "YarnMill" "line" "LYarnMill$Line;", .methodLink RX5 41 yX1_removeAll, .instanceMethod yX1_removeAll, .selects RX1 yX1_removeAll yX1_removeAll, .initialized RX1, .code yX1_removeAll cX1_removeAll 2 (some .int), .fieldLink RX1 46 "YarnMill$Line" "size" "I"] ++ wsX50 ++ wsX10)
def wsX5_countAt_r1 : List Cond := [Cond.fieldLink RX5 10 "YarnMill" "line" "LYarnMill$Line;", Cond.methodLink RX5 45 yX1_tellCount, Cond.instanceMethod yX1_tellCount, Cond.selects RX1 yX1_tellCount yX1_tellCount, Cond.initialized RX1, Cond.code yX1_tellCount cX1_tellCount 3 (some .long), Cond.fieldLink RX1 46 "YarnMill$Line" "size" "I", Cond.constantLong RX1 70 (-2), Cond.constantLong RX1 80 (-6), Cond.static yX5_within, Cond.initialized RX5, Cond.code yX5_within cX5_within 6 (some .boolean), Cond.methodLink RX1 72 yX1_reckonCount, Cond.instanceMethod yX1_reckonCount, Cond.selects RX1 yX1_reckonCount yX1_reckonCount, Cond.code yX1_reckonCount cX1_reckonCount 4 (some .boolean), Cond.fieldLink RX1 27 "YarnMill$Line" "told" "LYarnMill$Fraction;", Cond.fieldLink RX1 9 "YarnMill$Line" "firstAbove" "I", Cond.fieldLink RX1 15 "YarnMill$Line" "firstBelow" "I", Cond.fieldLink RX1 20 "YarnMill$Line" "machines" "[LYarnMill$Machine;", Cond.fieldLink RX1 49 "YarnMill$Machine" "doublings" "I", Cond.fieldLink RX1 58 "YarnMill$Machine" "loss" "I", Cond.fieldLink RX1 55 "YarnMill$Machine" "below" "I", Cond.constantLong RX1 64 (1000)]
def wsX5_countAt_r2 : List Cond := [Cond.fieldLink RX1 52 "YarnMill$Machine" "above" "I", Cond.fieldLink RX1 94 "YarnMill$Fraction" "above" "J", Cond.constantLong RX1 106 (1000000000000), Cond.fieldLink RX1 97 "YarnMill$Fraction" "below" "J", Cond.methodLink RX1 99 yX0_set, Cond.instanceMethod yX0_set, Cond.selects RX0 yX0_set yX0_set, Cond.initialized RX0, Cond.code yX0_set cX0_set 5 none, Cond.fieldLink RX0 7 "YarnMill$Fraction" "above" "J", Cond.fieldLink RX0 13 "YarnMill$Fraction" "below" "J", Cond.methodLink RX0 16 yX0_reduce, Cond.instanceMethod yX0_reduce, Cond.selects RX0 yX0_reduce yX0_reduce, Cond.code yX0_reduce cX0_reduce 3 none, Cond.methodLink RX0 23 yX0_commonDivisor, Cond.static yX0_commonDivisor, Cond.code yX0_commonDivisor cX0_commonDivisor 11 (some .long), Cond.methodLink RX1 103 yX0_times, Cond.instanceMethod yX0_times, Cond.selects RX0 yX0_times yX0_times, Cond.code yX0_times cX0_times 5 none, Cond.methodLink RX0 19 yX0_set, Cond.methodLink RX1 76 yX1_toldPart]
def wsX5_countAt_r3 : List Cond := [Cond.instanceMethod yX1_toldPart, Cond.selects RX1 yX1_toldPart yX1_toldPart, Cond.code yX1_toldPart cX1_toldPart 2 (some .long)]
def wsX5_countAt : List Cond := .code yX5_countAt cX5_countAt 3 (some .long) :: ((wsX5_countAt_r1 ++ (wsX5_countAt_r2 ++ wsX5_countAt_r3)) ++ wsX50 ++ wsX10 ++ wsX20 ++ wsX00)
def wsX5_period_r1 : List Cond := [Cond.fieldLink RX5 10 "YarnMill" "line" "LYarnMill$Line;", Cond.methodLink RX5 49 yX1_tellPeriod, Cond.instanceMethod yX1_tellPeriod, Cond.selects RX1 yX1_tellPeriod yX1_tellPeriod, Cond.initialized RX1, Cond.code yX1_tellPeriod cX1_tellPeriod 4 (some .long), Cond.fieldLink RX1 46 "YarnMill$Line" "size" "I", Cond.fieldLink RX1 20 "YarnMill$Line" "machines" "[LYarnMill$Machine;", Cond.fieldLink RX1 61 "YarnMill$Machine" "rollers" "I", Cond.constantLong RX1 70 (-2), Cond.static yX5_within, Cond.initialized RX5, Cond.code yX5_within cX5_within 6 (some .boolean), Cond.methodLink RX1 82 yX1_reckonPeriod, Cond.instanceMethod yX1_reckonPeriod, Cond.selects RX1 yX1_reckonPeriod yX1_reckonPeriod, Cond.code yX1_reckonPeriod cX1_reckonPeriod 4 none, Cond.fieldLink RX1 27 "YarnMill$Line" "told" "LYarnMill$Fraction;", Cond.fieldLink RX1 66 "YarnMill$Machine" "rounds" "[I", Cond.fieldLink RX1 52 "YarnMill$Machine" "above" "I", Cond.fieldLink RX1 55 "YarnMill$Machine" "below" "I", Cond.methodLink RX1 99 yX0_set, Cond.instanceMethod yX0_set, Cond.selects RX0 yX0_set yX0_set]
def wsX5_period_r2 : List Cond := [Cond.initialized RX0, Cond.code yX0_set cX0_set 5 none, Cond.fieldLink RX0 7 "YarnMill$Fraction" "above" "J", Cond.fieldLink RX0 13 "YarnMill$Fraction" "below" "J", Cond.methodLink RX0 16 yX0_reduce, Cond.instanceMethod yX0_reduce, Cond.selects RX0 yX0_reduce yX0_reduce, Cond.code yX0_reduce cX0_reduce 3 none, Cond.methodLink RX0 23 yX0_commonDivisor, Cond.static yX0_commonDivisor, Cond.code yX0_commonDivisor cX0_commonDivisor 11 (some .long), Cond.methodLink RX1 103 yX0_times, Cond.instanceMethod yX0_times, Cond.selects RX0 yX0_times yX0_times, Cond.code yX0_times cX0_times 5 none, Cond.methodLink RX0 19 yX0_set, Cond.methodLink RX1 76 yX1_toldPart, Cond.instanceMethod yX1_toldPart, Cond.selects RX1 yX1_toldPart yX1_toldPart, Cond.code yX1_toldPart cX1_toldPart 2 (some .long), Cond.fieldLink RX1 94 "YarnMill$Fraction" "above" "J", Cond.fieldLink RX1 97 "YarnMill$Fraction" "below" "J"]
def wsX5_period : List Cond := .code yX5_period cX5_period 4 (some .long) :: ((wsX5_period_r1 ++ wsX5_period_r2) ++ wsX50 ++ wsX10 ++ wsX20 ++ wsX00)
def wsX5_names_r1 : List Cond := [Cond.fieldLink RX5 10 "YarnMill" "line" "LYarnMill$Line;", Cond.methodLink RX5 53 yX1_findNear, Cond.instanceMethod yX1_findNear, Cond.selects RX1 yX1_findNear yX1_findNear, Cond.initialized RX1, Cond.code yX1_findNear cX1_findNear 7 (some .int), Cond.constantLong RX1 86 (1000000), Cond.constantLong RX1 88 (999), Cond.fieldLink RX1 46 "YarnMill$Line" "size" "I", Cond.fieldLink RX1 20 "YarnMill$Line" "machines" "[LYarnMill$Machine;", Cond.fieldLink RX1 61 "YarnMill$Machine" "rollers" "I", Cond.static yX5_within, Cond.initialized RX5, Cond.code yX5_within cX5_within 6 (some .boolean), Cond.methodLink RX1 90 yX1_isNear, Cond.instanceMethod yX1_isNear, Cond.selects RX1 yX1_isNear yX1_isNear, Cond.code yX1_isNear cX1_isNear 7 (some .boolean), Cond.fieldLink RX1 27 "YarnMill$Line" "told" "LYarnMill$Fraction;", Cond.fieldLink RX1 97 "YarnMill$Fraction" "below" "J", Cond.constantLong RX1 64 (1000), Cond.fieldLink RX1 94 "YarnMill$Fraction" "above" "J", Cond.methodLink RX1 82 yX1_reckonPeriod, Cond.instanceMethod yX1_reckonPeriod]
def wsX5_names_r2 : List Cond := [Cond.selects RX1 yX1_reckonPeriod yX1_reckonPeriod, Cond.code yX1_reckonPeriod cX1_reckonPeriod 4 none, Cond.fieldLink RX1 66 "YarnMill$Machine" "rounds" "[I", Cond.fieldLink RX1 52 "YarnMill$Machine" "above" "I", Cond.fieldLink RX1 55 "YarnMill$Machine" "below" "I", Cond.methodLink RX1 99 yX0_set, Cond.instanceMethod yX0_set, Cond.selects RX0 yX0_set yX0_set, Cond.initialized RX0, Cond.code yX0_set cX0_set 5 none, Cond.fieldLink RX0 7 "YarnMill$Fraction" "above" "J", Cond.fieldLink RX0 13 "YarnMill$Fraction" "below" "J", Cond.methodLink RX0 16 yX0_reduce, Cond.instanceMethod yX0_reduce, Cond.selects RX0 yX0_reduce yX0_reduce, Cond.code yX0_reduce cX0_reduce 3 none, Cond.methodLink RX0 23 yX0_commonDivisor, Cond.static yX0_commonDivisor, Cond.code yX0_commonDivisor cX0_commonDivisor 11 (some .long), Cond.methodLink RX1 103 yX0_times, Cond.instanceMethod yX0_times, Cond.selects RX0 yX0_times yX0_times, Cond.code yX0_times cX0_times 5 none, Cond.methodLink RX0 19 yX0_set]
def wsX5_names : List Cond := .code yX5_names cX5_names 4 (some .int) :: ((wsX5_names_r1 ++ wsX5_names_r2) ++ wsX50 ++ wsX10 ++ wsX20 ++ wsX00)
def wsX5_rowOrNull : List Cond := .code yX5_rowOrNull cX5_rowOrNull 2 (some (.object "YarnMill$Row")) :: ([.constantLong RX5 143 (7), .fieldLink RX5 18 "YarnMill" "rows" "[LYarnMill$Row;", .methodLink RX5 145 yX5_within, .static yX5_within, .initialized RX5, .code yX5_within cX5_within 6 (some .boolean)] ++ wsX50)
def wsX5_cell : List Cond := .code yX5_cell cX5_cell 4 (some .int) :: ([.methodLink RX5 57 yX5_rowOrNull, .instanceMethod yX5_rowOrNull, .selects RX5 yX5_rowOrNull yX5_rowOrNull, .initialized RX5, .code yX5_rowOrNull cX5_rowOrNull 2 (some (.object "YarnMill$Row")), .constantLong RX5 143 (7), .fieldLink RX5 18 "YarnMill" "rows" "[LYarnMill$Row;", .methodLink RX5 145 yX5_within, .static yX5_within, .code yX5_within cX5_within 6 (some .boolean), .methodLink RX5 61 yX3_addCell, .instanceMethod yX3_addCell, .selects RX3 yX3_addCell yX3_addCell, .initialized RX3, .code yX3_addCell cX3_addCell 2 (some .int), .constantLong RX3 15 (1000000), .fieldLink RX3 21 "YarnMill$Row" "size" "I", .fieldLink RX3 11 "YarnMill$Row" "cells" "[I"] ++ wsX50 ++ wsX30)
def wsX5_draw : List Cond := .code yX5_draw cX5_draw 7 (some .int) :: ([.methodLink RX5 57 yX5_rowOrNull, .instanceMethod yX5_rowOrNull, .selects RX5 yX5_rowOrNull yX5_rowOrNull, .initialized RX5, .code yX5_rowOrNull cX5_rowOrNull 2 (some (.object "YarnMill$Row")), .constantLong RX5 143 (7), .fieldLink RX5 18 "YarnMill" "rows" "[LYarnMill$Row;", .methodLink RX5 145 yX5_within, .static yX5_within, .code yX5_within cX5_within 6 (some .boolean), .methodLink RX5 65 yX3_addDrawn, .instanceMethod yX3_addDrawn, .selects RX3 yX3_addDrawn yX3_addDrawn, .initialized RX3, .code yX3_addDrawn cX3_addDrawn 7 (some .int), .constantLong RX3 25 (100), .constantLong RX3 27 (10000), .fieldLink RX3 21 "YarnMill$Row" "size" "I", .constant RX3 29 (1103515245), .constant RX3 30 (2147483647), .fieldLink RX3 11 "YarnMill$Row" "cells" "[I", .constant RX3 31 (65536)] ++ wsX50 ++ wsX30)
def wsX5_empty : List Cond := .code yX5_empty cX5_empty 3 (some .int) :: ([.methodLink RX5 57 yX5_rowOrNull, .instanceMethod yX5_rowOrNull, .selects RX5 yX5_rowOrNull yX5_rowOrNull, .initialized RX5, .code yX5_rowOrNull cX5_rowOrNull 2 (some (.object "YarnMill$Row")), .constantLong RX5 143 (7), .fieldLink RX5 18 "YarnMill" "rows" "[LYarnMill$Row;", .methodLink RX5 145 yX5_within, .static yX5_within, .code yX5_within cX5_within 6 (some .boolean), .methodLink RX5 68 yX3_removeAll, .instanceMethod yX3_removeAll, .selects RX3 yX3_removeAll yX3_removeAll, .initialized RX3, .code yX3_removeAll cX3_removeAll 2 (some .int), .fieldLink RX3 21 "YarnMill$Row" "size" "I"] ++ wsX50 ++ wsX30)
def wsX5_at : List Cond := .code yX5_at cX5_at 4 (some .int) :: ([.methodLink RX5 57 yX5_rowOrNull, .instanceMethod yX5_rowOrNull, .selects RX5 yX5_rowOrNull yX5_rowOrNull, .initialized RX5, .code yX5_rowOrNull cX5_rowOrNull 2 (some (.object "YarnMill$Row")), .constantLong RX5 143 (7), .fieldLink RX5 18 "YarnMill" "rows" "[LYarnMill$Row;", .methodLink RX5 145 yX5_within, .static yX5_within, .code yX5_within cX5_within 6 (some .boolean), .methodLink RX5 69 yX3_massAt, .instanceMethod yX3_massAt, .selects RX3 yX3_massAt yX3_massAt, .initialized RX3, .code yX3_massAt cX3_massAt 2 (some .int), .fieldLink RX3 21 "YarnMill$Row" "size" "I", .fieldLink RX3 11 "YarnMill$Row" "cells" "[I"] ++ wsX50 ++ wsX30)
def wsX5_join : List Cond := .code yX5_join cX5_join 5 (some .int) :: ([.methodLink RX5 57 yX5_rowOrNull, .instanceMethod yX5_rowOrNull, .selects RX5 yX5_rowOrNull yX5_rowOrNull, .initialized RX5, .code yX5_rowOrNull cX5_rowOrNull 2 (some (.object "YarnMill$Row")), .constantLong RX5 143 (7), .fieldLink RX5 18 "YarnMill" "rows" "[LYarnMill$Row;", .methodLink RX5 145 yX5_within, .static yX5_within, .code yX5_within cX5_within 6 (some .boolean), .methodLink RX5 72 yX3_addRow, .instanceMethod yX3_addRow, .selects RX3 yX3_addRow yX3_addRow, .initialized RX3, .code yX3_addRow cX3_addRow 3 (some .int), .fieldLink RX3 21 "YarnMill$Row" "size" "I", .fieldLink RX3 11 "YarnMill$Row" "cells" "[I", .constant RX3 32 (1000000)] ++ wsX50 ++ wsX30)
def wsX5_stretch : List Cond := .code yX5_stretch cX5_stretch 4 (some .int) :: ([.methodLink RX5 57 yX5_rowOrNull, .instanceMethod yX5_rowOrNull, .selects RX5 yX5_rowOrNull yX5_rowOrNull, .initialized RX5, .code yX5_rowOrNull cX5_rowOrNull 2 (some (.object "YarnMill$Row")), .constantLong RX5 143 (7), .fieldLink RX5 18 "YarnMill" "rows" "[LYarnMill$Row;", .methodLink RX5 145 yX5_within, .static yX5_within, .code yX5_within cX5_within 6 (some .boolean), .methodLink RX5 76 yX3_stretchBy, .instanceMethod yX3_stretchBy, .selects RX3 yX3_stretchBy yX3_stretchBy, .initialized RX3, .code yX3_stretchBy cX3_stretchBy 6 (some .int), .constantLong RX3 33 (2), .constantLong RX3 35 (8), .fieldLink RX3 21 "YarnMill$Row" "size" "I", .fieldLink RX3 11 "YarnMill$Row" "cells" "[I"] ++ wsX50 ++ wsX30)
def wsX5_gather_r1 : List Cond := [Cond.methodLink RX5 57 yX5_rowOrNull, Cond.instanceMethod yX5_rowOrNull, Cond.selects RX5 yX5_rowOrNull yX5_rowOrNull, Cond.initialized RX5, Cond.code yX5_rowOrNull cX5_rowOrNull 2 (some (.object "YarnMill$Row")), Cond.constantLong RX5 143 (7), Cond.fieldLink RX5 18 "YarnMill" "rows" "[LYarnMill$Row;", Cond.methodLink RX5 145 yX5_within, Cond.static yX5_within, Cond.code yX5_within cX5_within 6 (some .boolean), Cond.methodLink RX5 79 yX3_gatherBy, Cond.instanceMethod yX3_gatherBy, Cond.selects RX3 yX3_gatherBy yX3_gatherBy, Cond.initialized RX3, Cond.code yX3_gatherBy cX3_gatherBy 4 (some .int), Cond.constantLong RX3 33 (2), Cond.constantLong RX3 37 (20), Cond.fieldLink RX3 21 "YarnMill$Row" "size" "I", Cond.constant RX3 32 (1000000), Cond.fieldLink RX3 11 "YarnMill$Row" "cells" "[I", Cond.methodLink RX3 39 yX3_sumOf, Cond.instanceMethod yX3_sumOf, Cond.selects RX3 yX3_sumOf yX3_sumOf, Cond.code yX3_sumOf cX3_sumOf 6 (some .int)]
def wsX5_gather_r2 : List Cond := [Cond.methodLink RX3 88 Lib.Math.min.name, Cond.static Lib.Math.min.name, Cond.initialized "java/lang/Math", Cond.code Lib.Math.min.name Lib.Math.min.code 2 (some .int)]
def wsX5_gather : List Cond := .code yX5_gather cX5_gather 4 (some .int) :: ((wsX5_gather_r1 ++ wsX5_gather_r2) ++ wsX50 ++ wsX30)
def wsX5_fault_r1 : List Cond := [Cond.methodLink RX5 57 yX5_rowOrNull, Cond.instanceMethod yX5_rowOrNull, Cond.selects RX5 yX5_rowOrNull yX5_rowOrNull, Cond.initialized RX5, Cond.code yX5_rowOrNull cX5_rowOrNull 2 (some (.object "YarnMill$Row")), Cond.constantLong RX5 143 (7), Cond.fieldLink RX5 18 "YarnMill" "rows" "[LYarnMill$Row;", Cond.methodLink RX5 145 yX5_within, Cond.static yX5_within, Cond.code yX5_within cX5_within 6 (some .boolean), Cond.methodLink RX5 82 yX3_faultBy, Cond.instanceMethod yX3_faultBy, Cond.selects RX3 yX3_faultBy yX3_faultBy, Cond.initialized RX3, Cond.code yX3_faultBy cX3_faultBy 8 (some .int), Cond.constantLong RX3 33 (2), Cond.constantLong RX3 43 (400), Cond.constantLong RX3 45 (1000), Cond.fieldLink RX3 21 "YarnMill$Row" "size" "I", Cond.fieldLink RX3 11 "YarnMill$Row" "cells" "[I", Cond.constant RX3 32 (1000000), Cond.methodLink RX3 47 yX3_given, Cond.instanceMethod yX3_given, Cond.selects RX3 yX3_given yX3_given]
def wsX5_fault_r2 : List Cond := [Cond.code yX3_given cX3_given 3 (some .int)]
def wsX5_fault : List Cond := .code yX5_fault cX5_fault 5 (some .int) :: ((wsX5_fault_r1 ++ wsX5_fault_r2) ++ wsX50 ++ wsX30)
def wsX5_about_r1 : List Cond := [Cond.constantLong RX5 85 (-1), Cond.methodLink RX5 57 yX5_rowOrNull, Cond.instanceMethod yX5_rowOrNull, Cond.selects RX5 yX5_rowOrNull yX5_rowOrNull, Cond.initialized RX5, Cond.code yX5_rowOrNull cX5_rowOrNull 2 (some (.object "YarnMill$Row")), Cond.constantLong RX5 143 (7), Cond.fieldLink RX5 18 "YarnMill" "rows" "[LYarnMill$Row;", Cond.methodLink RX5 145 yX5_within, Cond.static yX5_within, Cond.code yX5_within cX5_within 6 (some .boolean), Cond.methodLink RX5 87 yX3_measure, Cond.instanceMethod yX3_measure, Cond.selects RX3 yX3_measure yX3_measure, Cond.initialized RX3, Cond.code yX3_measure cX3_measure 2 (some .long), Cond.fieldLink RX3 21 "YarnMill$Row" "size" "I", Cond.constantLong RX3 54 (-1), Cond.methodLink RX3 39 yX3_sumOf, Cond.instanceMethod yX3_sumOf, Cond.selects RX3 yX3_sumOf yX3_sumOf, Cond.code yX3_sumOf cX3_sumOf 6 (some .int), Cond.methodLink RX3 88 Lib.Math.min.name, Cond.static Lib.Math.min.name]
def wsX5_about_r2 : List Cond := [Cond.initialized "java/lang/Math", Cond.code Lib.Math.min.name Lib.Math.min.code 2 (some .int), Cond.fieldLink RX3 11 "YarnMill$Row" "cells" "[I", Cond.methodLink RX3 50 yX3_unevenness, Cond.instanceMethod yX3_unevenness, Cond.selects RX3 yX3_unevenness yX3_unevenness, Cond.code yX3_unevenness cX3_unevenness 5 (some .long)]
def wsX5_about : List Cond := .code yX5_about cX5_about 4 (some .long) :: ((wsX5_about_r1 ++ wsX5_about_r2) ++ wsX50 ++ wsX30)
def wsX5_wave : List Cond := .code yX5_wave cX5_wave 4 (some .long) :: ([.constantLong RX5 85 (-1), .methodLink RX5 57 yX5_rowOrNull, .instanceMethod yX5_rowOrNull, .selects RX5 yX5_rowOrNull yX5_rowOrNull, .initialized RX5, .code yX5_rowOrNull cX5_rowOrNull 2 (some (.object "YarnMill$Row")), .constantLong RX5 143 (7), .fieldLink RX5 18 "YarnMill" "rows" "[LYarnMill$Row;", .methodLink RX5 145 yX5_within, .static yX5_within, .code yX5_within cX5_within 6 (some .boolean), .methodLink RX5 91 yX3_waveAt, .instanceMethod yX3_waveAt, .selects RX3 yX3_waveAt yX3_waveAt, .initialized RX3, .code yX3_waveAt cX3_waveAt 11 (some .long), .constantLong RX3 33 (2), .constantLong RX3 56 (200), .constantLong RX3 54 (-1), .fieldLink RX3 21 "YarnMill$Row" "size" "I", .fieldLink RX3 11 "YarnMill$Row" "cells" "[I"] ++ wsX50 ++ wsX30)
def wsX5_greatest_r1 : List Cond := [Cond.methodLink RX5 57 yX5_rowOrNull, Cond.instanceMethod yX5_rowOrNull, Cond.selects RX5 yX5_rowOrNull yX5_rowOrNull, Cond.initialized RX5, Cond.code yX5_rowOrNull cX5_rowOrNull 2 (some (.object "YarnMill$Row")), Cond.constantLong RX5 143 (7), Cond.fieldLink RX5 18 "YarnMill" "rows" "[LYarnMill$Row;", Cond.methodLink RX5 145 yX5_within, Cond.static yX5_within, Cond.code yX5_within cX5_within 6 (some .boolean), Cond.methodLink RX5 94 yX3_greatestUpTo, Cond.instanceMethod yX3_greatestUpTo, Cond.selects RX3 yX3_greatestUpTo yX3_greatestUpTo, Cond.initialized RX3, Cond.code yX3_greatestUpTo cX3_greatestUpTo 12 (some .int), Cond.constantLong RX3 33 (2), Cond.constantLong RX3 56 (200), Cond.fieldLink RX3 21 "YarnMill$Row" "size" "I", Cond.methodLink RX3 58 yX3_waveAt, Cond.instanceMethod yX3_waveAt, Cond.selects RX3 yX3_waveAt yX3_waveAt, Cond.code yX3_waveAt cX3_waveAt 11 (some .long), Cond.constantLong RX3 54 (-1), Cond.fieldLink RX3 11 "YarnMill$Row" "cells" "[I"]
def wsX5_greatest_r2 : List Cond := [Cond.methodLink RX3 62 yX3_isGreater, Cond.static yX3_isGreater, Cond.code yX3_isGreater cX3_isGreater 8 (some .boolean)]
def wsX5_greatest : List Cond := .code yX5_greatest cX5_greatest 4 (some .int) :: ((wsX5_greatest_r1 ++ wsX5_greatest_r2) ++ wsX50 ++ wsX30)
def wsX5_places_r1 : List Cond := [Cond.methodLink RX5 57 yX5_rowOrNull, Cond.instanceMethod yX5_rowOrNull, Cond.selects RX5 yX5_rowOrNull yX5_rowOrNull, Cond.initialized RX5, Cond.code yX5_rowOrNull cX5_rowOrNull 2 (some (.object "YarnMill$Row")), Cond.constantLong RX5 143 (7), Cond.fieldLink RX5 18 "YarnMill" "rows" "[LYarnMill$Row;", Cond.methodLink RX5 145 yX5_within, Cond.static yX5_within, Cond.code yX5_within cX5_within 6 (some .boolean), Cond.methodLink RX5 97 yX3_countPlaces, Cond.instanceMethod yX3_countPlaces, Cond.selects RX3 yX3_countPlaces yX3_countPlaces, Cond.initialized RX3, Cond.code yX3_countPlaces cX3_countPlaces 11 (some .int), Cond.fieldLink RX3 21 "YarnMill$Row" "size" "I", Cond.methodLink RX3 77 Lib.Math.max.name, Cond.static Lib.Math.max.name, Cond.initialized "java/lang/Math", Cond.code Lib.Math.max.name Lib.Math.max.code 2 (some .int), Cond.methodLink RX3 66 yX3_isLaw, Cond.static yX3_isLaw, Cond.code yX3_isLaw cX3_isLaw 3 (some .boolean), Cond.constantLong RX3 45 (1000)]
def wsX5_places_r2 : List Cond := [Cond.constantLong RX3 25 (100), Cond.constantLong RX3 91 (50), Cond.methodLink RX3 70 yX3_mean, Cond.instanceMethod yX3_mean, Cond.selects RX3 yX3_mean yX3_mean, Cond.code yX3_mean cX3_mean 1 (some .long), Cond.methodLink RX3 39 yX3_sumOf, Cond.instanceMethod yX3_sumOf, Cond.selects RX3 yX3_sumOf yX3_sumOf, Cond.code yX3_sumOf cX3_sumOf 6 (some .int), Cond.methodLink RX3 88 Lib.Math.min.name, Cond.static Lib.Math.min.name, Cond.code Lib.Math.min.name Lib.Math.min.code 2 (some .int), Cond.fieldLink RX3 11 "YarnMill$Row" "cells" "[I", Cond.methodLink RX3 73 yX3_runFrom, Cond.instanceMethod yX3_runFrom, Cond.selects RX3 yX3_runFrom yX3_runFrom, Cond.code yX3_runFrom cX3_runFrom 6 (some .int)]
def wsX5_places : List Cond := .code yX5_places cX5_places 7 (some .int) :: ((wsX5_places_r1 ++ wsX5_places_r2) ++ wsX50 ++ wsX30)
def wsX5_cleared_r1 : List Cond := [Cond.methodLink RX5 57 yX5_rowOrNull, Cond.instanceMethod yX5_rowOrNull, Cond.selects RX5 yX5_rowOrNull yX5_rowOrNull, Cond.initialized RX5, Cond.code yX5_rowOrNull cX5_rowOrNull 2 (some (.object "YarnMill$Row")), Cond.constantLong RX5 143 (7), Cond.fieldLink RX5 18 "YarnMill" "rows" "[LYarnMill$Row;", Cond.methodLink RX5 145 yX5_within, Cond.static yX5_within, Cond.code yX5_within cX5_within 6 (some .boolean), Cond.methodLink RX5 100 yX3_removePlaces, Cond.instanceMethod yX3_removePlaces, Cond.selects RX3 yX3_removePlaces yX3_removePlaces, Cond.initialized RX3, Cond.code yX3_removePlaces cX3_removePlaces 13 (some .int), Cond.fieldLink RX3 21 "YarnMill$Row" "size" "I", Cond.fieldLink RX3 11 "YarnMill$Row" "cells" "[I", Cond.methodLink RX3 77 Lib.Math.max.name, Cond.static Lib.Math.max.name, Cond.initialized "java/lang/Math", Cond.code Lib.Math.max.name Lib.Math.max.code 2 (some .int), Cond.methodLink RX3 66 yX3_isLaw, Cond.static yX3_isLaw, Cond.code yX3_isLaw cX3_isLaw 3 (some .boolean)]
def wsX5_cleared_r2 : List Cond := [Cond.constantLong RX3 45 (1000), Cond.constantLong RX3 25 (100), Cond.constantLong RX3 91 (50), Cond.methodLink RX3 70 yX3_mean, Cond.instanceMethod yX3_mean, Cond.selects RX3 yX3_mean yX3_mean, Cond.code yX3_mean cX3_mean 1 (some .long), Cond.methodLink RX3 39 yX3_sumOf, Cond.instanceMethod yX3_sumOf, Cond.selects RX3 yX3_sumOf yX3_sumOf, Cond.code yX3_sumOf cX3_sumOf 6 (some .int), Cond.methodLink RX3 88 Lib.Math.min.name, Cond.static Lib.Math.min.name, Cond.code Lib.Math.min.name Lib.Math.min.code 2 (some .int), Cond.methodLink RX3 82 yX3_placeFrom, Cond.instanceMethod yX3_placeFrom, Cond.selects RX3 yX3_placeFrom yX3_placeFrom, Cond.code yX3_placeFrom cX3_placeFrom 9 (some .int), Cond.methodLink RX3 73 yX3_runFrom, Cond.instanceMethod yX3_runFrom, Cond.selects RX3 yX3_runFrom yX3_runFrom, Cond.code yX3_runFrom cX3_runFrom 6 (some .int)]
def wsX5_cleared : List Cond := .code yX5_cleared cX5_cleared 6 (some .int) :: ((wsX5_cleared_r1 ++ wsX5_cleared_r2) ++ wsX50 ++ wsX30)
def wsX5_bale : List Cond := .code yX5_bale cX5_bale 2 (some .int) :: ([.fieldLink RX5 26 "YarnMill" "store" "LYarnMill$Store;", .methodLink RX5 103 yX4_addBale, .instanceMethod yX4_addBale, .selects RX4 yX4_addBale yX4_addBale, .initialized RX4, .code yX4_addBale cX4_addBale 2 (some .int), .constantLong RX4 22 (10000), .fieldLink RX4 28 "YarnMill$Store" "size" "I", .fieldLink RX4 31 "YarnMill$Store" "laydowns" "I", .fieldLink RX4 15 "YarnMill$Store" "numbers" "[I", .static yX5_within, .initialized RX5, .code yX5_within cX5_within 6 (some .boolean)] ++ wsX50 ++ wsX40)
def wsX5_clearBales : List Cond := .code yX5_clearBales cX5_clearBales 1 (some .int) :: ([.fieldLink RX5 26 "YarnMill" "store" "LYarnMill$Store;", .methodLink RX5 106 yX4_removeAll, .instanceMethod yX4_removeAll, .selects RX4 yX4_removeAll yX4_removeAll, .initialized RX4, .code yX4_removeAll cX4_removeAll 2 (some .int), .fieldLink RX4 28 "YarnMill$Store" "size" "I", .fieldLink RX4 31 "YarnMill$Store" "laydowns" "I"] ++ wsX50 ++ wsX40)
def wsX5_plan_r1 : List Cond := [Cond.fieldLink RX5 26 "YarnMill" "store" "LYarnMill$Store;", Cond.methodLink RX5 107 yX4_makePlan, Cond.instanceMethod yX4_makePlan, Cond.selects RX4 yX4_makePlan yX4_makePlan, Cond.initialized RX4, Cond.code yX4_makePlan cX4_makePlan 4 (some .int), Cond.constantLong RX4 34 (6), Cond.constantLong RX4 22 (10000), Cond.fieldLink RX4 31 "YarnMill$Store" "laydowns" "I", Cond.fieldLink RX4 28 "YarnMill$Store" "size" "I", Cond.fieldLink RX4 9 "YarnMill$Store" "each" "I", Cond.fieldLink RX4 36 "YarnMill$Store" "leastSum" "I", Cond.fieldLink RX4 39 "YarnMill$Store" "mostSum" "I", Cond.fieldLink RX4 42 "YarnMill$Store" "tried" "I", Cond.fieldLink RX4 45 "YarnMill$Store" "spent" "Z", Cond.static yX5_within, Cond.initialized RX5, Cond.code yX5_within cX5_within 6 (some .boolean), Cond.methodLink RX4 49 yX4_openLaydown, Cond.instanceMethod yX4_openLaydown, Cond.selects RX4 yX4_openLaydown yX4_openLaydown, Cond.code yX4_openLaydown cX4_openLaydown 4 (some .boolean), Cond.fieldLink RX4 19 "YarnMill$Store" "order" "[I", Cond.fieldLink RX4 15 "YarnMill$Store" "numbers" "[I"]
def wsX5_plan_r2 : List Cond := [Cond.methodLink RX4 55 yX4_fillLaydown, Cond.instanceMethod yX4_fillLaydown, Cond.selects RX4 yX4_fillLaydown yX4_fillLaydown, Cond.code yX4_fillLaydown cX4_fillLaydown 6 (some .boolean), Cond.methodLink RX4 59 yX4_countTry, Cond.instanceMethod yX4_countTry, Cond.selects RX4 yX4_countTry yX4_countTry, Cond.code yX4_countTry cX4_countTry 1 (some .boolean), Cond.constant RX4 63 (100000)]
def wsX5_plan : List Cond := .code yX5_plan cX5_plan 4 (some .int) :: ((wsX5_plan_r1 ++ wsX5_plan_r2) ++ wsX50 ++ wsX40)
def wsX5_planAt : List Cond := .code yX5_planAt cX5_planAt 3 (some .int) :: ([.fieldLink RX5 26 "YarnMill" "store" "LYarnMill$Store;", .methodLink RX5 110 yX4_planned, .instanceMethod yX4_planned, .selects RX4 yX4_planned yX4_planned, .initialized RX4, .code yX4_planned cX4_planned 3 (some .int), .fieldLink RX4 31 "YarnMill$Store" "laydowns" "I", .fieldLink RX4 9 "YarnMill$Store" "each" "I", .fieldLink RX4 19 "YarnMill$Store" "order" "[I", .static yX5_within, .initialized RX5, .code yX5_within cX5_within 6 (some .boolean)] ++ wsX50 ++ wsX40)
def wsX5_tries : List Cond := .code yX5_tries cX5_tries 1 (some .int) :: ([.fieldLink RX5 26 "YarnMill" "store" "LYarnMill$Store;", .fieldLink RX5 113 "YarnMill$Store" "tried" "I"] ++ wsX50 ++ wsX40)
def wsX5_countCells : List Cond := .code yX5_countCells cX5_countCells 3 (some .int) :: ([.fieldLink RX5 18 "YarnMill" "rows" "[LYarnMill$Row;", .fieldLink RX5 142 "YarnMill$Row" "size" "I"] ++ wsX50 ++ wsX30)
def wsX5_many : List Cond := .code yX5_many cX5_many 2 (some .int) :: ([.fieldLink RX5 10 "YarnMill" "line" "LYarnMill$Line;", .fieldLink RX5 117 "YarnMill$Line" "size" "I", .fieldLink RX5 26 "YarnMill" "store" "LYarnMill$Store;", .fieldLink RX5 123 "YarnMill$Store" "size" "I", .fieldLink RX5 124 "YarnMill$Store" "laydowns" "I", .methodLink RX5 120 yX1_countRollers, .instanceMethod yX1_countRollers, .selects RX1 yX1_countRollers yX1_countRollers, .initialized RX1, .code yX1_countRollers cX1_countRollers 3 (some .int), .fieldLink RX1 46 "YarnMill$Line" "size" "I", .fieldLink RX1 20 "YarnMill$Line" "machines" "[LYarnMill$Machine;", .fieldLink RX1 61 "YarnMill$Machine" "rollers" "I", .methodLink RX5 127 yX5_countCells, .instanceMethod yX5_countCells, .selects RX5 yX5_countCells yX5_countCells, .initialized RX5, .code yX5_countCells cX5_countCells 3 (some .int), .fieldLink RX5 18 "YarnMill" "rows" "[LYarnMill$Row;", .fieldLink RX5 142 "YarnMill$Row" "size" "I"] ++ wsX50 ++ wsX10 ++ wsX40 ++ wsX20 ++ wsX30)
def wsX5_digest_r1 : List Cond := [Cond.constantLong RX5 130 (149), Cond.constantLong RX5 132 (31), Cond.fieldLink RX5 10 "YarnMill" "line" "LYarnMill$Line;", Cond.fieldLink RX5 117 "YarnMill$Line" "size" "I", Cond.fieldLink RX5 18 "YarnMill" "rows" "[LYarnMill$Row;", Cond.fieldLink RX5 26 "YarnMill" "store" "LYarnMill$Store;", Cond.methodLink RX5 134 yX5_many, Cond.instanceMethod yX5_many, Cond.selects RX5 yX5_many yX5_many, Cond.initialized RX5, Cond.code yX5_many cX5_many 2 (some .int), Cond.fieldLink RX5 123 "YarnMill$Store" "size" "I", Cond.fieldLink RX5 124 "YarnMill$Store" "laydowns" "I", Cond.methodLink RX5 120 yX1_countRollers, Cond.instanceMethod yX1_countRollers, Cond.selects RX1 yX1_countRollers yX1_countRollers, Cond.initialized RX1, Cond.code yX1_countRollers cX1_countRollers 3 (some .int), Cond.fieldLink RX1 46 "YarnMill$Line" "size" "I", Cond.fieldLink RX1 20 "YarnMill$Line" "machines" "[LYarnMill$Machine;", Cond.fieldLink RX1 61 "YarnMill$Machine" "rollers" "I", Cond.methodLink RX5 127 yX5_countCells, Cond.instanceMethod yX5_countCells, Cond.selects RX5 yX5_countCells yX5_countCells]
def wsX5_digest_r2 : List Cond := [Cond.code yX5_countCells cX5_countCells 3 (some .int), Cond.fieldLink RX5 142 "YarnMill$Row" "size" "I", Cond.methodLink RX5 45 yX1_tellCount, Cond.instanceMethod yX1_tellCount, Cond.selects RX1 yX1_tellCount yX1_tellCount, Cond.code yX1_tellCount cX1_tellCount 3 (some .long), Cond.constantLong RX1 70 (-2), Cond.constantLong RX1 80 (-6), Cond.static yX5_within, Cond.code yX5_within cX5_within 6 (some .boolean), Cond.methodLink RX1 72 yX1_reckonCount, Cond.instanceMethod yX1_reckonCount, Cond.selects RX1 yX1_reckonCount yX1_reckonCount, Cond.code yX1_reckonCount cX1_reckonCount 4 (some .boolean), Cond.fieldLink RX1 27 "YarnMill$Line" "told" "LYarnMill$Fraction;", Cond.fieldLink RX1 9 "YarnMill$Line" "firstAbove" "I", Cond.fieldLink RX1 15 "YarnMill$Line" "firstBelow" "I", Cond.fieldLink RX1 49 "YarnMill$Machine" "doublings" "I", Cond.fieldLink RX1 58 "YarnMill$Machine" "loss" "I", Cond.fieldLink RX1 55 "YarnMill$Machine" "below" "I", Cond.constantLong RX1 64 (1000), Cond.fieldLink RX1 52 "YarnMill$Machine" "above" "I", Cond.fieldLink RX1 94 "YarnMill$Fraction" "above" "J", Cond.constantLong RX1 106 (1000000000000)]
def wsX5_digest_r3 : List Cond := [Cond.fieldLink RX1 97 "YarnMill$Fraction" "below" "J", Cond.methodLink RX1 99 yX0_set, Cond.instanceMethod yX0_set, Cond.selects RX0 yX0_set yX0_set, Cond.initialized RX0, Cond.code yX0_set cX0_set 5 none, Cond.fieldLink RX0 7 "YarnMill$Fraction" "above" "J", Cond.fieldLink RX0 13 "YarnMill$Fraction" "below" "J", Cond.methodLink RX0 16 yX0_reduce, Cond.instanceMethod yX0_reduce, Cond.selects RX0 yX0_reduce yX0_reduce, Cond.code yX0_reduce cX0_reduce 3 none, Cond.methodLink RX0 23 yX0_commonDivisor, Cond.static yX0_commonDivisor, Cond.code yX0_commonDivisor cX0_commonDivisor 11 (some .long), Cond.methodLink RX1 103 yX0_times, Cond.instanceMethod yX0_times, Cond.selects RX0 yX0_times yX0_times, Cond.code yX0_times cX0_times 5 none, Cond.methodLink RX0 19 yX0_set, Cond.methodLink RX1 76 yX1_toldPart, Cond.instanceMethod yX1_toldPart, Cond.selects RX1 yX1_toldPart yX1_toldPart, Cond.code yX1_toldPart cX1_toldPart 2 (some .long)]
def wsX5_digest_r4 : List Cond := [Cond.methodLink RX5 137 yX3_mixInto, Cond.instanceMethod yX3_mixInto, Cond.selects RX3 yX3_mixInto yX3_mixInto, Cond.initialized RX3, Cond.code yX3_mixInto cX3_mixInto 6 (some .long), Cond.fieldLink RX3 21 "YarnMill$Row" "size" "I", Cond.constantLong RX3 86 (31), Cond.fieldLink RX3 11 "YarnMill$Row" "cells" "[I", Cond.methodLink RX5 141 yX4_mixInto, Cond.instanceMethod yX4_mixInto, Cond.selects RX4 yX4_mixInto yX4_mixInto, Cond.initialized RX4, Cond.code yX4_mixInto cX4_mixInto 6 (some .long), Cond.fieldLink RX4 31 "YarnMill$Store" "laydowns" "I", Cond.fieldLink RX4 9 "YarnMill$Store" "each" "I", Cond.constantLong RX4 53 (31), Cond.fieldLink RX4 19 "YarnMill$Store" "order" "[I"]
def wsX5_digest : List Cond := .code yX5_digest cX5_digest 4 (some .long) :: ((wsX5_digest_r1 ++ (wsX5_digest_r2 ++ (wsX5_digest_r3 ++ wsX5_digest_r4))) ++ wsX50 ++ wsX10 ++ wsX40 ++ wsX20 ++ wsX30 ++ wsX00)
def wsX6_init : List Cond := .code yX6_init cX6_init 1 none :: ([.methodLink RX6 1 objectInit, .instanceMethod objectInit, .code objectInit ⟨#[0xb1]⟩ 1 none, .fieldLink RX6 7 "YarnMillModel" "above" "I", .fieldLink RX6 13 "YarnMillModel" "below" "I", .arrayClass .int, .fieldLink RX6 16 "YarnMillModel" "doublings" "[I", .fieldLink RX6 20 "YarnMillModel" "draftAbove" "[I", .fieldLink RX6 23 "YarnMillModel" "draftBelow" "[I", .fieldLink RX6 26 "YarnMillModel" "loss" "[I", .fieldLink RX6 29 "YarnMillModel" "rollers" "[I", .fieldLink RX6 32 "YarnMillModel" "round" "[I", .fieldLink RX6 35 "YarnMillModel" "cells" "[I", .fieldLink RX6 38 "YarnMillModel" "mass" "[I", .fieldLink RX6 41 "YarnMillModel" "fresh" "[I", .fieldLink RX6 44 "YarnMillModel" "number" "[I", .fieldLink RX6 47 "YarnMillModel" "plan" "[I"] ++ wsX60)
def wsX6_in : List Cond := .code yX6_in cX6_in 6 (some .boolean) :: ([])
def wsX6_common : List Cond := .code yX6_common cX6_common 10 (some .long) :: ([])
def wsX6_count : List Cond := .code yX6_count cX6_count 3 (some .int) :: ([.constantLong RX6 50 (10000), .fieldLink RX6 7 "YarnMillModel" "above" "I", .fieldLink RX6 13 "YarnMillModel" "below" "I", .methodLink RX6 52 yX6_in, .static yX6_in, .initialized RX6, .code yX6_in cX6_in 6 (some .boolean)] ++ wsX60)
def wsX6_machine : List Cond := .code yX6_machine cX6_machine 5 (some .int) :: ([.constantLong RX6 56 (16), .constantLong RX6 58 (60), .constantLong RX6 60 (20), .constantLong RX6 62 (500), .fieldLink RX6 64 "YarnMillModel" "machines" "I", .fieldLink RX6 16 "YarnMillModel" "doublings" "[I", .fieldLink RX6 20 "YarnMillModel" "draftAbove" "[I", .fieldLink RX6 23 "YarnMillModel" "draftBelow" "[I", .fieldLink RX6 26 "YarnMillModel" "loss" "[I", .fieldLink RX6 29 "YarnMillModel" "rollers" "[I", .methodLink RX6 52 yX6_in, .static yX6_in, .initialized RX6, .code yX6_in cX6_in 6 (some .boolean)] ++ wsX60)
def wsX6_isMachine : List Cond := .code yX6_isMachine cX6_isMachine 2 (some .boolean) :: ([.fieldLink RX6 64 "YarnMillModel" "machines" "I", .methodLink RX6 52 yX6_in, .static yX6_in, .initialized RX6, .code yX6_in cX6_in 6 (some .boolean)] ++ wsX60)
def wsX6_roller : List Cond := .code yX6_roller cX6_roller 3 (some .int) :: ([.constantLong RX6 71 (1000), .fieldLink RX6 29 "YarnMillModel" "rollers" "[I", .fieldLink RX6 32 "YarnMillModel" "round" "[I", .methodLink RX6 67 yX6_isMachine, .instanceMethod yX6_isMachine, .selects RX6 yX6_isMachine yX6_isMachine, .initialized RX6, .code yX6_isMachine cX6_isMachine 2 (some .boolean), .fieldLink RX6 64 "YarnMillModel" "machines" "I", .methodLink RX6 52 yX6_in, .static yX6_in, .code yX6_in cX6_in 6 (some .boolean)] ++ wsX60)
def wsX6_clear : List Cond := .code yX6_clear cX6_clear 2 (some .int) :: ([.fieldLink RX6 64 "YarnMillModel" "machines" "I"] ++ wsX60)
def wsX6_countOf : List Cond := .code yX6_countOf cX6_countOf 10 (some .long) :: ([.fieldLink RX6 7 "YarnMillModel" "above" "I", .fieldLink RX6 13 "YarnMillModel" "below" "I", .fieldLink RX6 16 "YarnMillModel" "doublings" "[I", .constantLong RX6 71 (1000), .fieldLink RX6 26 "YarnMillModel" "loss" "[I", .fieldLink RX6 23 "YarnMillModel" "draftBelow" "[I", .fieldLink RX6 20 "YarnMillModel" "draftAbove" "[I", .constantLong RX6 77 (1000000000000), .constantLong RX6 79 (-6), .methodLink RX6 73 yX6_common, .static yX6_common, .initialized RX6, .code yX6_common cX6_common 10 (some .long)] ++ wsX60)
def wsX6_countAt : List Cond := .code yX6_countAt cX6_countAt 3 (some .long) :: ([.fieldLink RX6 64 "YarnMillModel" "machines" "I", .constantLong RX6 85 (-2), .methodLink RX6 52 yX6_in, .static yX6_in, .initialized RX6, .code yX6_in cX6_in 6 (some .boolean), .methodLink RX6 81 yX6_countOf, .instanceMethod yX6_countOf, .selects RX6 yX6_countOf yX6_countOf, .code yX6_countOf cX6_countOf 10 (some .long), .fieldLink RX6 7 "YarnMillModel" "above" "I", .fieldLink RX6 13 "YarnMillModel" "below" "I", .fieldLink RX6 16 "YarnMillModel" "doublings" "[I", .constantLong RX6 71 (1000), .fieldLink RX6 26 "YarnMillModel" "loss" "[I", .fieldLink RX6 23 "YarnMillModel" "draftBelow" "[I", .fieldLink RX6 20 "YarnMillModel" "draftAbove" "[I", .constantLong RX6 77 (1000000000000), .constantLong RX6 79 (-6), .methodLink RX6 73 yX6_common, .static yX6_common, .code yX6_common cX6_common 10 (some .long)] ++ wsX60)
def wsX6_periodOf : List Cond := .code yX6_periodOf cX6_periodOf 11 (some .long) :: ([.fieldLink RX6 32 "YarnMillModel" "round" "[I", .fieldLink RX6 64 "YarnMillModel" "machines" "I", .fieldLink RX6 20 "YarnMillModel" "draftAbove" "[I", .fieldLink RX6 23 "YarnMillModel" "draftBelow" "[I", .methodLink RX6 73 yX6_common, .static yX6_common, .initialized RX6, .code yX6_common cX6_common 10 (some .long)] ++ wsX60)
def wsX6_period : List Cond := .code yX6_period cX6_period 4 (some .long) :: ([.fieldLink RX6 29 "YarnMillModel" "rollers" "[I", .constantLong RX6 85 (-2), .methodLink RX6 67 yX6_isMachine, .instanceMethod yX6_isMachine, .selects RX6 yX6_isMachine yX6_isMachine, .initialized RX6, .code yX6_isMachine cX6_isMachine 2 (some .boolean), .fieldLink RX6 64 "YarnMillModel" "machines" "I", .methodLink RX6 52 yX6_in, .static yX6_in, .code yX6_in cX6_in 6 (some .boolean), .methodLink RX6 87 yX6_periodOf, .instanceMethod yX6_periodOf, .selects RX6 yX6_periodOf yX6_periodOf, .code yX6_periodOf cX6_periodOf 11 (some .long), .fieldLink RX6 32 "YarnMillModel" "round" "[I", .fieldLink RX6 20 "YarnMillModel" "draftAbove" "[I", .fieldLink RX6 23 "YarnMillModel" "draftBelow" "[I", .methodLink RX6 73 yX6_common, .static yX6_common, .code yX6_common cX6_common 10 (some .long)] ++ wsX60)
def wsX6_names : List Cond := .code yX6_names cX6_names 11 (some .int) :: ([.constantLong RX6 91 (1000000), .constantLong RX6 93 (999), .fieldLink RX6 64 "YarnMillModel" "machines" "I", .fieldLink RX6 29 "YarnMillModel" "rollers" "[I", .constantLong RX6 71 (1000), .methodLink RX6 52 yX6_in, .static yX6_in, .initialized RX6, .code yX6_in cX6_in 6 (some .boolean), .methodLink RX6 87 yX6_periodOf, .instanceMethod yX6_periodOf, .selects RX6 yX6_periodOf yX6_periodOf, .code yX6_periodOf cX6_periodOf 11 (some .long), .fieldLink RX6 32 "YarnMillModel" "round" "[I", .fieldLink RX6 20 "YarnMillModel" "draftAbove" "[I", .fieldLink RX6 23 "YarnMillModel" "draftBelow" "[I", .methodLink RX6 73 yX6_common, .static yX6_common, .code yX6_common cX6_common 10 (some .long)] ++ wsX60)
def wsX6_isRow : List Cond := .code yX6_isRow cX6_isRow 1 (some .boolean) :: ([.constantLong RX6 95 (7), .methodLink RX6 52 yX6_in, .static yX6_in, .initialized RX6, .code yX6_in cX6_in 6 (some .boolean)])
def wsX6_isMass : List Cond := .code yX6_isMass cX6_isMass 2 (some .boolean) :: ([.constantLong RX6 91 (1000000), .methodLink RX6 52 yX6_in, .static yX6_in, .initialized RX6, .code yX6_in cX6_in 6 (some .boolean)])
def wsX6_cell : List Cond := .code yX6_cell cX6_cell 3 (some .int) :: ([.fieldLink RX6 35 "YarnMillModel" "cells" "[I", .fieldLink RX6 38 "YarnMillModel" "mass" "[I", .methodLink RX6 97 yX6_isRow, .static yX6_isRow, .initialized RX6, .code yX6_isRow cX6_isRow 1 (some .boolean), .constantLong RX6 95 (7), .methodLink RX6 52 yX6_in, .static yX6_in, .code yX6_in cX6_in 6 (some .boolean), .methodLink RX6 100 yX6_isMass, .static yX6_isMass, .code yX6_isMass cX6_isMass 2 (some .boolean), .constantLong RX6 91 (1000000)] ++ wsX60)
def wsX6_draw : List Cond := .code yX6_draw cX6_draw 9 (some .int) :: ([.constantLong RX6 104 (100), .constantLong RX6 50 (10000), .fieldLink RX6 35 "YarnMillModel" "cells" "[I", .constantLong RX6 106 (1103515245), .constantLong RX6 108 (12345), .constantLong RX6 110 (2147483647), .fieldLink RX6 38 "YarnMillModel" "mass" "[I", .constantLong RX6 112 (65536), .methodLink RX6 97 yX6_isRow, .static yX6_isRow, .initialized RX6, .code yX6_isRow cX6_isRow 1 (some .boolean), .constantLong RX6 95 (7), .methodLink RX6 52 yX6_in, .static yX6_in, .code yX6_in cX6_in 6 (some .boolean)] ++ wsX60)
def wsX6_empty : List Cond := .code yX6_empty cX6_empty 3 (some .int) :: ([.fieldLink RX6 35 "YarnMillModel" "cells" "[I", .methodLink RX6 97 yX6_isRow, .static yX6_isRow, .initialized RX6, .code yX6_isRow cX6_isRow 1 (some .boolean), .constantLong RX6 95 (7), .methodLink RX6 52 yX6_in, .static yX6_in, .code yX6_in cX6_in 6 (some .boolean)] ++ wsX60)
def wsX6_at : List Cond := .code yX6_at cX6_at 3 (some .int) :: ([.fieldLink RX6 35 "YarnMillModel" "cells" "[I", .fieldLink RX6 38 "YarnMillModel" "mass" "[I", .methodLink RX6 97 yX6_isRow, .static yX6_isRow, .initialized RX6, .code yX6_isRow cX6_isRow 1 (some .boolean), .constantLong RX6 95 (7), .methodLink RX6 52 yX6_in, .static yX6_in, .code yX6_in cX6_in 6 (some .boolean)] ++ wsX60)
def wsX6_becomes : List Cond := .code yX6_becomes cX6_becomes 5 (some .int) :: ([.fieldLink RX6 41 "YarnMillModel" "fresh" "[I", .fieldLink RX6 38 "YarnMillModel" "mass" "[I", .fieldLink RX6 35 "YarnMillModel" "cells" "[I", .methodLink RX6 100 yX6_isMass, .static yX6_isMass, .initialized RX6, .code yX6_isMass cX6_isMass 2 (some .boolean), .constantLong RX6 91 (1000000), .methodLink RX6 52 yX6_in, .static yX6_in, .code yX6_in cX6_in 6 (some .boolean)] ++ wsX60)
def wsX6_join : List Cond := .code yX6_join cX6_join 4 (some .int) :: ([.fieldLink RX6 35 "YarnMillModel" "cells" "[I", .fieldLink RX6 41 "YarnMillModel" "fresh" "[I", .fieldLink RX6 38 "YarnMillModel" "mass" "[I", .methodLink RX6 97 yX6_isRow, .static yX6_isRow, .initialized RX6, .code yX6_isRow cX6_isRow 1 (some .boolean), .constantLong RX6 95 (7), .methodLink RX6 52 yX6_in, .static yX6_in, .code yX6_in cX6_in 6 (some .boolean), .methodLink RX6 114 yX6_becomes, .instanceMethod yX6_becomes, .selects RX6 yX6_becomes yX6_becomes, .code yX6_becomes cX6_becomes 5 (some .int), .methodLink RX6 100 yX6_isMass, .static yX6_isMass, .code yX6_isMass cX6_isMass 2 (some .boolean), .constantLong RX6 91 (1000000)] ++ wsX60)
def wsX6_stretch : List Cond := .code yX6_stretch cX6_stretch 6 (some .int) :: ([.constantLong RX6 118 (2), .constantLong RX6 120 (8), .fieldLink RX6 35 "YarnMillModel" "cells" "[I", .fieldLink RX6 38 "YarnMillModel" "mass" "[I", .fieldLink RX6 41 "YarnMillModel" "fresh" "[I", .methodLink RX6 97 yX6_isRow, .static yX6_isRow, .initialized RX6, .code yX6_isRow cX6_isRow 1 (some .boolean), .constantLong RX6 95 (7), .methodLink RX6 52 yX6_in, .static yX6_in, .code yX6_in cX6_in 6 (some .boolean), .methodLink RX6 114 yX6_becomes, .instanceMethod yX6_becomes, .selects RX6 yX6_becomes yX6_becomes, .code yX6_becomes cX6_becomes 5 (some .int), .methodLink RX6 100 yX6_isMass, .static yX6_isMass, .code yX6_isMass cX6_isMass 2 (some .boolean), .constantLong RX6 91 (1000000)] ++ wsX60)
def wsX6_gather : List Cond := .code yX6_gather cX6_gather 5 (some .int) :: ([.constantLong RX6 118 (2), .constantLong RX6 60 (20), .fieldLink RX6 35 "YarnMillModel" "cells" "[I", .fieldLink RX6 41 "YarnMillModel" "fresh" "[I", .fieldLink RX6 38 "YarnMillModel" "mass" "[I", .methodLink RX6 97 yX6_isRow, .static yX6_isRow, .initialized RX6, .code yX6_isRow cX6_isRow 1 (some .boolean), .constantLong RX6 95 (7), .methodLink RX6 52 yX6_in, .static yX6_in, .code yX6_in cX6_in 6 (some .boolean), .methodLink RX6 114 yX6_becomes, .instanceMethod yX6_becomes, .selects RX6 yX6_becomes yX6_becomes, .code yX6_becomes cX6_becomes 5 (some .int), .methodLink RX6 100 yX6_isMass, .static yX6_isMass, .code yX6_isMass cX6_isMass 2 (some .boolean), .constantLong RX6 91 (1000000)] ++ wsX60)
def wsX6_fault : List Cond := .code yX6_fault cX6_fault 9 (some .int) :: ([.constantLong RX6 118 (2), .constantLong RX6 122 (400), .constantLong RX6 71 (1000), .fieldLink RX6 35 "YarnMillModel" "cells" "[I", .fieldLink RX6 41 "YarnMillModel" "fresh" "[I", .fieldLink RX6 38 "YarnMillModel" "mass" "[I", .methodLink RX6 97 yX6_isRow, .static yX6_isRow, .initialized RX6, .code yX6_isRow cX6_isRow 1 (some .boolean), .constantLong RX6 95 (7), .methodLink RX6 52 yX6_in, .static yX6_in, .code yX6_in cX6_in 6 (some .boolean), .methodLink RX6 114 yX6_becomes, .instanceMethod yX6_becomes, .selects RX6 yX6_becomes yX6_becomes, .code yX6_becomes cX6_becomes 5 (some .int), .methodLink RX6 100 yX6_isMass, .static yX6_isMass, .code yX6_isMass cX6_isMass 2 (some .boolean), .constantLong RX6 91 (1000000)] ++ wsX60)
def wsX6_sum : List Cond := .code yX6_sum cX6_sum 5 (some .long) :: ([.fieldLink RX6 35 "YarnMillModel" "cells" "[I", .fieldLink RX6 38 "YarnMillModel" "mass" "[I"] ++ wsX60)
def wsX6_about : List Cond := .code yX6_about cX6_about 6 (some .long) :: ([.constantLong RX6 118 (2), .constantLong RX6 124 (-1), .fieldLink RX6 35 "YarnMillModel" "cells" "[I", .fieldLink RX6 38 "YarnMillModel" "mass" "[I", .methodLink RX6 97 yX6_isRow, .static yX6_isRow, .initialized RX6, .code yX6_isRow cX6_isRow 1 (some .boolean), .constantLong RX6 95 (7), .methodLink RX6 52 yX6_in, .static yX6_in, .code yX6_in cX6_in 6 (some .boolean), .methodLink RX6 126 yX6_sum, .instanceMethod yX6_sum, .selects RX6 yX6_sum yX6_sum, .code yX6_sum cX6_sum 5 (some .long)] ++ wsX60)
def wsX6_waveOf : List Cond := .code yX6_waveOf cX6_waveOf 12 (some .long) :: ([.fieldLink RX6 35 "YarnMillModel" "cells" "[I", .fieldLink RX6 38 "YarnMillModel" "mass" "[I"] ++ wsX60)
def wsX6_wave : List Cond := .code yX6_wave cX6_wave 3 (some .long) :: ([.constantLong RX6 118 (2), .constantLong RX6 130 (200), .constantLong RX6 124 (-1), .methodLink RX6 97 yX6_isRow, .static yX6_isRow, .initialized RX6, .code yX6_isRow cX6_isRow 1 (some .boolean), .constantLong RX6 95 (7), .methodLink RX6 52 yX6_in, .static yX6_in, .code yX6_in cX6_in 6 (some .boolean), .methodLink RX6 132 yX6_waveOf, .instanceMethod yX6_waveOf, .selects RX6 yX6_waveOf yX6_waveOf, .code yX6_waveOf cX6_waveOf 12 (some .long), .fieldLink RX6 35 "YarnMillModel" "cells" "[I", .fieldLink RX6 38 "YarnMillModel" "mass" "[I"] ++ wsX60)
def wsX6_isAbove : List Cond := .code yX6_isAbove cX6_isAbove 25 (some .boolean) :: ([])
def wsX6_greatest : List Cond := .code yX6_greatest cX6_greatest 13 (some .int) :: ([.constantLong RX6 118 (2), .constantLong RX6 130 (200), .fieldLink RX6 35 "YarnMillModel" "cells" "[I", .methodLink RX6 97 yX6_isRow, .static yX6_isRow, .initialized RX6, .code yX6_isRow cX6_isRow 1 (some .boolean), .constantLong RX6 95 (7), .methodLink RX6 52 yX6_in, .static yX6_in, .code yX6_in cX6_in 6 (some .boolean), .methodLink RX6 132 yX6_waveOf, .instanceMethod yX6_waveOf, .selects RX6 yX6_waveOf yX6_waveOf, .code yX6_waveOf cX6_waveOf 12 (some .long), .fieldLink RX6 38 "YarnMillModel" "mass" "[I", .methodLink RX6 135 yX6_isAbove, .static yX6_isAbove, .code yX6_isAbove cX6_isAbove 25 (some .boolean)] ++ wsX60)
def wsX6_isLaw : List Cond := .code yX6_isLaw cX6_isLaw 3 (some .boolean) :: ([.constantLong RX6 71 (1000), .constantLong RX6 104 (100), .constantLong RX6 139 (50), .methodLink RX6 52 yX6_in, .static yX6_in, .initialized RX6, .code yX6_in cX6_in 6 (some .boolean)])
def wsX6_run : List Cond := .code yX6_run cX6_run 11 (some .int) :: ([.fieldLink RX6 35 "YarnMillModel" "cells" "[I", .constantLong RX6 104 (100), .fieldLink RX6 38 "YarnMillModel" "mass" "[I"] ++ wsX60)
def wsX6_places : List Cond := .code yX6_places cX6_places 11 (some .int) :: ([.fieldLink RX6 35 "YarnMillModel" "cells" "[I", .methodLink RX6 97 yX6_isRow, .static yX6_isRow, .initialized RX6, .code yX6_isRow cX6_isRow 1 (some .boolean), .constantLong RX6 95 (7), .methodLink RX6 52 yX6_in, .static yX6_in, .code yX6_in cX6_in 6 (some .boolean), .methodLink RX6 141 yX6_isLaw, .static yX6_isLaw, .code yX6_isLaw cX6_isLaw 3 (some .boolean), .constantLong RX6 71 (1000), .constantLong RX6 104 (100), .constantLong RX6 139 (50), .methodLink RX6 126 yX6_sum, .instanceMethod yX6_sum, .selects RX6 yX6_sum yX6_sum, .code yX6_sum cX6_sum 5 (some .long), .fieldLink RX6 38 "YarnMillModel" "mass" "[I", .methodLink RX6 145 yX6_run, .instanceMethod yX6_run, .selects RX6 yX6_run yX6_run, .code yX6_run cX6_run 11 (some .int)] ++ wsX60)
def wsX6_cleared_r1 : List Cond := [Cond.fieldLink RX6 35 "YarnMillModel" "cells" "[I", Cond.fieldLink RX6 41 "YarnMillModel" "fresh" "[I", Cond.fieldLink RX6 38 "YarnMillModel" "mass" "[I", Cond.methodLink RX6 97 yX6_isRow, Cond.static yX6_isRow, Cond.initialized RX6, Cond.code yX6_isRow cX6_isRow 1 (some .boolean), Cond.constantLong RX6 95 (7), Cond.methodLink RX6 52 yX6_in, Cond.static yX6_in, Cond.code yX6_in cX6_in 6 (some .boolean), Cond.methodLink RX6 141 yX6_isLaw, Cond.static yX6_isLaw, Cond.code yX6_isLaw cX6_isLaw 3 (some .boolean), Cond.constantLong RX6 71 (1000), Cond.constantLong RX6 104 (100), Cond.constantLong RX6 139 (50), Cond.methodLink RX6 126 yX6_sum, Cond.instanceMethod yX6_sum, Cond.selects RX6 yX6_sum yX6_sum, Cond.code yX6_sum cX6_sum 5 (some .long), Cond.methodLink RX6 145 yX6_run, Cond.instanceMethod yX6_run, Cond.selects RX6 yX6_run yX6_run]
def wsX6_cleared_r2 : List Cond := [Cond.code yX6_run cX6_run 11 (some .int), Cond.methodLink RX6 114 yX6_becomes, Cond.instanceMethod yX6_becomes, Cond.selects RX6 yX6_becomes yX6_becomes, Cond.code yX6_becomes cX6_becomes 5 (some .int), Cond.methodLink RX6 100 yX6_isMass, Cond.static yX6_isMass, Cond.code yX6_isMass cX6_isMass 2 (some .boolean), Cond.constantLong RX6 91 (1000000)]
def wsX6_cleared : List Cond := .code yX6_cleared cX6_cleared 12 (some .int) :: ((wsX6_cleared_r1 ++ wsX6_cleared_r2) ++ wsX60)
def wsX6_bale : List Cond := .code yX6_bale cX6_bale 2 (some .int) :: ([.constantLong RX6 50 (10000), .fieldLink RX6 149 "YarnMillModel" "bales" "I", .fieldLink RX6 44 "YarnMillModel" "number" "[I", .fieldLink RX6 152 "YarnMillModel" "laydowns" "I", .methodLink RX6 52 yX6_in, .static yX6_in, .initialized RX6, .code yX6_in cX6_in 6 (some .boolean)] ++ wsX60)
def wsX6_clearBales : List Cond := .code yX6_clearBales cX6_clearBales 2 (some .int) :: ([.fieldLink RX6 149 "YarnMillModel" "bales" "I", .fieldLink RX6 152 "YarnMillModel" "laydowns" "I"] ++ wsX60)
def wsX6_nextBale : List Cond := .code yX6_nextBale cX6_nextBale 6 (some .int) :: ([.fieldLink RX6 149 "YarnMillModel" "bales" "I", .fieldLink RX6 47 "YarnMillModel" "plan" "[I"] ++ wsX60)
def wsX6_isWhole : List Cond := .code yX6_isWhole cX6_isWhole 7 (some .boolean) :: ([.fieldLink RX6 44 "YarnMillModel" "number" "[I", .fieldLink RX6 47 "YarnMillModel" "plan" "[I", .methodLink RX6 52 yX6_in, .static yX6_in, .initialized RX6, .code yX6_in cX6_in 6 (some .boolean)] ++ wsX60)
def wsX6_plan : List Cond := .code yX6_plan cX6_plan 9 (some .int) :: ([.constantLong RX6 155 (6), .constantLong RX6 50 (10000), .fieldLink RX6 152 "YarnMillModel" "laydowns" "I", .fieldLink RX6 149 "YarnMillModel" "bales" "I", .fieldLink RX6 157 "YarnMillModel" "tries" "I", .fieldLink RX6 160 "YarnMillModel" "perLaydown" "I", .fieldLink RX6 47 "YarnMillModel" "plan" "[I", .constant RX6 166 (100000), .methodLink RX6 52 yX6_in, .static yX6_in, .initialized RX6, .code yX6_in cX6_in 6 (some .boolean), .methodLink RX6 163 yX6_nextBale, .instanceMethod yX6_nextBale, .selects RX6 yX6_nextBale yX6_nextBale, .code yX6_nextBale cX6_nextBale 6 (some .int), .methodLink RX6 167 yX6_isWhole, .instanceMethod yX6_isWhole, .selects RX6 yX6_isWhole yX6_isWhole, .code yX6_isWhole cX6_isWhole 7 (some .boolean), .fieldLink RX6 44 "YarnMillModel" "number" "[I"] ++ wsX60)
def wsX6_planAt : List Cond := .code yX6_planAt cX6_planAt 3 (some .int) :: ([.fieldLink RX6 152 "YarnMillModel" "laydowns" "I", .fieldLink RX6 160 "YarnMillModel" "perLaydown" "I", .fieldLink RX6 47 "YarnMillModel" "plan" "[I", .methodLink RX6 52 yX6_in, .static yX6_in, .initialized RX6, .code yX6_in cX6_in 6 (some .boolean)] ++ wsX60)
def wsX6_tries : List Cond := .code yX6_tries cX6_tries 1 (some .int) :: ([.fieldLink RX6 157 "YarnMillModel" "tries" "I"] ++ wsX60)
def wsX6_manyOf : List Cond := .code yX6_manyOf cX6_manyOf 4 (some .int) :: ([.fieldLink RX6 64 "YarnMillModel" "machines" "I", .fieldLink RX6 29 "YarnMillModel" "rollers" "[I", .fieldLink RX6 35 "YarnMillModel" "cells" "[I", .fieldLink RX6 149 "YarnMillModel" "bales" "I", .fieldLink RX6 152 "YarnMillModel" "laydowns" "I"] ++ wsX60)
def wsX6_many : List Cond := .code yX6_many cX6_many 2 (some .int) :: ([.constantLong RX6 171 (4), .methodLink RX6 52 yX6_in, .static yX6_in, .initialized RX6, .code yX6_in cX6_in 6 (some .boolean), .methodLink RX6 173 yX6_manyOf, .instanceMethod yX6_manyOf, .selects RX6 yX6_manyOf yX6_manyOf, .code yX6_manyOf cX6_manyOf 4 (some .int), .fieldLink RX6 64 "YarnMillModel" "machines" "I", .fieldLink RX6 29 "YarnMillModel" "rollers" "[I", .fieldLink RX6 35 "YarnMillModel" "cells" "[I", .fieldLink RX6 149 "YarnMillModel" "bales" "I", .fieldLink RX6 152 "YarnMillModel" "laydowns" "I"] ++ wsX60)
def wsX6_digest_r1 : List Cond := [Cond.constantLong RX6 177 (149), Cond.constantLong RX6 179 (31), Cond.fieldLink RX6 64 "YarnMillModel" "machines" "I", Cond.fieldLink RX6 35 "YarnMillModel" "cells" "[I", Cond.fieldLink RX6 38 "YarnMillModel" "mass" "[I", Cond.fieldLink RX6 152 "YarnMillModel" "laydowns" "I", Cond.fieldLink RX6 160 "YarnMillModel" "perLaydown" "I", Cond.fieldLink RX6 47 "YarnMillModel" "plan" "[I", Cond.methodLink RX6 173 yX6_manyOf, Cond.instanceMethod yX6_manyOf, Cond.selects RX6 yX6_manyOf yX6_manyOf, Cond.initialized RX6, Cond.code yX6_manyOf cX6_manyOf 4 (some .int), Cond.fieldLink RX6 29 "YarnMillModel" "rollers" "[I", Cond.fieldLink RX6 149 "YarnMillModel" "bales" "I", Cond.methodLink RX6 81 yX6_countOf, Cond.instanceMethod yX6_countOf, Cond.selects RX6 yX6_countOf yX6_countOf, Cond.code yX6_countOf cX6_countOf 10 (some .long), Cond.fieldLink RX6 7 "YarnMillModel" "above" "I", Cond.fieldLink RX6 13 "YarnMillModel" "below" "I", Cond.fieldLink RX6 16 "YarnMillModel" "doublings" "[I", Cond.constantLong RX6 71 (1000), Cond.fieldLink RX6 26 "YarnMillModel" "loss" "[I"]
def wsX6_digest_r2 : List Cond := [Cond.fieldLink RX6 23 "YarnMillModel" "draftBelow" "[I", Cond.fieldLink RX6 20 "YarnMillModel" "draftAbove" "[I", Cond.constantLong RX6 77 (1000000000000), Cond.constantLong RX6 79 (-6), Cond.methodLink RX6 73 yX6_common, Cond.static yX6_common, Cond.code yX6_common cX6_common 10 (some .long)]
def wsX6_digest : List Cond := .code yX6_digest cX6_digest 5 (some .long) :: ((wsX6_digest_r1 ++ wsX6_digest_r2) ++ wsX60)
def wsJ9_max_7cf53 : List Cond := .code yJ9_max_7cf53 cJ9_max_7cf53 2 (some .int) :: ([])
def wsJ9_min_7cf53 : List Cond := .code yJ9_min_7cf53 cJ9_min_7cf53 2 (some .int) :: ([])
abbrev vwCl : List vw_C := [(RX0, TX0, 2), (RX1, TX1, 5), (RX2, TX2, 6), (RX3, TX3, 2), (RX4, TX4, 9), (RX5, TX5, 3), (RX6, TX6, 18)]
