section
-- ===== PART A: goes FIRST, ahead of the names: the tables' words, and 'selects' of the private methods out of them =====
/-- a private method of a class that the tables say can be made, by its rows of tables_1 -/
def lw_okq (q : MethodName × Nat) : Prop := (q.1.cls ≠ "java/lang/invoke/MethodHandle" ∧ q.1.cls ≠ "java/lang/invoke/VarHandle") ∧ Cond.instantiable q.1.cls q.2 ∈ tables_1 ∧ Cond.privateMethod q.1 ∈ tables_1 ∧ Cond.instanceMethod q.1 ∈ tables_1
theorem lw_p0 : lw_okq (⟨"YarnMill$Line", "reckonCount", "(I)Z"⟩, 5) := ⟨⟨by decide +kernel, by decide +kernel⟩, List.mem_of_getElem? (i := 18) (by decide +kernel), List.mem_of_getElem? (i := 196) (by decide +kernel), List.mem_of_getElem? (i := 197) (by decide +kernel)⟩
theorem lw_p1 : lw_okq (⟨"YarnMill$Fraction", "reduce", "()V"⟩, 2) := ⟨⟨by decide +kernel, by decide +kernel⟩, List.mem_of_getElem? (i := 26) (by decide +kernel), List.mem_of_getElem? (i := 204) (by decide +kernel), List.mem_of_getElem? (i := 205) (by decide +kernel)⟩
theorem lw_p2 : lw_okq (⟨"YarnMill$Line", "toldPart", "(I)J"⟩, 5) := ⟨⟨by decide +kernel, by decide +kernel⟩, List.mem_of_getElem? (i := 18) (by decide +kernel), List.mem_of_getElem? (i := 217) (by decide +kernel), List.mem_of_getElem? (i := 218) (by decide +kernel)⟩
theorem lw_p3 : lw_okq (⟨"YarnMill$Line", "reckonPeriod", "(II)V"⟩, 5) := ⟨⟨by decide +kernel, by decide +kernel⟩, List.mem_of_getElem? (i := 18) (by decide +kernel), List.mem_of_getElem? (i := 230) (by decide +kernel), List.mem_of_getElem? (i := 231) (by decide +kernel)⟩
theorem lw_p4 : lw_okq (⟨"YarnMill$Line", "isNear", "(IIII)Z"⟩, 5) := ⟨⟨by decide +kernel, by decide +kernel⟩, List.mem_of_getElem? (i := 18) (by decide +kernel), List.mem_of_getElem? (i := 244) (by decide +kernel), List.mem_of_getElem? (i := 245) (by decide +kernel)⟩
theorem lw_p5 : lw_okq (⟨"YarnMill", "rowOrNull", "(I)LYarnMill$Row;"⟩, 3) := ⟨⟨by decide +kernel, by decide +kernel⟩, List.mem_of_getElem? (i := 10) (by decide +kernel), List.mem_of_getElem? (i := 252) (by decide +kernel), List.mem_of_getElem? (i := 253) (by decide +kernel)⟩
theorem lw_p6 : lw_okq (⟨"YarnMill$Row", "sumOf", "(II)I"⟩, 2) := ⟨⟨by decide +kernel, by decide +kernel⟩, List.mem_of_getElem? (i := 85) (by decide +kernel), List.mem_of_getElem? (i := 321) (by decide +kernel), List.mem_of_getElem? (i := 322) (by decide +kernel)⟩
theorem lw_p7 : lw_okq (⟨"YarnMill$Row", "given", "(II)I"⟩, 2) := ⟨⟨by decide +kernel, by decide +kernel⟩, List.mem_of_getElem? (i := 85) (by decide +kernel), List.mem_of_getElem? (i := 338) (by decide +kernel), List.mem_of_getElem? (i := 339) (by decide +kernel)⟩
theorem lw_p8 : lw_okq (⟨"YarnMill$Row", "unevenness", "()J"⟩, 2) := ⟨⟨by decide +kernel, by decide +kernel⟩, List.mem_of_getElem? (i := 85) (by decide +kernel), List.mem_of_getElem? (i := 351) (by decide +kernel), List.mem_of_getElem? (i := 352) (by decide +kernel)⟩
theorem lw_p9 : lw_okq (⟨"YarnMill$Row", "mean", "()J"⟩, 2) := ⟨⟨by decide +kernel, by decide +kernel⟩, List.mem_of_getElem? (i := 85) (by decide +kernel), List.mem_of_getElem? (i := 389) (by decide +kernel), List.mem_of_getElem? (i := 390) (by decide +kernel)⟩
theorem lw_p10 : lw_okq (⟨"YarnMill$Row", "runFrom", "(IJZ)I"⟩, 2) := ⟨⟨by decide +kernel, by decide +kernel⟩, List.mem_of_getElem? (i := 85) (by decide +kernel), List.mem_of_getElem? (i := 393) (by decide +kernel), List.mem_of_getElem? (i := 394) (by decide +kernel)⟩
theorem lw_p11 : lw_okq (⟨"YarnMill$Row", "placeFrom", "(IJJI)I"⟩, 2) := ⟨⟨by decide +kernel, by decide +kernel⟩, List.mem_of_getElem? (i := 85) (by decide +kernel), List.mem_of_getElem? (i := 408) (by decide +kernel), List.mem_of_getElem? (i := 409) (by decide +kernel)⟩
theorem lw_p12 : lw_okq (⟨"YarnMill$Store", "openLaydown", "(II)Z"⟩, 9) := ⟨⟨by decide +kernel, by decide +kernel⟩, List.mem_of_getElem? (i := 99) (by decide +kernel), List.mem_of_getElem? (i := 439) (by decide +kernel), List.mem_of_getElem? (i := 440) (by decide +kernel)⟩
theorem lw_p13 : lw_okq (⟨"YarnMill$Store", "fillLaydown", "(IIII)Z"⟩, 9) := ⟨⟨by decide +kernel, by decide +kernel⟩, List.mem_of_getElem? (i := 99) (by decide +kernel), List.mem_of_getElem? (i := 443) (by decide +kernel), List.mem_of_getElem? (i := 444) (by decide +kernel)⟩
theorem lw_p14 : lw_okq (⟨"YarnMill$Store", "countTry", "()Z"⟩, 9) := ⟨⟨by decide +kernel, by decide +kernel⟩, List.mem_of_getElem? (i := 99) (by decide +kernel), List.mem_of_getElem? (i := 447) (by decide +kernel), List.mem_of_getElem? (i := 448) (by decide +kernel)⟩
theorem lw_p15 : lw_okq (⟨"YarnMill", "countCells", "()I"⟩, 3) := ⟨⟨by decide +kernel, by decide +kernel⟩, List.mem_of_getElem? (i := 10) (by decide +kernel), List.mem_of_getElem? (i := 472) (by decide +kernel), List.mem_of_getElem? (i := 473) (by decide +kernel)⟩
def lw_privs_1 : List (MethodName × Nat) := [(⟨"YarnMill$Line", "reckonCount", "(I)Z"⟩, 5), (⟨"YarnMill$Fraction", "reduce", "()V"⟩, 2), (⟨"YarnMill$Line", "toldPart", "(I)J"⟩, 5), (⟨"YarnMill$Line", "reckonPeriod", "(II)V"⟩, 5), (⟨"YarnMill$Line", "isNear", "(IIII)Z"⟩, 5), (⟨"YarnMill", "rowOrNull", "(I)LYarnMill$Row;"⟩, 3), (⟨"YarnMill$Row", "sumOf", "(II)I"⟩, 2), (⟨"YarnMill$Row", "given", "(II)I"⟩, 2), (⟨"YarnMill$Row", "unevenness", "()J"⟩, 2), (⟨"YarnMill$Row", "mean", "()J"⟩, 2), (⟨"YarnMill$Row", "runFrom", "(IJZ)I"⟩, 2), (⟨"YarnMill$Row", "placeFrom", "(IJJI)I"⟩, 2), (⟨"YarnMill$Store", "openLaydown", "(II)Z"⟩, 9), (⟨"YarnMill$Store", "fillLaydown", "(IIII)Z"⟩, 9), (⟨"YarnMill$Store", "countTry", "()Z"⟩, 9), (⟨"YarnMill", "countCells", "()I"⟩, 3)]
theorem lw_r1 : ∀ q ∈ lw_privs_1, lw_okq q := List.forall_mem_cons.mpr ⟨lw_p0, List.forall_mem_cons.mpr ⟨lw_p1, List.forall_mem_cons.mpr ⟨lw_p2, List.forall_mem_cons.mpr ⟨lw_p3, List.forall_mem_cons.mpr ⟨lw_p4, List.forall_mem_cons.mpr ⟨lw_p5, List.forall_mem_cons.mpr ⟨lw_p6, List.forall_mem_cons.mpr ⟨lw_p7, List.forall_mem_cons.mpr ⟨lw_p8, List.forall_mem_cons.mpr ⟨lw_p9, List.forall_mem_cons.mpr ⟨lw_p10, List.forall_mem_cons.mpr ⟨lw_p11, List.forall_mem_cons.mpr ⟨lw_p12, List.forall_mem_cons.mpr ⟨lw_p13, List.forall_mem_cons.mpr ⟨lw_p14, List.forall_mem_cons.mpr ⟨lw_p15, fun _ h => absurd h List.not_mem_nil⟩⟩⟩⟩⟩⟩⟩⟩⟩⟩⟩⟩⟩⟩⟩⟩
theorem lw_p16 : lw_okq (⟨"YarnMillModel", "isMachine", "(I)Z"⟩, 18) := ⟨⟨by decide +kernel, by decide +kernel⟩, List.mem_of_getElem? (i := 493) (by decide +kernel), List.mem_of_getElem? (i := 574) (by decide +kernel), List.mem_of_getElem? (i := 575) (by decide +kernel)⟩
theorem lw_p17 : lw_okq (⟨"YarnMillModel", "countOf", "(II)J"⟩, 18) := ⟨⟨by decide +kernel, by decide +kernel⟩, List.mem_of_getElem? (i := 493) (by decide +kernel), List.mem_of_getElem? (i := 587) (by decide +kernel), List.mem_of_getElem? (i := 588) (by decide +kernel)⟩
theorem lw_p18 : lw_okq (⟨"YarnMillModel", "periodOf", "(III)J"⟩, 18) := ⟨⟨by decide +kernel, by decide +kernel⟩, List.mem_of_getElem? (i := 493) (by decide +kernel), List.mem_of_getElem? (i := 601) (by decide +kernel), List.mem_of_getElem? (i := 602) (by decide +kernel)⟩
theorem lw_p19 : lw_okq (⟨"YarnMillModel", "becomes", "(II)I"⟩, 18) := ⟨⟨by decide +kernel, by decide +kernel⟩, List.mem_of_getElem? (i := 493) (by decide +kernel), List.mem_of_getElem? (i := 643) (by decide +kernel), List.mem_of_getElem? (i := 644) (by decide +kernel)⟩
theorem lw_p20 : lw_okq (⟨"YarnMillModel", "sum", "(I)J"⟩, 18) := ⟨⟨by decide +kernel, by decide +kernel⟩, List.mem_of_getElem? (i := 493) (by decide +kernel), List.mem_of_getElem? (i := 667) (by decide +kernel), List.mem_of_getElem? (i := 668) (by decide +kernel)⟩
theorem lw_p21 : lw_okq (⟨"YarnMillModel", "waveOf", "(II)J"⟩, 18) := ⟨⟨by decide +kernel, by decide +kernel⟩, List.mem_of_getElem? (i := 493) (by decide +kernel), List.mem_of_getElem? (i := 676) (by decide +kernel), List.mem_of_getElem? (i := 677) (by decide +kernel)⟩
theorem lw_p22 : lw_okq (⟨"YarnMillModel", "run", "(IIJII)I"⟩, 18) := ⟨⟨by decide +kernel, by decide +kernel⟩, List.mem_of_getElem? (i := 493) (by decide +kernel), List.mem_of_getElem? (i := 695) (by decide +kernel), List.mem_of_getElem? (i := 696) (by decide +kernel)⟩
theorem lw_p23 : lw_okq (⟨"YarnMillModel", "nextBale", "(II)I"⟩, 18) := ⟨⟨by decide +kernel, by decide +kernel⟩, List.mem_of_getElem? (i := 493) (by decide +kernel), List.mem_of_getElem? (i := 716) (by decide +kernel), List.mem_of_getElem? (i := 717) (by decide +kernel)⟩
theorem lw_p24 : lw_okq (⟨"YarnMillModel", "isWhole", "(IIII)Z"⟩, 18) := ⟨⟨by decide +kernel, by decide +kernel⟩, List.mem_of_getElem? (i := 493) (by decide +kernel), List.mem_of_getElem? (i := 721) (by decide +kernel), List.mem_of_getElem? (i := 722) (by decide +kernel)⟩
theorem lw_p25 : lw_okq (⟨"YarnMillModel", "manyOf", "(I)I"⟩, 18) := ⟨⟨by decide +kernel, by decide +kernel⟩, List.mem_of_getElem? (i := 493) (by decide +kernel), List.mem_of_getElem? (i := 738) (by decide +kernel), List.mem_of_getElem? (i := 739) (by decide +kernel)⟩
def lw_privs_2 : List (MethodName × Nat) := [(⟨"YarnMillModel", "isMachine", "(I)Z"⟩, 18), (⟨"YarnMillModel", "countOf", "(II)J"⟩, 18), (⟨"YarnMillModel", "periodOf", "(III)J"⟩, 18), (⟨"YarnMillModel", "becomes", "(II)I"⟩, 18), (⟨"YarnMillModel", "sum", "(I)J"⟩, 18), (⟨"YarnMillModel", "waveOf", "(II)J"⟩, 18), (⟨"YarnMillModel", "run", "(IIJII)I"⟩, 18), (⟨"YarnMillModel", "nextBale", "(II)I"⟩, 18), (⟨"YarnMillModel", "isWhole", "(IIII)Z"⟩, 18), (⟨"YarnMillModel", "manyOf", "(I)I"⟩, 18)]
theorem lw_r2 : ∀ q ∈ lw_privs_2, lw_okq q := List.forall_mem_cons.mpr ⟨lw_p16, List.forall_mem_cons.mpr ⟨lw_p17, List.forall_mem_cons.mpr ⟨lw_p18, List.forall_mem_cons.mpr ⟨lw_p19, List.forall_mem_cons.mpr ⟨lw_p20, List.forall_mem_cons.mpr ⟨lw_p21, List.forall_mem_cons.mpr ⟨lw_p22, List.forall_mem_cons.mpr ⟨lw_p23, List.forall_mem_cons.mpr ⟨lw_p24, List.forall_mem_cons.mpr ⟨lw_p25, fun _ h => absurd h List.not_mem_nil⟩⟩⟩⟩⟩⟩⟩⟩⟩⟩
def lw_privs : List (MethodName × Nat) := lw_privs_1 ++ (lw_privs_2)
def lw_tbl : List Cond := k2_sels lw_privs ++ tables_1
theorem lw_privs_ok : ∀ q ∈ lw_privs, lw_okq q := by
  show ∀ q ∈ lw_privs_1 ++ (lw_privs_2), lw_okq q
  exact List.forall_mem_append.mpr ⟨lw_r1, lw_r2⟩

theorem goodIn_r {big : List Cond} (ws : List Cond) (ps : List Nat) (hp : ws = ps.filterMap (fun i => big[i]?)) (h : ws.all goodWord = true) : GoodIn big ws := by
  intro w hw
  have h1 := List.all_eq_true.mp h w hw
  rw [hp] at hw
  obtain ⟨i, -, hi⟩ := List.mem_filterMap.mp hw
  have hm : w ∈ big := by first | exact List.mem_of_getElem? hi | exact List.getElem?_mem hi
  exact ⟨hm, good_of_word h1⟩
theorem goodIn_app {big a b : List Cond} (ha : GoodIn big a) (hb : GoodIn big b) : GoodIn big (a ++ b) := fun w h => (List.mem_append.mp h).elim (ha w) (hb w)
theorem goodIn_ca {big a b : List Cond} {c : Cond} (ha : GoodIn big (c :: a)) (hb : GoodIn big b) : GoodIn big (c :: (a ++ b)) := fun w h => (List.mem_cons.mp h).elim (fun e => ha w (List.mem_cons.mpr (Or.inl e))) (fun h => (List.mem_append.mp h).elim (fun h => ha w (List.mem_cons.mpr (Or.inr h))) (hb w))
theorem goodIn_sub {big ws : List Cond} (hm : ∀ w ∈ ws, w ∈ big) (h : ws.all goodWord = true) : GoodIn big ws := fun w hw => ⟨hm w hw, good_of_word (List.all_eq_true.mp h w hw)⟩

def RX0 : String := "YarnMill$Fraction"
def TX0 : u_T := fun k => match k with
  | 0 => ("YarnMill$Fraction", "above", "J", false)
  | _ => ("YarnMill$Fraction", "below", "J", false)
def tyX0 : Nat → FieldType := fun k => match k with
  | 0 => .long
  | _ => .long
abbrev wsX00 : List Cond := u_ws RX0 TX0 2
theorem nmX0 : ∀ a, a < 2 → ∀ b, b < 2 → a ≠ b → (TX0 a).2.1 ≠ (TX0 b).2.1 := by decide +kernel
theorem tyX0_ok : ∀ k, k < 2 → parseFieldDescriptor (TX0 k).2.2.1 = some (tyX0 k) := by decide +kernel
abbrev cX0_init : ByteArray := prog_2_method_1_code
def yX0_init : MethodName := ⟨RX0, "<init>", "()V"⟩
abbrev cX0_set : ByteArray := prog_2_method_2_code
def yX0_set : MethodName := ⟨RX0, "set", "(JJ)V"⟩
abbrev cX0_times : ByteArray := prog_2_method_3_code
def yX0_times : MethodName := ⟨RX0, "times", "(JJ)V"⟩
abbrev cX0_reduce : ByteArray := prog_2_method_4_code
def yX0_reduce : MethodName := ⟨RX0, "reduce", "()V"⟩
abbrev cX0_commonDivisor : ByteArray := prog_2_method_5_code
def yX0_commonDivisor : MethodName := ⟨RX0, "commonDivisor", "(JJ)J"⟩
def RX1 : String := "YarnMill$Line"
def TX1 : u_T := fun k => match k with
  | 0 => ("YarnMill$Line", "size", "I", false)
  | 1 => ("YarnMill$Line", "firstAbove", "I", false)
  | 2 => ("YarnMill$Line", "firstBelow", "I", false)
  | 3 => ("YarnMill$Line", "machines", "[LYarnMill$Machine;", true)
  | _ => ("YarnMill$Line", "told", "LYarnMill$Fraction;", true)
def tyX1 : Nat → FieldType := fun k => match k with
  | 0 => .int
  | 1 => .int
  | 2 => .int
  | 3 => .array (.object "YarnMill$Machine")
  | _ => .object "YarnMill$Fraction"
abbrev wsX10 : List Cond := u_ws RX1 TX1 5
theorem nmX1 : ∀ a, a < 5 → ∀ b, b < 5 → a ≠ b → (TX1 a).2.1 ≠ (TX1 b).2.1 := by decide +kernel
theorem tyX1_ok : ∀ k, k < 5 → parseFieldDescriptor (TX1 k).2.2.1 = some (tyX1 k) := by decide +kernel
abbrev cX1_init : ByteArray := prog_3_method_1_code
def yX1_init : MethodName := ⟨RX1, "<init>", "()V"⟩
abbrev cX1_setFirst : ByteArray := prog_3_method_2_code
def yX1_setFirst : MethodName := ⟨RX1, "setFirst", "(II)I"⟩
abbrev cX1_addMachine : ByteArray := prog_3_method_3_code
def yX1_addMachine : MethodName := ⟨RX1, "addMachine", "(IIII)I"⟩
abbrev cX1_addRoller : ByteArray := prog_3_method_4_code
def yX1_addRoller : MethodName := ⟨RX1, "addRoller", "(II)I"⟩
abbrev cX1_removeAll : ByteArray := prog_3_method_5_code
def yX1_removeAll : MethodName := ⟨RX1, "removeAll", "()I"⟩
abbrev cX1_countRollers : ByteArray := prog_3_method_6_code
def yX1_countRollers : MethodName := ⟨RX1, "countRollers", "()I"⟩
abbrev cX1_tellCount : ByteArray := prog_3_method_7_code
def yX1_tellCount : MethodName := ⟨RX1, "tellCount", "(II)J"⟩
abbrev cX1_tellPeriod : ByteArray := prog_3_method_8_code
def yX1_tellPeriod : MethodName := ⟨RX1, "tellPeriod", "(III)J"⟩
abbrev cX1_findNear : ByteArray := prog_3_method_9_code
def yX1_findNear : MethodName := ⟨RX1, "findNear", "(III)I"⟩
abbrev cX1_toldPart : ByteArray := prog_3_method_10_code
def yX1_toldPart : MethodName := ⟨RX1, "toldPart", "(I)J"⟩
abbrev cX1_reckonCount : ByteArray := prog_3_method_11_code
def yX1_reckonCount : MethodName := ⟨RX1, "reckonCount", "(I)Z"⟩
abbrev cX1_reckonPeriod : ByteArray := prog_3_method_12_code
def yX1_reckonPeriod : MethodName := ⟨RX1, "reckonPeriod", "(II)V"⟩
abbrev cX1_isNear : ByteArray := prog_3_method_13_code
def yX1_isNear : MethodName := ⟨RX1, "isNear", "(IIII)Z"⟩
def RX2 : String := "YarnMill$Machine"
def TX2 : u_T := fun k => match k with
  | 0 => ("YarnMill$Machine", "doublings", "I", false)
  | 1 => ("YarnMill$Machine", "above", "I", false)
  | 2 => ("YarnMill$Machine", "below", "I", false)
  | 3 => ("YarnMill$Machine", "loss", "I", false)
  | 4 => ("YarnMill$Machine", "rollers", "I", false)
  | _ => ("YarnMill$Machine", "rounds", "[I", true)
def tyX2 : Nat → FieldType := fun k => match k with
  | 0 => .int
  | 1 => .int
  | 2 => .int
  | 3 => .int
  | 4 => .int
  | _ => .array .int
abbrev wsX20 : List Cond := u_ws RX2 TX2 6
theorem nmX2 : ∀ a, a < 6 → ∀ b, b < 6 → a ≠ b → (TX2 a).2.1 ≠ (TX2 b).2.1 := by decide +kernel
theorem tyX2_ok : ∀ k, k < 6 → parseFieldDescriptor (TX2 k).2.2.1 = some (tyX2 k) := by decide +kernel
abbrev cX2_init : ByteArray := prog_4_method_1_code
def yX2_init : MethodName := ⟨RX2, "<init>", "()V"⟩
def RX3 : String := "YarnMill$Row"
def TX3 : u_T := fun k => match k with
  | 0 => ("YarnMill$Row", "size", "I", false)
  | _ => ("YarnMill$Row", "cells", "[I", true)
def tyX3 : Nat → FieldType := fun k => match k with
  | 0 => .int
  | _ => .array .int
abbrev wsX30 : List Cond := u_ws RX3 TX3 2
theorem nmX3 : ∀ a, a < 2 → ∀ b, b < 2 → a ≠ b → (TX3 a).2.1 ≠ (TX3 b).2.1 := by decide +kernel
theorem tyX3_ok : ∀ k, k < 2 → parseFieldDescriptor (TX3 k).2.2.1 = some (tyX3 k) := by decide +kernel
abbrev cX3_init : ByteArray := prog_5_method_1_code
def yX3_init : MethodName := ⟨RX3, "<init>", "()V"⟩
abbrev cX3_addCell : ByteArray := prog_5_method_2_code
def yX3_addCell : MethodName := ⟨RX3, "addCell", "(I)I"⟩
abbrev cX3_addDrawn : ByteArray := prog_5_method_3_code
def yX3_addDrawn : MethodName := ⟨RX3, "addDrawn", "(IIII)I"⟩
abbrev cX3_removeAll : ByteArray := prog_5_method_4_code
def yX3_removeAll : MethodName := ⟨RX3, "removeAll", "()I"⟩
abbrev cX3_massAt : ByteArray := prog_5_method_5_code
def yX3_massAt : MethodName := ⟨RX3, "massAt", "(I)I"⟩
abbrev cX3_addRow : ByteArray := prog_5_method_6_code
def yX3_addRow : MethodName := ⟨RX3, "addRow", "(LYarnMill$Row;)I"⟩
abbrev cX3_stretchBy : ByteArray := prog_5_method_7_code
def yX3_stretchBy : MethodName := ⟨RX3, "stretchBy", "(I)I"⟩
abbrev cX3_gatherBy : ByteArray := prog_5_method_8_code
def yX3_gatherBy : MethodName := ⟨RX3, "gatherBy", "(I)I"⟩
abbrev cX3_faultBy : ByteArray := prog_5_method_9_code
def yX3_faultBy : MethodName := ⟨RX3, "faultBy", "(II)I"⟩
abbrev cX3_measure : ByteArray := prog_5_method_10_code
def yX3_measure : MethodName := ⟨RX3, "measure", "(I)J"⟩
abbrev cX3_waveAt : ByteArray := prog_5_method_11_code
def yX3_waveAt : MethodName := ⟨RX3, "waveAt", "(I)J"⟩
abbrev cX3_greatestUpTo : ByteArray := prog_5_method_12_code
def yX3_greatestUpTo : MethodName := ⟨RX3, "greatestUpTo", "(I)I"⟩
abbrev cX3_countPlaces : ByteArray := prog_5_method_13_code
def yX3_countPlaces : MethodName := ⟨RX3, "countPlaces", "(IIII)I"⟩
abbrev cX3_removePlaces : ByteArray := prog_5_method_14_code
def yX3_removePlaces : MethodName := ⟨RX3, "removePlaces", "(III)I"⟩
abbrev cX3_mixInto : ByteArray := prog_5_method_15_code
def yX3_mixInto : MethodName := ⟨RX3, "mixInto", "(J)J"⟩
abbrev cX3_sumOf : ByteArray := prog_5_method_16_code
def yX3_sumOf : MethodName := ⟨RX3, "sumOf", "(II)I"⟩
abbrev cX3_given : ByteArray := prog_5_method_17_code
def yX3_given : MethodName := ⟨RX3, "given", "(II)I"⟩
abbrev cX3_unevenness : ByteArray := prog_5_method_18_code
def yX3_unevenness : MethodName := ⟨RX3, "unevenness", "()J"⟩
abbrev cX3_isGreater : ByteArray := prog_5_method_19_code
def yX3_isGreater : MethodName := ⟨RX3, "isGreater", "(JJJJ)Z"⟩
abbrev cX3_isLaw : ByteArray := prog_5_method_20_code
def yX3_isLaw : MethodName := ⟨RX3, "isLaw", "(III)Z"⟩
abbrev cX3_mean : ByteArray := prog_5_method_21_code
def yX3_mean : MethodName := ⟨RX3, "mean", "()J"⟩
abbrev cX3_placeFrom : ByteArray := prog_5_method_22_code
def yX3_placeFrom : MethodName := ⟨RX3, "placeFrom", "(IJJI)I"⟩
abbrev cX3_runFrom : ByteArray := prog_5_method_23_code
def yX3_runFrom : MethodName := ⟨RX3, "runFrom", "(IJZ)I"⟩
def RX4 : String := "YarnMill$Store"
def TX4 : u_T := fun k => match k with
  | 0 => ("YarnMill$Store", "size", "I", false)
  | 1 => ("YarnMill$Store", "laydowns", "I", false)
  | 2 => ("YarnMill$Store", "tried", "I", false)
  | 3 => ("YarnMill$Store", "each", "I", false)
  | 4 => ("YarnMill$Store", "leastSum", "I", false)
  | 5 => ("YarnMill$Store", "mostSum", "I", false)
  | 6 => ("YarnMill$Store", "spent", "Z", false)
  | 7 => ("YarnMill$Store", "numbers", "[I", true)
  | _ => ("YarnMill$Store", "order", "[I", true)
def tyX4 : Nat → FieldType := fun k => match k with
  | 0 => .int
  | 1 => .int
  | 2 => .int
  | 3 => .int
  | 4 => .int
  | 5 => .int
  | 6 => .boolean
  | 7 => .array .int
  | _ => .array .int
abbrev wsX40 : List Cond := u_ws RX4 TX4 9
theorem nmX4 : ∀ a, a < 9 → ∀ b, b < 9 → a ≠ b → (TX4 a).2.1 ≠ (TX4 b).2.1 := by decide +kernel
theorem tyX4_ok : ∀ k, k < 9 → parseFieldDescriptor (TX4 k).2.2.1 = some (tyX4 k) := by decide +kernel
abbrev cX4_init : ByteArray := prog_6_method_1_code
def yX4_init : MethodName := ⟨RX4, "<init>", "()V"⟩
abbrev cX4_addBale : ByteArray := prog_6_method_2_code
def yX4_addBale : MethodName := ⟨RX4, "addBale", "(I)I"⟩
abbrev cX4_removeAll : ByteArray := prog_6_method_3_code
def yX4_removeAll : MethodName := ⟨RX4, "removeAll", "()I"⟩
abbrev cX4_makePlan : ByteArray := prog_6_method_4_code
def yX4_makePlan : MethodName := ⟨RX4, "makePlan", "(III)I"⟩
abbrev cX4_planned : ByteArray := prog_6_method_5_code
def yX4_planned : MethodName := ⟨RX4, "planned", "(II)I"⟩
abbrev cX4_mixInto : ByteArray := prog_6_method_6_code
def yX4_mixInto : MethodName := ⟨RX4, "mixInto", "(J)J"⟩
abbrev cX4_openLaydown : ByteArray := prog_6_method_7_code
def yX4_openLaydown : MethodName := ⟨RX4, "openLaydown", "(II)Z"⟩
abbrev cX4_fillLaydown : ByteArray := prog_6_method_8_code
def yX4_fillLaydown : MethodName := ⟨RX4, "fillLaydown", "(IIII)Z"⟩
abbrev cX4_countTry : ByteArray := prog_6_method_9_code
def yX4_countTry : MethodName := ⟨RX4, "countTry", "()Z"⟩
def RX5 : String := "YarnMill"
def TX5 : u_T := fun k => match k with
  | 0 => ("YarnMill", "line", "LYarnMill$Line;", true)
  | 1 => ("YarnMill", "rows", "[LYarnMill$Row;", true)
  | _ => ("YarnMill", "store", "LYarnMill$Store;", true)
def tyX5 : Nat → FieldType := fun k => match k with
  | 0 => .object "YarnMill$Line"
  | 1 => .array (.object "YarnMill$Row")
  | _ => .object "YarnMill$Store"
abbrev wsX50 : List Cond := u_ws RX5 TX5 3
theorem nmX5 : ∀ a, a < 3 → ∀ b, b < 3 → a ≠ b → (TX5 a).2.1 ≠ (TX5 b).2.1 := by decide +kernel
theorem tyX5_ok : ∀ k, k < 3 → parseFieldDescriptor (TX5 k).2.2.1 = some (tyX5 k) := by decide +kernel
abbrev cX5_init : ByteArray := prog_1_method_1_code
def yX5_init : MethodName := ⟨RX5, "<init>", "()V"⟩
abbrev cX5_count : ByteArray := prog_1_method_2_code
def yX5_count : MethodName := ⟨RX5, "count", "(II)I"⟩
abbrev cX5_machine : ByteArray := prog_1_method_3_code
def yX5_machine : MethodName := ⟨RX5, "machine", "(IIII)I"⟩
abbrev cX5_roller : ByteArray := prog_1_method_4_code
def yX5_roller : MethodName := ⟨RX5, "roller", "(II)I"⟩
abbrev cX5_clear : ByteArray := prog_1_method_5_code
def yX5_clear : MethodName := ⟨RX5, "clear", "()I"⟩
abbrev cX5_countAt : ByteArray := prog_1_method_6_code
def yX5_countAt : MethodName := ⟨RX5, "countAt", "(II)J"⟩
abbrev cX5_period : ByteArray := prog_1_method_7_code
def yX5_period : MethodName := ⟨RX5, "period", "(III)J"⟩
abbrev cX5_names : ByteArray := prog_1_method_8_code
def yX5_names : MethodName := ⟨RX5, "names", "(III)I"⟩
abbrev cX5_cell : ByteArray := prog_1_method_9_code
def yX5_cell : MethodName := ⟨RX5, "cell", "(II)I"⟩
abbrev cX5_draw : ByteArray := prog_1_method_10_code
def yX5_draw : MethodName := ⟨RX5, "draw", "(IIIII)I"⟩
abbrev cX5_empty : ByteArray := prog_1_method_11_code
def yX5_empty : MethodName := ⟨RX5, "empty", "(I)I"⟩
abbrev cX5_at : ByteArray := prog_1_method_12_code
def yX5_at : MethodName := ⟨RX5, "at", "(II)I"⟩
abbrev cX5_join : ByteArray := prog_1_method_13_code
def yX5_join : MethodName := ⟨RX5, "join", "(II)I"⟩
abbrev cX5_stretch : ByteArray := prog_1_method_14_code
def yX5_stretch : MethodName := ⟨RX5, "stretch", "(II)I"⟩
abbrev cX5_gather : ByteArray := prog_1_method_15_code
def yX5_gather : MethodName := ⟨RX5, "gather", "(II)I"⟩
abbrev cX5_fault : ByteArray := prog_1_method_16_code
def yX5_fault : MethodName := ⟨RX5, "fault", "(III)I"⟩
abbrev cX5_about : ByteArray := prog_1_method_17_code
def yX5_about : MethodName := ⟨RX5, "about", "(II)J"⟩
abbrev cX5_wave : ByteArray := prog_1_method_18_code
def yX5_wave : MethodName := ⟨RX5, "wave", "(II)J"⟩
abbrev cX5_greatest : ByteArray := prog_1_method_19_code
def yX5_greatest : MethodName := ⟨RX5, "greatest", "(II)I"⟩
abbrev cX5_places : ByteArray := prog_1_method_20_code
def yX5_places : MethodName := ⟨RX5, "places", "(IIIII)I"⟩
abbrev cX5_cleared : ByteArray := prog_1_method_21_code
def yX5_cleared : MethodName := ⟨RX5, "cleared", "(IIII)I"⟩
abbrev cX5_bale : ByteArray := prog_1_method_22_code
def yX5_bale : MethodName := ⟨RX5, "bale", "(I)I"⟩
abbrev cX5_clearBales : ByteArray := prog_1_method_23_code
def yX5_clearBales : MethodName := ⟨RX5, "clearBales", "()I"⟩
abbrev cX5_plan : ByteArray := prog_1_method_24_code
def yX5_plan : MethodName := ⟨RX5, "plan", "(III)I"⟩
abbrev cX5_planAt : ByteArray := prog_1_method_25_code
def yX5_planAt : MethodName := ⟨RX5, "planAt", "(II)I"⟩
abbrev cX5_tries : ByteArray := prog_1_method_26_code
def yX5_tries : MethodName := ⟨RX5, "tries", "()I"⟩
abbrev cX5_many : ByteArray := prog_1_method_27_code
def yX5_many : MethodName := ⟨RX5, "many", "(I)I"⟩
abbrev cX5_digest : ByteArray := prog_1_method_28_code
def yX5_digest : MethodName := ⟨RX5, "digest", "()J"⟩
abbrev cX5_countCells : ByteArray := prog_1_method_29_code
def yX5_countCells : MethodName := ⟨RX5, "countCells", "()I"⟩
abbrev cX5_rowOrNull : ByteArray := prog_1_method_30_code
def yX5_rowOrNull : MethodName := ⟨RX5, "rowOrNull", "(I)LYarnMill$Row;"⟩
abbrev cX5_within : ByteArray := prog_1_method_31_code
def yX5_within : MethodName := ⟨RX5, "within", "(JJJ)Z"⟩
def RX6 : String := "YarnMillModel"
def TX6 : u_T := fun k => match k with
  | 0 => ("YarnMillModel", "above", "I", false)
  | 1 => ("YarnMillModel", "below", "I", false)
  | 2 => ("YarnMillModel", "machines", "I", false)
  | 3 => ("YarnMillModel", "doublings", "[I", true)
  | 4 => ("YarnMillModel", "draftAbove", "[I", true)
  | 5 => ("YarnMillModel", "draftBelow", "[I", true)
  | 6 => ("YarnMillModel", "loss", "[I", true)
  | 7 => ("YarnMillModel", "rollers", "[I", true)
  | 8 => ("YarnMillModel", "round", "[I", true)
  | 9 => ("YarnMillModel", "cells", "[I", true)
  | 10 => ("YarnMillModel", "mass", "[I", true)
  | 11 => ("YarnMillModel", "fresh", "[I", true)
  | 12 => ("YarnMillModel", "bales", "I", false)
  | 13 => ("YarnMillModel", "number", "[I", true)
  | 14 => ("YarnMillModel", "laydowns", "I", false)
  | 15 => ("YarnMillModel", "perLaydown", "I", false)
  | 16 => ("YarnMillModel", "plan", "[I", true)
  | _ => ("YarnMillModel", "tries", "I", false)
def tyX6 : Nat → FieldType := fun k => match k with
  | 0 => .int
  | 1 => .int
  | 2 => .int
  | 3 => .array .int
  | 4 => .array .int
  | 5 => .array .int
  | 6 => .array .int
  | 7 => .array .int
  | 8 => .array .int
  | 9 => .array .int
  | 10 => .array .int
  | 11 => .array .int
  | 12 => .int
  | 13 => .array .int
  | 14 => .int
  | 15 => .int
  | 16 => .array .int
  | _ => .int
abbrev wsX60 : List Cond := u_ws RX6 TX6 18
theorem nmX6 : ∀ a, a < 18 → ∀ b, b < 18 → a ≠ b → (TX6 a).2.1 ≠ (TX6 b).2.1 := by decide +kernel
theorem tyX6_ok : ∀ k, k < 18 → parseFieldDescriptor (TX6 k).2.2.1 = some (tyX6 k) := by decide +kernel
abbrev cX6_init : ByteArray := prog_8_method_1_code
def yX6_init : MethodName := ⟨RX6, "<init>", "()V"⟩
abbrev cX6_in : ByteArray := prog_8_method_2_code
def yX6_in : MethodName := ⟨RX6, "in", "(JJJ)Z"⟩
abbrev cX6_common : ByteArray := prog_8_method_3_code
def yX6_common : MethodName := ⟨RX6, "common", "(JJ)J"⟩
abbrev cX6_count : ByteArray := prog_8_method_4_code
def yX6_count : MethodName := ⟨RX6, "count", "(II)I"⟩
abbrev cX6_machine : ByteArray := prog_8_method_5_code
def yX6_machine : MethodName := ⟨RX6, "machine", "(IIII)I"⟩
abbrev cX6_isMachine : ByteArray := prog_8_method_6_code
def yX6_isMachine : MethodName := ⟨RX6, "isMachine", "(I)Z"⟩
abbrev cX6_roller : ByteArray := prog_8_method_7_code
def yX6_roller : MethodName := ⟨RX6, "roller", "(II)I"⟩
abbrev cX6_clear : ByteArray := prog_8_method_8_code
def yX6_clear : MethodName := ⟨RX6, "clear", "()I"⟩
abbrev cX6_countOf : ByteArray := prog_8_method_9_code
def yX6_countOf : MethodName := ⟨RX6, "countOf", "(II)J"⟩
abbrev cX6_countAt : ByteArray := prog_8_method_10_code
def yX6_countAt : MethodName := ⟨RX6, "countAt", "(II)J"⟩
abbrev cX6_periodOf : ByteArray := prog_8_method_11_code
def yX6_periodOf : MethodName := ⟨RX6, "periodOf", "(III)J"⟩
abbrev cX6_period : ByteArray := prog_8_method_12_code
def yX6_period : MethodName := ⟨RX6, "period", "(III)J"⟩
abbrev cX6_names : ByteArray := prog_8_method_13_code
def yX6_names : MethodName := ⟨RX6, "names", "(III)I"⟩
abbrev cX6_isRow : ByteArray := prog_8_method_14_code
def yX6_isRow : MethodName := ⟨RX6, "isRow", "(I)Z"⟩
abbrev cX6_isMass : ByteArray := prog_8_method_15_code
def yX6_isMass : MethodName := ⟨RX6, "isMass", "(J)Z"⟩
abbrev cX6_cell : ByteArray := prog_8_method_16_code
def yX6_cell : MethodName := ⟨RX6, "cell", "(II)I"⟩
abbrev cX6_draw : ByteArray := prog_8_method_17_code
def yX6_draw : MethodName := ⟨RX6, "draw", "(IIIII)I"⟩
abbrev cX6_empty : ByteArray := prog_8_method_18_code
def yX6_empty : MethodName := ⟨RX6, "empty", "(I)I"⟩
abbrev cX6_at : ByteArray := prog_8_method_19_code
def yX6_at : MethodName := ⟨RX6, "at", "(II)I"⟩
abbrev cX6_becomes : ByteArray := prog_8_method_20_code
def yX6_becomes : MethodName := ⟨RX6, "becomes", "(II)I"⟩
abbrev cX6_join : ByteArray := prog_8_method_21_code
def yX6_join : MethodName := ⟨RX6, "join", "(II)I"⟩
abbrev cX6_stretch : ByteArray := prog_8_method_22_code
def yX6_stretch : MethodName := ⟨RX6, "stretch", "(II)I"⟩
abbrev cX6_gather : ByteArray := prog_8_method_23_code
def yX6_gather : MethodName := ⟨RX6, "gather", "(II)I"⟩
abbrev cX6_fault : ByteArray := prog_8_method_24_code
def yX6_fault : MethodName := ⟨RX6, "fault", "(III)I"⟩
abbrev cX6_sum : ByteArray := prog_8_method_25_code
def yX6_sum : MethodName := ⟨RX6, "sum", "(I)J"⟩
abbrev cX6_about : ByteArray := prog_8_method_26_code
def yX6_about : MethodName := ⟨RX6, "about", "(II)J"⟩
abbrev cX6_waveOf : ByteArray := prog_8_method_27_code
def yX6_waveOf : MethodName := ⟨RX6, "waveOf", "(II)J"⟩
abbrev cX6_wave : ByteArray := prog_8_method_28_code
def yX6_wave : MethodName := ⟨RX6, "wave", "(II)J"⟩
abbrev cX6_isAbove : ByteArray := prog_8_method_29_code
def yX6_isAbove : MethodName := ⟨RX6, "isAbove", "(JJJJ)Z"⟩
abbrev cX6_greatest : ByteArray := prog_8_method_30_code
def yX6_greatest : MethodName := ⟨RX6, "greatest", "(II)I"⟩
abbrev cX6_isLaw : ByteArray := prog_8_method_31_code
def yX6_isLaw : MethodName := ⟨RX6, "isLaw", "(III)Z"⟩
abbrev cX6_run : ByteArray := prog_8_method_32_code
def yX6_run : MethodName := ⟨RX6, "run", "(IIJII)I"⟩
abbrev cX6_places : ByteArray := prog_8_method_33_code
def yX6_places : MethodName := ⟨RX6, "places", "(IIIII)I"⟩
abbrev cX6_cleared : ByteArray := prog_8_method_34_code
def yX6_cleared : MethodName := ⟨RX6, "cleared", "(IIII)I"⟩
abbrev cX6_bale : ByteArray := prog_8_method_35_code
def yX6_bale : MethodName := ⟨RX6, "bale", "(I)I"⟩
abbrev cX6_clearBales : ByteArray := prog_8_method_36_code
def yX6_clearBales : MethodName := ⟨RX6, "clearBales", "()I"⟩
abbrev cX6_nextBale : ByteArray := prog_8_method_37_code
def yX6_nextBale : MethodName := ⟨RX6, "nextBale", "(II)I"⟩
abbrev cX6_isWhole : ByteArray := prog_8_method_38_code
def yX6_isWhole : MethodName := ⟨RX6, "isWhole", "(IIII)Z"⟩
abbrev cX6_plan : ByteArray := prog_8_method_39_code
def yX6_plan : MethodName := ⟨RX6, "plan", "(III)I"⟩
abbrev cX6_planAt : ByteArray := prog_8_method_40_code
def yX6_planAt : MethodName := ⟨RX6, "planAt", "(II)I"⟩
abbrev cX6_tries : ByteArray := prog_8_method_41_code
def yX6_tries : MethodName := ⟨RX6, "tries", "()I"⟩
abbrev cX6_manyOf : ByteArray := prog_8_method_42_code
def yX6_manyOf : MethodName := ⟨RX6, "manyOf", "(I)I"⟩
abbrev cX6_many : ByteArray := prog_8_method_43_code
def yX6_many : MethodName := ⟨RX6, "many", "(I)I"⟩
abbrev cX6_digest : ByteArray := prog_8_method_44_code
def yX6_digest : MethodName := ⟨RX6, "digest", "()J"⟩
def RJ9 : String := "java/lang/Math"
def TJ9 : u_T := fun k => match k with
  | _ => ("", "", "", false)
def tyJ9 : Nat → FieldType := fun k => match k with
  | _ => .int
abbrev wsJ90 : List Cond := u_ws RJ9 TJ9 0
theorem nmJ9 : ∀ a, a < 0 → ∀ b, b < 0 → a ≠ b → (TJ9 a).2.1 ≠ (TJ9 b).2.1 := by decide +kernel
theorem tyJ9_ok : ∀ k, k < 0 → parseFieldDescriptor (TJ9 k).2.2.1 = some (tyJ9 k) := by decide +kernel
abbrev cJ9_max_7cf53 : ByteArray := prog_9_method_65_code
def yJ9_max_7cf53 : MethodName := ⟨RJ9, "max", "(II)I"⟩
abbrev cJ9_min_7cf53 : ByteArray := prog_9_method_69_code
def yJ9_min_7cf53 : MethodName := ⟨RJ9, "min", "(II)I"⟩
def RL : String := "YarnMillLaw"
abbrev cL_law : ByteArray := code
def yL_law : MethodName := ⟨RL, "law", "([I)Z"⟩
def wsX0_init : List Cond := .code yX0_init cX0_init 1 none :: ([.methodLink RX0 1 objectInit, .instanceMethod objectInit, .code objectInit ⟨#[0xb1]⟩ 1 none, .fieldLink RX0 7 "YarnMill$Fraction" "above" "J", .fieldLink RX0 13 "YarnMill$Fraction" "below" "J"] ++ wsX00)
def wsX0_commonDivisor : List Cond := .code yX0_commonDivisor cX0_commonDivisor 11 (some .long) :: ([])
def wsX0_reduce : List Cond := .code yX0_reduce cX0_reduce 3 none :: ([.fieldLink RX0 7 "YarnMill$Fraction" "above" "J", .fieldLink RX0 13 "YarnMill$Fraction" "below" "J", .methodLink RX0 23 yX0_commonDivisor, .static yX0_commonDivisor, .initialized RX0, .code yX0_commonDivisor cX0_commonDivisor 11 (some .long)] ++ wsX00)
def wsX0_set : List Cond := .code yX0_set cX0_set 5 none :: ([.fieldLink RX0 7 "YarnMill$Fraction" "above" "J", .fieldLink RX0 13 "YarnMill$Fraction" "below" "J", .methodLink RX0 16 yX0_reduce, .instanceMethod yX0_reduce, .selects RX0 yX0_reduce yX0_reduce, .initialized RX0, .code yX0_reduce cX0_reduce 3 none, .methodLink RX0 23 yX0_commonDivisor, .static yX0_commonDivisor, .code yX0_commonDivisor cX0_commonDivisor 11 (some .long)] ++ wsX00)
def wsX0_times : List Cond := .code yX0_times cX0_times 5 none :: ([.fieldLink RX0 7 "YarnMill$Fraction" "above" "J", .fieldLink RX0 13 "YarnMill$Fraction" "below" "J", .methodLink RX0 19 yX0_set, .instanceMethod yX0_set, .selects RX0 yX0_set yX0_set, .initialized RX0, .code yX0_set cX0_set 5 none, .methodLink RX0 16 yX0_reduce, .instanceMethod yX0_reduce, .selects RX0 yX0_reduce yX0_reduce, .code yX0_reduce cX0_reduce 3 none, .methodLink RX0 23 yX0_commonDivisor, .static yX0_commonDivisor, .code yX0_commonDivisor cX0_commonDivisor 11 (some .long)] ++ wsX00)
def wsX2_init : List Cond := .code yX2_init cX2_init 1 none :: ([.methodLink RX2 1 objectInit, .instanceMethod objectInit, .code objectInit ⟨#[0xb1]⟩ 1 none, .arrayClass .int, .fieldLink RX2 9 "YarnMill$Machine" "rounds" "[I"] ++ wsX20)
def wsX1_init : List Cond := .code yX1_init cX1_init 2 none :: ([.methodLink RX1 3 objectInit, .instanceMethod objectInit, .code objectInit ⟨#[0xb1]⟩ 1 none, .fieldLink RX1 9 "YarnMill$Line" "firstAbove" "I", .fieldLink RX1 15 "YarnMill$Line" "firstBelow" "I", .classLink RX1 18 RX2, .fieldLink RX1 20 "YarnMill$Line" "machines" "[LYarnMill$Machine;", .classLink RX1 24 RX0, .instantiable RX0 2, .initialized RX0, .fieldLink RX1 27 "YarnMill$Line" "told" "LYarnMill$Fraction;", .instantiable RX2 6, .initialized RX2, .instanceMethod yX0_init, .code yX0_init cX0_init 1 none, .methodLink RX0 1 objectInit, .fieldLink RX0 7 "YarnMill$Fraction" "above" "J", .fieldLink RX0 13 "YarnMill$Fraction" "below" "J", .instanceMethod yX2_init, .code yX2_init cX2_init 1 none, .methodLink RX2 1 objectInit, .arrayClass .int, .fieldLink RX2 9 "YarnMill$Machine" "rounds" "[I"] ++ wsX10 ++ wsX00 ++ wsX20)
def wsX5_within : List Cond := .code yX5_within cX5_within 6 (some .boolean) :: ([])
def wsX1_setFirst : List Cond := .code yX1_setFirst cX1_setFirst 3 (some .int) :: ([.constantLong RX1 32 (10000), .fieldLink RX1 9 "YarnMill$Line" "firstAbove" "I", .fieldLink RX1 15 "YarnMill$Line" "firstBelow" "I", .static yX5_within, .initialized RX5, .code yX5_within cX5_within 6 (some .boolean)] ++ wsX10)
def wsX1_addMachine : List Cond := .code yX1_addMachine cX1_addMachine 6 (some .int) :: ([.constantLong RX1 38 (16), .constantLong RX1 40 (60), .constantLong RX1 42 (20), .constantLong RX1 44 (500), .fieldLink RX1 46 "YarnMill$Line" "size" "I", .fieldLink RX1 20 "YarnMill$Line" "machines" "[LYarnMill$Machine;", .fieldLink RX1 49 "YarnMill$Machine" "doublings" "I", .fieldLink RX1 52 "YarnMill$Machine" "above" "I", .fieldLink RX1 55 "YarnMill$Machine" "below" "I", .fieldLink RX1 58 "YarnMill$Machine" "loss" "I", .fieldLink RX1 61 "YarnMill$Machine" "rollers" "I", .static yX5_within, .initialized RX5, .code yX5_within cX5_within 6 (some .boolean)] ++ wsX10 ++ wsX20)
def wsX1_addRoller : List Cond := .code yX1_addRoller cX1_addRoller 4 (some .int) :: ([.fieldLink RX1 46 "YarnMill$Line" "size" "I", .constantLong RX1 64 (1000), .fieldLink RX1 20 "YarnMill$Line" "machines" "[LYarnMill$Machine;", .fieldLink RX1 61 "YarnMill$Machine" "rollers" "I", .fieldLink RX1 66 "YarnMill$Machine" "rounds" "[I", .static yX5_within, .initialized RX5, .code yX5_within cX5_within 6 (some .boolean)] ++ wsX10 ++ wsX20)
def wsX1_removeAll : List Cond := .code yX1_removeAll cX1_removeAll 2 (some .int) :: ([.fieldLink RX1 46 "YarnMill$Line" "size" "I"] ++ wsX10)
def wsX1_countRollers : List Cond := .code yX1_countRollers cX1_countRollers 3 (some .int) :: ([.fieldLink RX1 46 "YarnMill$Line" "size" "I", .fieldLink RX1 20 "YarnMill$Line" "machines" "[LYarnMill$Machine;", .fieldLink RX1 61 "YarnMill$Machine" "rollers" "I"] ++ wsX10 ++ wsX20)
def wsX1_reckonCount_r1 : List Cond := [Cond.fieldLink RX1 27 "YarnMill$Line" "told" "LYarnMill$Fraction;", Cond.fieldLink RX1 9 "YarnMill$Line" "firstAbove" "I", Cond.fieldLink RX1 15 "YarnMill$Line" "firstBelow" "I", Cond.fieldLink RX1 20 "YarnMill$Line" "machines" "[LYarnMill$Machine;", Cond.fieldLink RX1 49 "YarnMill$Machine" "doublings" "I", Cond.fieldLink RX1 58 "YarnMill$Machine" "loss" "I", Cond.fieldLink RX1 55 "YarnMill$Machine" "below" "I", Cond.constantLong RX1 64 (1000), Cond.fieldLink RX1 52 "YarnMill$Machine" "above" "I", Cond.fieldLink RX1 94 "YarnMill$Fraction" "above" "J", Cond.constantLong RX1 106 (1000000000000), Cond.fieldLink RX1 97 "YarnMill$Fraction" "below" "J", Cond.methodLink RX1 99 yX0_set, Cond.instanceMethod yX0_set, Cond.selects RX0 yX0_set yX0_set, Cond.initialized RX0, Cond.code yX0_set cX0_set 5 none, Cond.fieldLink RX0 7 "YarnMill$Fraction" "above" "J", Cond.fieldLink RX0 13 "YarnMill$Fraction" "below" "J", Cond.methodLink RX0 16 yX0_reduce, Cond.instanceMethod yX0_reduce, Cond.selects RX0 yX0_reduce yX0_reduce, Cond.code yX0_reduce cX0_reduce 3 none, Cond.methodLink RX0 23 yX0_commonDivisor]
def wsX1_reckonCount_r2 : List Cond := [Cond.static yX0_commonDivisor, Cond.code yX0_commonDivisor cX0_commonDivisor 11 (some .long), Cond.methodLink RX1 103 yX0_times, Cond.instanceMethod yX0_times, Cond.selects RX0 yX0_times yX0_times, Cond.code yX0_times cX0_times 5 none, Cond.methodLink RX0 19 yX0_set]
def wsX1_reckonCount : List Cond := .code yX1_reckonCount cX1_reckonCount 4 (some .boolean) :: ((wsX1_reckonCount_r1 ++ wsX1_reckonCount_r2) ++ wsX10 ++ wsX20 ++ wsX00)
def wsX1_toldPart : List Cond := .code yX1_toldPart cX1_toldPart 2 (some .long) :: ([.fieldLink RX1 27 "YarnMill$Line" "told" "LYarnMill$Fraction;", .fieldLink RX1 94 "YarnMill$Fraction" "above" "J", .fieldLink RX1 97 "YarnMill$Fraction" "below" "J"] ++ wsX10 ++ wsX00)
def wsX1_tellCount_r1 : List Cond := [Cond.fieldLink RX1 46 "YarnMill$Line" "size" "I", Cond.constantLong RX1 70 (-2), Cond.constantLong RX1 80 (-6), Cond.static yX5_within, Cond.initialized RX5, Cond.code yX5_within cX5_within 6 (some .boolean), Cond.methodLink RX1 72 yX1_reckonCount, Cond.instanceMethod yX1_reckonCount, Cond.selects RX1 yX1_reckonCount yX1_reckonCount, Cond.initialized RX1, Cond.code yX1_reckonCount cX1_reckonCount 4 (some .boolean), Cond.fieldLink RX1 27 "YarnMill$Line" "told" "LYarnMill$Fraction;", Cond.fieldLink RX1 9 "YarnMill$Line" "firstAbove" "I", Cond.fieldLink RX1 15 "YarnMill$Line" "firstBelow" "I", Cond.fieldLink RX1 20 "YarnMill$Line" "machines" "[LYarnMill$Machine;", Cond.fieldLink RX1 49 "YarnMill$Machine" "doublings" "I", Cond.fieldLink RX1 58 "YarnMill$Machine" "loss" "I", Cond.fieldLink RX1 55 "YarnMill$Machine" "below" "I", Cond.constantLong RX1 64 (1000), Cond.fieldLink RX1 52 "YarnMill$Machine" "above" "I", Cond.fieldLink RX1 94 "YarnMill$Fraction" "above" "J", Cond.constantLong RX1 106 (1000000000000), Cond.fieldLink RX1 97 "YarnMill$Fraction" "below" "J", Cond.methodLink RX1 99 yX0_set]
def wsX1_tellCount_r2 : List Cond := [Cond.instanceMethod yX0_set, Cond.selects RX0 yX0_set yX0_set, Cond.initialized RX0, Cond.code yX0_set cX0_set 5 none, Cond.fieldLink RX0 7 "YarnMill$Fraction" "above" "J", Cond.fieldLink RX0 13 "YarnMill$Fraction" "below" "J", Cond.methodLink RX0 16 yX0_reduce, Cond.instanceMethod yX0_reduce, Cond.selects RX0 yX0_reduce yX0_reduce, Cond.code yX0_reduce cX0_reduce 3 none, Cond.methodLink RX0 23 yX0_commonDivisor, Cond.static yX0_commonDivisor, Cond.code yX0_commonDivisor cX0_commonDivisor 11 (some .long), Cond.methodLink RX1 103 yX0_times, Cond.instanceMethod yX0_times, Cond.selects RX0 yX0_times yX0_times, Cond.code yX0_times cX0_times 5 none, Cond.methodLink RX0 19 yX0_set, Cond.methodLink RX1 76 yX1_toldPart, Cond.instanceMethod yX1_toldPart, Cond.selects RX1 yX1_toldPart yX1_toldPart, Cond.code yX1_toldPart cX1_toldPart 2 (some .long)]
def wsX1_tellCount : List Cond := .code yX1_tellCount cX1_tellCount 3 (some .long) :: ((wsX1_tellCount_r1 ++ wsX1_tellCount_r2) ++ wsX10 ++ wsX20 ++ wsX00)
def wsX1_reckonPeriod_r1 : List Cond := [Cond.fieldLink RX1 27 "YarnMill$Line" "told" "LYarnMill$Fraction;", Cond.fieldLink RX1 20 "YarnMill$Line" "machines" "[LYarnMill$Machine;", Cond.fieldLink RX1 66 "YarnMill$Machine" "rounds" "[I", Cond.fieldLink RX1 46 "YarnMill$Line" "size" "I", Cond.fieldLink RX1 52 "YarnMill$Machine" "above" "I", Cond.fieldLink RX1 55 "YarnMill$Machine" "below" "I", Cond.methodLink RX1 99 yX0_set, Cond.instanceMethod yX0_set, Cond.selects RX0 yX0_set yX0_set, Cond.initialized RX0, Cond.code yX0_set cX0_set 5 none, Cond.fieldLink RX0 7 "YarnMill$Fraction" "above" "J", Cond.fieldLink RX0 13 "YarnMill$Fraction" "below" "J", Cond.methodLink RX0 16 yX0_reduce, Cond.instanceMethod yX0_reduce, Cond.selects RX0 yX0_reduce yX0_reduce, Cond.code yX0_reduce cX0_reduce 3 none, Cond.methodLink RX0 23 yX0_commonDivisor, Cond.static yX0_commonDivisor, Cond.code yX0_commonDivisor cX0_commonDivisor 11 (some .long), Cond.methodLink RX1 103 yX0_times, Cond.instanceMethod yX0_times, Cond.selects RX0 yX0_times yX0_times, Cond.code yX0_times cX0_times 5 none]
def wsX1_reckonPeriod_r2 : List Cond := [Cond.methodLink RX0 19 yX0_set]
def wsX1_reckonPeriod : List Cond := .code yX1_reckonPeriod cX1_reckonPeriod 4 none :: ((wsX1_reckonPeriod_r1 ++ wsX1_reckonPeriod_r2) ++ wsX10 ++ wsX20 ++ wsX00)
def wsX1_tellPeriod_r1 : List Cond := [Cond.fieldLink RX1 46 "YarnMill$Line" "size" "I", Cond.fieldLink RX1 20 "YarnMill$Line" "machines" "[LYarnMill$Machine;", Cond.fieldLink RX1 61 "YarnMill$Machine" "rollers" "I", Cond.constantLong RX1 70 (-2), Cond.static yX5_within, Cond.initialized RX5, Cond.code yX5_within cX5_within 6 (some .boolean), Cond.methodLink RX1 82 yX1_reckonPeriod, Cond.instanceMethod yX1_reckonPeriod, Cond.selects RX1 yX1_reckonPeriod yX1_reckonPeriod, Cond.initialized RX1, Cond.code yX1_reckonPeriod cX1_reckonPeriod 4 none, Cond.fieldLink RX1 27 "YarnMill$Line" "told" "LYarnMill$Fraction;", Cond.fieldLink RX1 66 "YarnMill$Machine" "rounds" "[I", Cond.fieldLink RX1 52 "YarnMill$Machine" "above" "I", Cond.fieldLink RX1 55 "YarnMill$Machine" "below" "I", Cond.methodLink RX1 99 yX0_set, Cond.instanceMethod yX0_set, Cond.selects RX0 yX0_set yX0_set, Cond.initialized RX0, Cond.code yX0_set cX0_set 5 none, Cond.fieldLink RX0 7 "YarnMill$Fraction" "above" "J", Cond.fieldLink RX0 13 "YarnMill$Fraction" "below" "J", Cond.methodLink RX0 16 yX0_reduce]
def wsX1_tellPeriod_r2 : List Cond := [Cond.instanceMethod yX0_reduce, Cond.selects RX0 yX0_reduce yX0_reduce, Cond.code yX0_reduce cX0_reduce 3 none, Cond.methodLink RX0 23 yX0_commonDivisor, Cond.static yX0_commonDivisor, Cond.code yX0_commonDivisor cX0_commonDivisor 11 (some .long), Cond.methodLink RX1 103 yX0_times, Cond.instanceMethod yX0_times, Cond.selects RX0 yX0_times yX0_times, Cond.code yX0_times cX0_times 5 none, Cond.methodLink RX0 19 yX0_set, Cond.methodLink RX1 76 yX1_toldPart, Cond.instanceMethod yX1_toldPart, Cond.selects RX1 yX1_toldPart yX1_toldPart, Cond.code yX1_toldPart cX1_toldPart 2 (some .long), Cond.fieldLink RX1 94 "YarnMill$Fraction" "above" "J", Cond.fieldLink RX1 97 "YarnMill$Fraction" "below" "J"]
def wsX1_tellPeriod : List Cond := .code yX1_tellPeriod cX1_tellPeriod 4 (some .long) :: ((wsX1_tellPeriod_r1 ++ wsX1_tellPeriod_r2) ++ wsX10 ++ wsX20 ++ wsX00)
def wsX1_isNear_r1 : List Cond := [Cond.fieldLink RX1 27 "YarnMill$Line" "told" "LYarnMill$Fraction;", Cond.fieldLink RX1 97 "YarnMill$Fraction" "below" "J", Cond.constantLong RX1 64 (1000), Cond.fieldLink RX1 94 "YarnMill$Fraction" "above" "J", Cond.methodLink RX1 82 yX1_reckonPeriod, Cond.instanceMethod yX1_reckonPeriod, Cond.selects RX1 yX1_reckonPeriod yX1_reckonPeriod, Cond.initialized RX1, Cond.code yX1_reckonPeriod cX1_reckonPeriod 4 none, Cond.fieldLink RX1 20 "YarnMill$Line" "machines" "[LYarnMill$Machine;", Cond.fieldLink RX1 66 "YarnMill$Machine" "rounds" "[I", Cond.fieldLink RX1 46 "YarnMill$Line" "size" "I", Cond.fieldLink RX1 52 "YarnMill$Machine" "above" "I", Cond.fieldLink RX1 55 "YarnMill$Machine" "below" "I", Cond.methodLink RX1 99 yX0_set, Cond.instanceMethod yX0_set, Cond.selects RX0 yX0_set yX0_set, Cond.initialized RX0, Cond.code yX0_set cX0_set 5 none, Cond.fieldLink RX0 7 "YarnMill$Fraction" "above" "J", Cond.fieldLink RX0 13 "YarnMill$Fraction" "below" "J", Cond.methodLink RX0 16 yX0_reduce, Cond.instanceMethod yX0_reduce, Cond.selects RX0 yX0_reduce yX0_reduce]
def wsX1_isNear_r2 : List Cond := [Cond.code yX0_reduce cX0_reduce 3 none, Cond.methodLink RX0 23 yX0_commonDivisor, Cond.static yX0_commonDivisor, Cond.code yX0_commonDivisor cX0_commonDivisor 11 (some .long), Cond.methodLink RX1 103 yX0_times, Cond.instanceMethod yX0_times, Cond.selects RX0 yX0_times yX0_times, Cond.code yX0_times cX0_times 5 none, Cond.methodLink RX0 19 yX0_set, Cond.static yX5_within, Cond.initialized RX5, Cond.code yX5_within cX5_within 6 (some .boolean)]
def wsX1_isNear : List Cond := .code yX1_isNear cX1_isNear 7 (some .boolean) :: ((wsX1_isNear_r1 ++ wsX1_isNear_r2) ++ wsX10 ++ wsX00 ++ wsX20)
def wsX1_findNear_r1 : List Cond := [Cond.constantLong RX1 86 (1000000), Cond.constantLong RX1 88 (999), Cond.fieldLink RX1 46 "YarnMill$Line" "size" "I", Cond.fieldLink RX1 20 "YarnMill$Line" "machines" "[LYarnMill$Machine;", Cond.fieldLink RX1 61 "YarnMill$Machine" "rollers" "I", Cond.static yX5_within, Cond.initialized RX5, Cond.code yX5_within cX5_within 6 (some .boolean), Cond.methodLink RX1 90 yX1_isNear, Cond.instanceMethod yX1_isNear, Cond.selects RX1 yX1_isNear yX1_isNear, Cond.initialized RX1, Cond.code yX1_isNear cX1_isNear 7 (some .boolean), Cond.fieldLink RX1 27 "YarnMill$Line" "told" "LYarnMill$Fraction;", Cond.fieldLink RX1 97 "YarnMill$Fraction" "below" "J", Cond.constantLong RX1 64 (1000), Cond.fieldLink RX1 94 "YarnMill$Fraction" "above" "J", Cond.methodLink RX1 82 yX1_reckonPeriod, Cond.instanceMethod yX1_reckonPeriod, Cond.selects RX1 yX1_reckonPeriod yX1_reckonPeriod, Cond.code yX1_reckonPeriod cX1_reckonPeriod 4 none, Cond.fieldLink RX1 66 "YarnMill$Machine" "rounds" "[I", Cond.fieldLink RX1 52 "YarnMill$Machine" "above" "I", Cond.fieldLink RX1 55 "YarnMill$Machine" "below" "I"]
def wsX1_findNear_r2 : List Cond := [Cond.methodLink RX1 99 yX0_set, Cond.instanceMethod yX0_set, Cond.selects RX0 yX0_set yX0_set, Cond.initialized RX0, Cond.code yX0_set cX0_set 5 none, Cond.fieldLink RX0 7 "YarnMill$Fraction" "above" "J", Cond.fieldLink RX0 13 "YarnMill$Fraction" "below" "J", Cond.methodLink RX0 16 yX0_reduce, Cond.instanceMethod yX0_reduce, Cond.selects RX0 yX0_reduce yX0_reduce, Cond.code yX0_reduce cX0_reduce 3 none, Cond.methodLink RX0 23 yX0_commonDivisor, Cond.static yX0_commonDivisor, Cond.code yX0_commonDivisor cX0_commonDivisor 11 (some .long), Cond.methodLink RX1 103 yX0_times, Cond.instanceMethod yX0_times, Cond.selects RX0 yX0_times yX0_times, Cond.code yX0_times cX0_times 5 none, Cond.methodLink RX0 19 yX0_set]
def wsX1_findNear : List Cond := .code yX1_findNear cX1_findNear 7 (some .int) :: ((wsX1_findNear_r1 ++ wsX1_findNear_r2) ++ wsX10 ++ wsX20 ++ wsX00)
def wsX3_init : List Cond := .code yX3_init cX3_init 1 none :: ([.methodLink RX3 3 objectInit, .instanceMethod objectInit, .code objectInit ⟨#[0xb1]⟩ 1 none, .arrayClass .int, .fieldLink RX3 11 "YarnMill$Row" "cells" "[I"] ++ wsX30)
def wsX3_addCell : List Cond := .code yX3_addCell cX3_addCell 2 (some .int) :: ([.constantLong RX3 15 (1000000), .fieldLink RX3 21 "YarnMill$Row" "size" "I", .fieldLink RX3 11 "YarnMill$Row" "cells" "[I", .static yX5_within, .initialized RX5, .code yX5_within cX5_within 6 (some .boolean)] ++ wsX30)
def wsX3_addDrawn : List Cond := .code yX3_addDrawn cX3_addDrawn 7 (some .int) :: ([.constantLong RX3 25 (100), .constantLong RX3 27 (10000), .fieldLink RX3 21 "YarnMill$Row" "size" "I", .constant RX3 29 (1103515245), .constant RX3 30 (2147483647), .fieldLink RX3 11 "YarnMill$Row" "cells" "[I", .constant RX3 31 (65536), .static yX5_within, .initialized RX5, .code yX5_within cX5_within 6 (some .boolean)] ++ wsX30)
def wsX3_removeAll : List Cond := .code yX3_removeAll cX3_removeAll 2 (some .int) :: ([.fieldLink RX3 21 "YarnMill$Row" "size" "I"] ++ wsX30)
def wsX3_massAt : List Cond := .code yX3_massAt cX3_massAt 2 (some .int) :: ([.fieldLink RX3 21 "YarnMill$Row" "size" "I", .fieldLink RX3 11 "YarnMill$Row" "cells" "[I", .static yX5_within, .initialized RX5, .code yX5_within cX5_within 6 (some .boolean)] ++ wsX30)
def wsX3_addRow : List Cond := .code yX3_addRow cX3_addRow 3 (some .int) :: ([.fieldLink RX3 21 "YarnMill$Row" "size" "I", .fieldLink RX3 11 "YarnMill$Row" "cells" "[I", .constant RX3 32 (1000000)] ++ wsX30)
def wsX3_stretchBy : List Cond := .code yX3_stretchBy cX3_stretchBy 6 (some .int) :: ([.constantLong RX3 33 (2), .constantLong RX3 35 (8), .fieldLink RX3 21 "YarnMill$Row" "size" "I", .fieldLink RX3 11 "YarnMill$Row" "cells" "[I", .static yX5_within, .initialized RX5, .code yX5_within cX5_within 6 (some .boolean)] ++ wsX30)
def wsX3_sumOf : List Cond := .code yX3_sumOf cX3_sumOf 6 (some .int) :: ([.fieldLink RX3 21 "YarnMill$Row" "size" "I", .methodLink RX3 88 Lib.Math.min.name, .static Lib.Math.min.name, .initialized "java/lang/Math", .code Lib.Math.min.name Lib.Math.min.code 2 (some .int), .fieldLink RX3 11 "YarnMill$Row" "cells" "[I"] ++ wsX30)
def wsX3_gatherBy : List Cond := .code yX3_gatherBy cX3_gatherBy 4 (some .int) :: ([.constantLong RX3 33 (2), .constantLong RX3 37 (20), .fieldLink RX3 21 "YarnMill$Row" "size" "I", .constant RX3 32 (1000000), .fieldLink RX3 11 "YarnMill$Row" "cells" "[I", .static yX5_within, .initialized RX5, .code yX5_within cX5_within 6 (some .boolean), .methodLink RX3 39 yX3_sumOf, .instanceMethod yX3_sumOf, .selects RX3 yX3_sumOf yX3_sumOf, .initialized RX3, .code yX3_sumOf cX3_sumOf 6 (some .int), .methodLink RX3 88 Lib.Math.min.name, .static Lib.Math.min.name, .initialized "java/lang/Math", .code Lib.Math.min.name Lib.Math.min.code 2 (some .int)] ++ wsX30)
def wsX3_given : List Cond := .code yX3_given cX3_given 3 (some .int) :: ([.fieldLink RX3 11 "YarnMill$Row" "cells" "[I", .constantLong RX3 45 (1000)] ++ wsX30)
def wsX3_faultBy : List Cond := .code yX3_faultBy cX3_faultBy 8 (some .int) :: ([.constantLong RX3 33 (2), .constantLong RX3 43 (400), .constantLong RX3 45 (1000), .fieldLink RX3 21 "YarnMill$Row" "size" "I", .fieldLink RX3 11 "YarnMill$Row" "cells" "[I", .constant RX3 32 (1000000), .static yX5_within, .initialized RX5, .code yX5_within cX5_within 6 (some .boolean), .methodLink RX3 47 yX3_given, .instanceMethod yX3_given, .selects RX3 yX3_given yX3_given, .initialized RX3, .code yX3_given cX3_given 3 (some .int)] ++ wsX30)
def wsX3_unevenness : List Cond := .code yX3_unevenness cX3_unevenness 5 (some .long) :: ([.fieldLink RX3 21 "YarnMill$Row" "size" "I", .fieldLink RX3 11 "YarnMill$Row" "cells" "[I", .methodLink RX3 39 yX3_sumOf, .instanceMethod yX3_sumOf, .selects RX3 yX3_sumOf yX3_sumOf, .initialized RX3, .code yX3_sumOf cX3_sumOf 6 (some .int), .methodLink RX3 88 Lib.Math.min.name, .static Lib.Math.min.name, .initialized "java/lang/Math", .code Lib.Math.min.name Lib.Math.min.code 2 (some .int)] ++ wsX30)
def wsX3_measure : List Cond := .code yX3_measure cX3_measure 2 (some .long) :: ([.fieldLink RX3 21 "YarnMill$Row" "size" "I", .constantLong RX3 54 (-1), .methodLink RX3 39 yX3_sumOf, .instanceMethod yX3_sumOf, .selects RX3 yX3_sumOf yX3_sumOf, .initialized RX3, .code yX3_sumOf cX3_sumOf 6 (some .int), .methodLink RX3 88 Lib.Math.min.name, .static Lib.Math.min.name, .initialized "java/lang/Math", .code Lib.Math.min.name Lib.Math.min.code 2 (some .int), .fieldLink RX3 11 "YarnMill$Row" "cells" "[I", .methodLink RX3 50 yX3_unevenness, .instanceMethod yX3_unevenness, .selects RX3 yX3_unevenness yX3_unevenness, .code yX3_unevenness cX3_unevenness 5 (some .long)] ++ wsX30)
def wsX3_waveAt : List Cond := .code yX3_waveAt cX3_waveAt 11 (some .long) :: ([.constantLong RX3 33 (2), .constantLong RX3 56 (200), .constantLong RX3 54 (-1), .fieldLink RX3 21 "YarnMill$Row" "size" "I", .fieldLink RX3 11 "YarnMill$Row" "cells" "[I", .static yX5_within, .initialized RX5, .code yX5_within cX5_within 6 (some .boolean)] ++ wsX30)
def wsX3_isGreater : List Cond := .code yX3_isGreater cX3_isGreater 8 (some .boolean) :: ([])
def wsX3_greatestUpTo : List Cond := .code yX3_greatestUpTo cX3_greatestUpTo 12 (some .int) :: ([.constantLong RX3 33 (2), .constantLong RX3 56 (200), .fieldLink RX3 21 "YarnMill$Row" "size" "I", .static yX5_within, .initialized RX5, .code yX5_within cX5_within 6 (some .boolean), .methodLink RX3 58 yX3_waveAt, .instanceMethod yX3_waveAt, .selects RX3 yX3_waveAt yX3_waveAt, .initialized RX3, .code yX3_waveAt cX3_waveAt 11 (some .long), .constantLong RX3 54 (-1), .fieldLink RX3 11 "YarnMill$Row" "cells" "[I", .methodLink RX3 62 yX3_isGreater, .static yX3_isGreater, .code yX3_isGreater cX3_isGreater 8 (some .boolean)] ++ wsX30)
def wsX3_isLaw : List Cond := .code yX3_isLaw cX3_isLaw 3 (some .boolean) :: ([.constantLong RX3 45 (1000), .constantLong RX3 25 (100), .constantLong RX3 91 (50), .static yX5_within, .initialized RX5, .code yX5_within cX5_within 6 (some .boolean)])
def wsX3_mean : List Cond := .code yX3_mean cX3_mean 1 (some .long) :: ([.fieldLink RX3 21 "YarnMill$Row" "size" "I", .methodLink RX3 39 yX3_sumOf, .instanceMethod yX3_sumOf, .selects RX3 yX3_sumOf yX3_sumOf, .initialized RX3, .code yX3_sumOf cX3_sumOf 6 (some .int), .methodLink RX3 88 Lib.Math.min.name, .static Lib.Math.min.name, .initialized "java/lang/Math", .code Lib.Math.min.name Lib.Math.min.code 2 (some .int), .fieldLink RX3 11 "YarnMill$Row" "cells" "[I"] ++ wsX30)
def wsX3_runFrom : List Cond := .code yX3_runFrom cX3_runFrom 6 (some .int) :: ([.fieldLink RX3 21 "YarnMill$Row" "size" "I", .fieldLink RX3 11 "YarnMill$Row" "cells" "[I", .constantLong RX3 25 (100)] ++ wsX30)
def wsX3_countPlaces_r1 : List Cond := [Cond.fieldLink RX3 21 "YarnMill$Row" "size" "I", Cond.methodLink RX3 77 Lib.Math.max.name, Cond.static Lib.Math.max.name, Cond.initialized "java/lang/Math", Cond.code Lib.Math.max.name Lib.Math.max.code 2 (some .int), Cond.methodLink RX3 66 yX3_isLaw, Cond.static yX3_isLaw, Cond.initialized RX3, Cond.code yX3_isLaw cX3_isLaw 3 (some .boolean), Cond.constantLong RX3 45 (1000), Cond.constantLong RX3 25 (100), Cond.constantLong RX3 91 (50), Cond.static yX5_within, Cond.initialized RX5, Cond.code yX5_within cX5_within 6 (some .boolean), Cond.methodLink RX3 70 yX3_mean, Cond.instanceMethod yX3_mean, Cond.selects RX3 yX3_mean yX3_mean, Cond.code yX3_mean cX3_mean 1 (some .long), Cond.methodLink RX3 39 yX3_sumOf, Cond.instanceMethod yX3_sumOf, Cond.selects RX3 yX3_sumOf yX3_sumOf, Cond.code yX3_sumOf cX3_sumOf 6 (some .int), Cond.methodLink RX3 88 Lib.Math.min.name]
def wsX3_countPlaces_r2 : List Cond := [Cond.static Lib.Math.min.name, Cond.code Lib.Math.min.name Lib.Math.min.code 2 (some .int), Cond.fieldLink RX3 11 "YarnMill$Row" "cells" "[I", Cond.methodLink RX3 73 yX3_runFrom, Cond.instanceMethod yX3_runFrom, Cond.selects RX3 yX3_runFrom yX3_runFrom, Cond.code yX3_runFrom cX3_runFrom 6 (some .int)]
def wsX3_countPlaces : List Cond := .code yX3_countPlaces cX3_countPlaces 11 (some .int) :: ((wsX3_countPlaces_r1 ++ wsX3_countPlaces_r2) ++ wsX30)
def wsX3_placeFrom : List Cond := .code yX3_placeFrom cX3_placeFrom 9 (some .int) :: ([.methodLink RX3 73 yX3_runFrom, .instanceMethod yX3_runFrom, .selects RX3 yX3_runFrom yX3_runFrom, .initialized RX3, .code yX3_runFrom cX3_runFrom 6 (some .int), .fieldLink RX3 21 "YarnMill$Row" "size" "I", .fieldLink RX3 11 "YarnMill$Row" "cells" "[I", .constantLong RX3 25 (100)] ++ wsX30)
def wsX3_removePlaces_r1 : List Cond := [Cond.fieldLink RX3 21 "YarnMill$Row" "size" "I", Cond.fieldLink RX3 11 "YarnMill$Row" "cells" "[I", Cond.methodLink RX3 77 Lib.Math.max.name, Cond.static Lib.Math.max.name, Cond.initialized "java/lang/Math", Cond.code Lib.Math.max.name Lib.Math.max.code 2 (some .int), Cond.methodLink RX3 66 yX3_isLaw, Cond.static yX3_isLaw, Cond.initialized RX3, Cond.code yX3_isLaw cX3_isLaw 3 (some .boolean), Cond.constantLong RX3 45 (1000), Cond.constantLong RX3 25 (100), Cond.constantLong RX3 91 (50), Cond.static yX5_within, Cond.initialized RX5, Cond.code yX5_within cX5_within 6 (some .boolean), Cond.methodLink RX3 70 yX3_mean, Cond.instanceMethod yX3_mean, Cond.selects RX3 yX3_mean yX3_mean, Cond.code yX3_mean cX3_mean 1 (some .long), Cond.methodLink RX3 39 yX3_sumOf, Cond.instanceMethod yX3_sumOf, Cond.selects RX3 yX3_sumOf yX3_sumOf, Cond.code yX3_sumOf cX3_sumOf 6 (some .int)]
def wsX3_removePlaces_r2 : List Cond := [Cond.methodLink RX3 88 Lib.Math.min.name, Cond.static Lib.Math.min.name, Cond.code Lib.Math.min.name Lib.Math.min.code 2 (some .int), Cond.methodLink RX3 82 yX3_placeFrom, Cond.instanceMethod yX3_placeFrom, Cond.selects RX3 yX3_placeFrom yX3_placeFrom, Cond.code yX3_placeFrom cX3_placeFrom 9 (some .int), Cond.methodLink RX3 73 yX3_runFrom, Cond.instanceMethod yX3_runFrom, Cond.selects RX3 yX3_runFrom yX3_runFrom, Cond.code yX3_runFrom cX3_runFrom 6 (some .int)]
def wsX3_removePlaces : List Cond := .code yX3_removePlaces cX3_removePlaces 13 (some .int) :: ((wsX3_removePlaces_r1 ++ wsX3_removePlaces_r2) ++ wsX30)
def wsX3_mixInto : List Cond := .code yX3_mixInto cX3_mixInto 6 (some .long) :: ([.fieldLink RX3 21 "YarnMill$Row" "size" "I", .constantLong RX3 86 (31), .fieldLink RX3 11 "YarnMill$Row" "cells" "[I"] ++ wsX30)
def wsX4_init : List Cond := .code yX4_init cX4_init 1 none :: ([.methodLink RX4 3 objectInit, .instanceMethod objectInit, .code objectInit ⟨#[0xb1]⟩ 1 none, .fieldLink RX4 9 "YarnMill$Store" "each" "I", .arrayClass .int, .fieldLink RX4 15 "YarnMill$Store" "numbers" "[I", .fieldLink RX4 19 "YarnMill$Store" "order" "[I"] ++ wsX40)
def wsX4_addBale : List Cond := .code yX4_addBale cX4_addBale 2 (some .int) :: ([.constantLong RX4 22 (10000), .fieldLink RX4 28 "YarnMill$Store" "size" "I", .fieldLink RX4 31 "YarnMill$Store" "laydowns" "I", .fieldLink RX4 15 "YarnMill$Store" "numbers" "[I", .static yX5_within, .initialized RX5, .code yX5_within cX5_within 6 (some .boolean)] ++ wsX40)
def wsX4_removeAll : List Cond := .code yX4_removeAll cX4_removeAll 2 (some .int) :: ([.fieldLink RX4 28 "YarnMill$Store" "size" "I", .fieldLink RX4 31 "YarnMill$Store" "laydowns" "I"] ++ wsX40)
def wsX4_countTry : List Cond := .code yX4_countTry cX4_countTry 1 (some .boolean) :: ([.fieldLink RX4 42 "YarnMill$Store" "tried" "I", .constant RX4 63 (100000), .fieldLink RX4 45 "YarnMill$Store" "spent" "Z"] ++ wsX40)
def wsX4_fillLaydown : List Cond := .code yX4_fillLaydown cX4_fillLaydown 6 (some .boolean) :: ([.fieldLink RX4 36 "YarnMill$Store" "leastSum" "I", .fieldLink RX4 39 "YarnMill$Store" "mostSum" "I", .fieldLink RX4 28 "YarnMill$Store" "size" "I", .fieldLink RX4 19 "YarnMill$Store" "order" "[I", .fieldLink RX4 15 "YarnMill$Store" "numbers" "[I", .fieldLink RX4 45 "YarnMill$Store" "spent" "Z", .static yX5_within, .initialized RX5, .code yX5_within cX5_within 6 (some .boolean), .methodLink RX4 49 yX4_openLaydown, .instanceMethod yX4_openLaydown, .selects RX4 yX4_openLaydown yX4_openLaydown, .initialized RX4, .methodLink RX4 59 yX4_countTry, .instanceMethod yX4_countTry, .selects RX4 yX4_countTry yX4_countTry, .code yX4_countTry cX4_countTry 1 (some .boolean), .fieldLink RX4 42 "YarnMill$Store" "tried" "I", .constant RX4 63 (100000), .methodLink RX4 55 yX4_fillLaydown, .instanceMethod yX4_fillLaydown, .selects RX4 yX4_fillLaydown yX4_fillLaydown, .code yX4_openLaydown cX4_openLaydown 4 (some .boolean), .fieldLink RX4 9 "YarnMill$Store" "each" "I"] ++ wsX40)
def wsX4_openLaydown : List Cond := .code yX4_openLaydown cX4_openLaydown 4 (some .boolean) :: ([.fieldLink RX4 28 "YarnMill$Store" "size" "I", .fieldLink RX4 19 "YarnMill$Store" "order" "[I", .fieldLink RX4 9 "YarnMill$Store" "each" "I", .fieldLink RX4 15 "YarnMill$Store" "numbers" "[I", .methodLink RX4 55 yX4_fillLaydown, .instanceMethod yX4_fillLaydown, .selects RX4 yX4_fillLaydown yX4_fillLaydown, .initialized RX4, .code yX4_fillLaydown cX4_fillLaydown 6 (some .boolean), .fieldLink RX4 36 "YarnMill$Store" "leastSum" "I", .fieldLink RX4 39 "YarnMill$Store" "mostSum" "I", .fieldLink RX4 45 "YarnMill$Store" "spent" "Z", .static yX5_within, .initialized RX5, .code yX5_within cX5_within 6 (some .boolean), .methodLink RX4 49 yX4_openLaydown, .instanceMethod yX4_openLaydown, .selects RX4 yX4_openLaydown yX4_openLaydown, .methodLink RX4 59 yX4_countTry, .instanceMethod yX4_countTry, .selects RX4 yX4_countTry yX4_countTry, .code yX4_countTry cX4_countTry 1 (some .boolean), .fieldLink RX4 42 "YarnMill$Store" "tried" "I", .constant RX4 63 (100000)] ++ wsX40)
def wsX4_makePlan_r1 : List Cond := [Cond.constantLong RX4 34 (6), Cond.constantLong RX4 22 (10000), Cond.fieldLink RX4 31 "YarnMill$Store" "laydowns" "I", Cond.fieldLink RX4 28 "YarnMill$Store" "size" "I", Cond.fieldLink RX4 9 "YarnMill$Store" "each" "I", Cond.fieldLink RX4 36 "YarnMill$Store" "leastSum" "I", Cond.fieldLink RX4 39 "YarnMill$Store" "mostSum" "I", Cond.fieldLink RX4 42 "YarnMill$Store" "tried" "I", Cond.fieldLink RX4 45 "YarnMill$Store" "spent" "Z", Cond.static yX5_within, Cond.initialized RX5, Cond.code yX5_within cX5_within 6 (some .boolean), Cond.methodLink RX4 49 yX4_openLaydown, Cond.instanceMethod yX4_openLaydown, Cond.selects RX4 yX4_openLaydown yX4_openLaydown, Cond.initialized RX4, Cond.code yX4_openLaydown cX4_openLaydown 4 (some .boolean), Cond.fieldLink RX4 19 "YarnMill$Store" "order" "[I", Cond.fieldLink RX4 15 "YarnMill$Store" "numbers" "[I", Cond.methodLink RX4 55 yX4_fillLaydown, Cond.instanceMethod yX4_fillLaydown, Cond.selects RX4 yX4_fillLaydown yX4_fillLaydown, Cond.code yX4_fillLaydown cX4_fillLaydown 6 (some .boolean), Cond.methodLink RX4 59 yX4_countTry]
def wsX4_makePlan_r2 : List Cond := [Cond.instanceMethod yX4_countTry, Cond.selects RX4 yX4_countTry yX4_countTry, Cond.code yX4_countTry cX4_countTry 1 (some .boolean), Cond.constant RX4 63 (100000)]
def wsX4_makePlan : List Cond := .code yX4_makePlan cX4_makePlan 4 (some .int) :: ((wsX4_makePlan_r1 ++ wsX4_makePlan_r2) ++ wsX40)
def wsX4_planned : List Cond := .code yX4_planned cX4_planned 3 (some .int) :: ([.fieldLink RX4 31 "YarnMill$Store" "laydowns" "I", .fieldLink RX4 9 "YarnMill$Store" "each" "I", .fieldLink RX4 19 "YarnMill$Store" "order" "[I", .static yX5_within, .initialized RX5, .code yX5_within cX5_within 6 (some .boolean)] ++ wsX40)
def wsX4_mixInto : List Cond := .code yX4_mixInto cX4_mixInto 6 (some .long) :: ([.fieldLink RX4 31 "YarnMill$Store" "laydowns" "I", .fieldLink RX4 9 "YarnMill$Store" "each" "I", .constantLong RX4 53 (31), .fieldLink RX4 19 "YarnMill$Store" "order" "[I"] ++ wsX40)
def wsX5_init_r1 : List Cond := [Cond.methodLink RX5 1 objectInit, Cond.instanceMethod objectInit, Cond.code objectInit ⟨#[0xb1]⟩ 1 none, Cond.classLink RX5 7 RX1, Cond.instantiable RX1 5, Cond.initialized RX1, Cond.fieldLink RX5 10 "YarnMill" "line" "LYarnMill$Line;", Cond.classLink RX5 16 RX3, Cond.fieldLink RX5 18 "YarnMill" "rows" "[LYarnMill$Row;", Cond.instantiable RX3 2, Cond.initialized RX3, Cond.classLink RX5 23 RX4, Cond.instantiable RX4 9, Cond.initialized RX4, Cond.fieldLink RX5 26 "YarnMill" "store" "LYarnMill$Store;", Cond.methodLink RX5 9 yX1_init, Cond.instanceMethod yX1_init, Cond.code yX1_init cX1_init 2 none, Cond.methodLink RX1 3 objectInit, Cond.fieldLink RX1 9 "YarnMill$Line" "firstAbove" "I", Cond.fieldLink RX1 15 "YarnMill$Line" "firstBelow" "I", Cond.classLink RX1 18 RX2, Cond.fieldLink RX1 20 "YarnMill$Line" "machines" "[LYarnMill$Machine;", Cond.classLink RX1 24 RX0]
def wsX5_init_r2 : List Cond := [Cond.instantiable RX0 2, Cond.initialized RX0, Cond.fieldLink RX1 27 "YarnMill$Line" "told" "LYarnMill$Fraction;", Cond.instantiable RX2 6, Cond.initialized RX2, Cond.instanceMethod yX0_init, Cond.code yX0_init cX0_init 1 none, Cond.methodLink RX0 1 objectInit, Cond.fieldLink RX0 7 "YarnMill$Fraction" "above" "J", Cond.fieldLink RX0 13 "YarnMill$Fraction" "below" "J", Cond.instanceMethod yX2_init, Cond.code yX2_init cX2_init 1 none, Cond.methodLink RX2 1 objectInit, Cond.arrayClass .int, Cond.fieldLink RX2 9 "YarnMill$Machine" "rounds" "[I", Cond.instanceMethod yX3_init, Cond.code yX3_init cX3_init 1 none, Cond.methodLink RX3 3 objectInit, Cond.fieldLink RX3 11 "YarnMill$Row" "cells" "[I", Cond.instanceMethod yX4_init, Cond.code yX4_init cX4_init 1 none, Cond.methodLink RX4 3 objectInit, Cond.fieldLink RX4 9 "YarnMill$Store" "each" "I", Cond.fieldLink RX4 15 "YarnMill$Store" "numbers" "[I"]
def wsX5_init_r3 : List Cond := [Cond.fieldLink RX4 19 "YarnMill$Store" "order" "[I"]
def wsX5_init : List Cond := .code yX5_init cX5_init 2 none :: ((wsX5_init_r1 ++ (wsX5_init_r2 ++ wsX5_init_r3)) ++ wsX10 ++ wsX50 ++ wsX30 ++ wsX40 ++ wsX00 ++ wsX20)
def wsX5_count : List Cond := .code yX5_count cX5_count 3 (some .int) :: ([.fieldLink RX5 10 "YarnMill" "line" "LYarnMill$Line;", .methodLink RX5 30 yX1_setFirst, .instanceMethod yX1_setFirst, .selects RX1 yX1_setFirst yX1_setFirst, .initialized RX1, .code yX1_setFirst cX1_setFirst 3 (some .int), .constantLong RX1 32 (10000), .fieldLink RX1 9 "YarnMill$Line" "firstAbove" "I", .fieldLink RX1 15 "YarnMill$Line" "firstBelow" "I", .static yX5_within, .initialized RX5, .code yX5_within cX5_within 6 (some .boolean)] ++ wsX50 ++ wsX10)
def wsX5_machine : List Cond := .code yX5_machine cX5_machine 5 (some .int) :: ([.fieldLink RX5 10 "YarnMill" "line" "LYarnMill$Line;", .methodLink RX5 34 yX1_addMachine, .instanceMethod yX1_addMachine, .selects RX1 yX1_addMachine yX1_addMachine, .initialized RX1, .code yX1_addMachine cX1_addMachine 6 (some .int), .constantLong RX1 38 (16), .constantLong RX1 40 (60), .constantLong RX1 42 (20), .constantLong RX1 44 (500), .fieldLink RX1 46 "YarnMill$Line" "size" "I", .fieldLink RX1 20 "YarnMill$Line" "machines" "[LYarnMill$Machine;", .fieldLink RX1 49 "YarnMill$Machine" "doublings" "I", .fieldLink RX1 52 "YarnMill$Machine" "above" "I", .fieldLink RX1 55 "YarnMill$Machine" "below" "I", .fieldLink RX1 58 "YarnMill$Machine" "loss" "I", .fieldLink RX1 61 "YarnMill$Machine" "rollers" "I", .static yX5_within, .initialized RX5, .code yX5_within cX5_within 6 (some .boolean)] ++ wsX50 ++ wsX10 ++ wsX20)
def wsX5_roller : List Cond := .code yX5_roller cX5_roller 3 (some .int) :: ([.fieldLink RX5 10 "YarnMill" "line" "LYarnMill$Line;", .methodLink RX5 38 yX1_addRoller, .instanceMethod yX1_addRoller, .selects RX1 yX1_addRoller yX1_addRoller, .initialized RX1, .code yX1_addRoller cX1_addRoller 4 (some .int), .fieldLink RX1 46 "YarnMill$Line" "size" "I", .constantLong RX1 64 (1000), .fieldLink RX1 20 "YarnMill$Line" "machines" "[LYarnMill$Machine;", .fieldLink RX1 61 "YarnMill$Machine" "rollers" "I", .fieldLink RX1 66 "YarnMill$Machine" "rounds" "[I", .static yX5_within, .initialized RX5, .code yX5_within cX5_within 6 (some .boolean)] ++ wsX50 ++ wsX10 ++ wsX20)
def wsX5_clear : List Cond := .code yX5_clear cX5_clear 1 (some .int) :: ([.fieldLink RX5 10 "YarnMill" "line" "LYarnMill$Line;", .methodLink RX5 41 yX1_removeAll, .instanceMethod yX1_removeAll, .selects RX1 yX1_removeAll yX1_removeAll, .initialized RX1, .code yX1_removeAll cX1_removeAll 2 (some .int), .fieldLink RX1 46 "YarnMill$Line" "size" "I"] ++ wsX50 ++ wsX10)
def wsX5_countAt_r1 : List Cond := [Cond.fieldLink RX5 10 "YarnMill" "line" "LYarnMill$Line;", Cond.methodLink RX5 45 yX1_tellCount, Cond.instanceMethod yX1_tellCount, Cond.selects RX1 yX1_tellCount yX1_tellCount, Cond.initialized RX1, Cond.code yX1_tellCount cX1_tellCount 3 (some .long), Cond.fieldLink RX1 46 "YarnMill$Line" "size" "I", Cond.constantLong RX1 70 (-2), Cond.constantLong RX1 80 (-6), Cond.static yX5_within, Cond.initialized RX5, Cond.code yX5_within cX5_within 6 (some .boolean), Cond.methodLink RX1 72 yX1_reckonCount, Cond.instanceMethod yX1_reckonCount, Cond.selects RX1 yX1_reckonCount yX1_reckonCount, Cond.code yX1_reckonCount cX1_reckonCount 4 (some .boolean), Cond.fieldLink RX1 27 "YarnMill$Line" "told" "LYarnMill$Fraction;", Cond.fieldLink RX1 9 "YarnMill$Line" "firstAbove" "I", Cond.fieldLink RX1 15 "YarnMill$Line" "firstBelow" "I", Cond.fieldLink RX1 20 "YarnMill$Line" "machines" "[LYarnMill$Machine;", Cond.fieldLink RX1 49 "YarnMill$Machine" "doublings" "I", Cond.fieldLink RX1 58 "YarnMill$Machine" "loss" "I", Cond.fieldLink RX1 55 "YarnMill$Machine" "below" "I", Cond.constantLong RX1 64 (1000)]
def wsX5_countAt_r2 : List Cond := [Cond.fieldLink RX1 52 "YarnMill$Machine" "above" "I", Cond.fieldLink RX1 94 "YarnMill$Fraction" "above" "J", Cond.constantLong RX1 106 (1000000000000), Cond.fieldLink RX1 97 "YarnMill$Fraction" "below" "J", Cond.methodLink RX1 99 yX0_set, Cond.instanceMethod yX0_set, Cond.selects RX0 yX0_set yX0_set, Cond.initialized RX0, Cond.code yX0_set cX0_set 5 none, Cond.fieldLink RX0 7 "YarnMill$Fraction" "above" "J", Cond.fieldLink RX0 13 "YarnMill$Fraction" "below" "J", Cond.methodLink RX0 16 yX0_reduce, Cond.instanceMethod yX0_reduce, Cond.selects RX0 yX0_reduce yX0_reduce, Cond.code yX0_reduce cX0_reduce 3 none, Cond.methodLink RX0 23 yX0_commonDivisor, Cond.static yX0_commonDivisor, Cond.code yX0_commonDivisor cX0_commonDivisor 11 (some .long), Cond.methodLink RX1 103 yX0_times, Cond.instanceMethod yX0_times, Cond.selects RX0 yX0_times yX0_times, Cond.code yX0_times cX0_times 5 none, Cond.methodLink RX0 19 yX0_set, Cond.methodLink RX1 76 yX1_toldPart]
def wsX5_countAt_r3 : List Cond := [Cond.instanceMethod yX1_toldPart, Cond.selects RX1 yX1_toldPart yX1_toldPart, Cond.code yX1_toldPart cX1_toldPart 2 (some .long)]
def wsX5_countAt : List Cond := .code yX5_countAt cX5_countAt 3 (some .long) :: ((wsX5_countAt_r1 ++ (wsX5_countAt_r2 ++ wsX5_countAt_r3)) ++ wsX50 ++ wsX10 ++ wsX20 ++ wsX00)
def wsX5_period_r1 : List Cond := [Cond.fieldLink RX5 10 "YarnMill" "line" "LYarnMill$Line;", Cond.methodLink RX5 49 yX1_tellPeriod, Cond.instanceMethod yX1_tellPeriod, Cond.selects RX1 yX1_tellPeriod yX1_tellPeriod, Cond.initialized RX1, Cond.code yX1_tellPeriod cX1_tellPeriod 4 (some .long), Cond.fieldLink RX1 46 "YarnMill$Line" "size" "I", Cond.fieldLink RX1 20 "YarnMill$Line" "machines" "[LYarnMill$Machine;", Cond.fieldLink RX1 61 "YarnMill$Machine" "rollers" "I", Cond.constantLong RX1 70 (-2), Cond.static yX5_within, Cond.initialized RX5, Cond.code yX5_within cX5_within 6 (some .boolean), Cond.methodLink RX1 82 yX1_reckonPeriod, Cond.instanceMethod yX1_reckonPeriod, Cond.selects RX1 yX1_reckonPeriod yX1_reckonPeriod, Cond.code yX1_reckonPeriod cX1_reckonPeriod 4 none, Cond.fieldLink RX1 27 "YarnMill$Line" "told" "LYarnMill$Fraction;", Cond.fieldLink RX1 66 "YarnMill$Machine" "rounds" "[I", Cond.fieldLink RX1 52 "YarnMill$Machine" "above" "I", Cond.fieldLink RX1 55 "YarnMill$Machine" "below" "I", Cond.methodLink RX1 99 yX0_set, Cond.instanceMethod yX0_set, Cond.selects RX0 yX0_set yX0_set]
def wsX5_period_r2 : List Cond := [Cond.initialized RX0, Cond.code yX0_set cX0_set 5 none, Cond.fieldLink RX0 7 "YarnMill$Fraction" "above" "J", Cond.fieldLink RX0 13 "YarnMill$Fraction" "below" "J", Cond.methodLink RX0 16 yX0_reduce, Cond.instanceMethod yX0_reduce, Cond.selects RX0 yX0_reduce yX0_reduce, Cond.code yX0_reduce cX0_reduce 3 none, Cond.methodLink RX0 23 yX0_commonDivisor, Cond.static yX0_commonDivisor, Cond.code yX0_commonDivisor cX0_commonDivisor 11 (some .long), Cond.methodLink RX1 103 yX0_times, Cond.instanceMethod yX0_times, Cond.selects RX0 yX0_times yX0_times, Cond.code yX0_times cX0_times 5 none, Cond.methodLink RX0 19 yX0_set, Cond.methodLink RX1 76 yX1_toldPart, Cond.instanceMethod yX1_toldPart, Cond.selects RX1 yX1_toldPart yX1_toldPart, Cond.code yX1_toldPart cX1_toldPart 2 (some .long), Cond.fieldLink RX1 94 "YarnMill$Fraction" "above" "J", Cond.fieldLink RX1 97 "YarnMill$Fraction" "below" "J"]
def wsX5_period : List Cond := .code yX5_period cX5_period 4 (some .long) :: ((wsX5_period_r1 ++ wsX5_period_r2) ++ wsX50 ++ wsX10 ++ wsX20 ++ wsX00)
def wsX5_names_r1 : List Cond := [Cond.fieldLink RX5 10 "YarnMill" "line" "LYarnMill$Line;", Cond.methodLink RX5 53 yX1_findNear, Cond.instanceMethod yX1_findNear, Cond.selects RX1 yX1_findNear yX1_findNear, Cond.initialized RX1, Cond.code yX1_findNear cX1_findNear 7 (some .int), Cond.constantLong RX1 86 (1000000), Cond.constantLong RX1 88 (999), Cond.fieldLink RX1 46 "YarnMill$Line" "size" "I", Cond.fieldLink RX1 20 "YarnMill$Line" "machines" "[LYarnMill$Machine;", Cond.fieldLink RX1 61 "YarnMill$Machine" "rollers" "I", Cond.static yX5_within, Cond.initialized RX5, Cond.code yX5_within cX5_within 6 (some .boolean), Cond.methodLink RX1 90 yX1_isNear, Cond.instanceMethod yX1_isNear, Cond.selects RX1 yX1_isNear yX1_isNear, Cond.code yX1_isNear cX1_isNear 7 (some .boolean), Cond.fieldLink RX1 27 "YarnMill$Line" "told" "LYarnMill$Fraction;", Cond.fieldLink RX1 97 "YarnMill$Fraction" "below" "J", Cond.constantLong RX1 64 (1000), Cond.fieldLink RX1 94 "YarnMill$Fraction" "above" "J", Cond.methodLink RX1 82 yX1_reckonPeriod, Cond.instanceMethod yX1_reckonPeriod]
def wsX5_names_r2 : List Cond := [Cond.selects RX1 yX1_reckonPeriod yX1_reckonPeriod, Cond.code yX1_reckonPeriod cX1_reckonPeriod 4 none, Cond.fieldLink RX1 66 "YarnMill$Machine" "rounds" "[I", Cond.fieldLink RX1 52 "YarnMill$Machine" "above" "I", Cond.fieldLink RX1 55 "YarnMill$Machine" "below" "I", Cond.methodLink RX1 99 yX0_set, Cond.instanceMethod yX0_set, Cond.selects RX0 yX0_set yX0_set, Cond.initialized RX0, Cond.code yX0_set cX0_set 5 none, Cond.fieldLink RX0 7 "YarnMill$Fraction" "above" "J", Cond.fieldLink RX0 13 "YarnMill$Fraction" "below" "J", Cond.methodLink RX0 16 yX0_reduce, Cond.instanceMethod yX0_reduce, Cond.selects RX0 yX0_reduce yX0_reduce, Cond.code yX0_reduce cX0_reduce 3 none, Cond.methodLink RX0 23 yX0_commonDivisor, Cond.static yX0_commonDivisor, Cond.code yX0_commonDivisor cX0_commonDivisor 11 (some .long), Cond.methodLink RX1 103 yX0_times, Cond.instanceMethod yX0_times, Cond.selects RX0 yX0_times yX0_times, Cond.code yX0_times cX0_times 5 none, Cond.methodLink RX0 19 yX0_set]
def wsX5_names : List Cond := .code yX5_names cX5_names 4 (some .int) :: ((wsX5_names_r1 ++ wsX5_names_r2) ++ wsX50 ++ wsX10 ++ wsX20 ++ wsX00)
def wsX5_rowOrNull : List Cond := .code yX5_rowOrNull cX5_rowOrNull 2 (some (.object "YarnMill$Row")) :: ([.constantLong RX5 143 (7), .fieldLink RX5 18 "YarnMill" "rows" "[LYarnMill$Row;", .methodLink RX5 145 yX5_within, .static yX5_within, .initialized RX5, .code yX5_within cX5_within 6 (some .boolean)] ++ wsX50)
def wsX5_cell : List Cond := .code yX5_cell cX5_cell 4 (some .int) :: ([.methodLink RX5 57 yX5_rowOrNull, .instanceMethod yX5_rowOrNull, .selects RX5 yX5_rowOrNull yX5_rowOrNull, .initialized RX5, .code yX5_rowOrNull cX5_rowOrNull 2 (some (.object "YarnMill$Row")), .constantLong RX5 143 (7), .fieldLink RX5 18 "YarnMill" "rows" "[LYarnMill$Row;", .methodLink RX5 145 yX5_within, .static yX5_within, .code yX5_within cX5_within 6 (some .boolean), .methodLink RX5 61 yX3_addCell, .instanceMethod yX3_addCell, .selects RX3 yX3_addCell yX3_addCell, .initialized RX3, .code yX3_addCell cX3_addCell 2 (some .int), .constantLong RX3 15 (1000000), .fieldLink RX3 21 "YarnMill$Row" "size" "I", .fieldLink RX3 11 "YarnMill$Row" "cells" "[I"] ++ wsX50 ++ wsX30)
def wsX5_draw : List Cond := .code yX5_draw cX5_draw 7 (some .int) :: ([.methodLink RX5 57 yX5_rowOrNull, .instanceMethod yX5_rowOrNull, .selects RX5 yX5_rowOrNull yX5_rowOrNull, .initialized RX5, .code yX5_rowOrNull cX5_rowOrNull 2 (some (.object "YarnMill$Row")), .constantLong RX5 143 (7), .fieldLink RX5 18 "YarnMill" "rows" "[LYarnMill$Row;", .methodLink RX5 145 yX5_within, .static yX5_within, .code yX5_within cX5_within 6 (some .boolean), .methodLink RX5 65 yX3_addDrawn, .instanceMethod yX3_addDrawn, .selects RX3 yX3_addDrawn yX3_addDrawn, .initialized RX3, .code yX3_addDrawn cX3_addDrawn 7 (some .int), .constantLong RX3 25 (100), .constantLong RX3 27 (10000), .fieldLink RX3 21 "YarnMill$Row" "size" "I", .constant RX3 29 (1103515245), .constant RX3 30 (2147483647), .fieldLink RX3 11 "YarnMill$Row" "cells" "[I", .constant RX3 31 (65536)] ++ wsX50 ++ wsX30)
def wsX5_empty : List Cond := .code yX5_empty cX5_empty 3 (some .int) :: ([.methodLink RX5 57 yX5_rowOrNull, .instanceMethod yX5_rowOrNull, .selects RX5 yX5_rowOrNull yX5_rowOrNull, .initialized RX5, .code yX5_rowOrNull cX5_rowOrNull 2 (some (.object "YarnMill$Row")), .constantLong RX5 143 (7), .fieldLink RX5 18 "YarnMill" "rows" "[LYarnMill$Row;", .methodLink RX5 145 yX5_within, .static yX5_within, .code yX5_within cX5_within 6 (some .boolean), .methodLink RX5 68 yX3_removeAll, .instanceMethod yX3_removeAll, .selects RX3 yX3_removeAll yX3_removeAll, .initialized RX3, .code yX3_removeAll cX3_removeAll 2 (some .int), .fieldLink RX3 21 "YarnMill$Row" "size" "I"] ++ wsX50 ++ wsX30)
def wsX5_at : List Cond := .code yX5_at cX5_at 4 (some .int) :: ([.methodLink RX5 57 yX5_rowOrNull, .instanceMethod yX5_rowOrNull, .selects RX5 yX5_rowOrNull yX5_rowOrNull, .initialized RX5, .code yX5_rowOrNull cX5_rowOrNull 2 (some (.object "YarnMill$Row")), .constantLong RX5 143 (7), .fieldLink RX5 18 "YarnMill" "rows" "[LYarnMill$Row;", .methodLink RX5 145 yX5_within, .static yX5_within, .code yX5_within cX5_within 6 (some .boolean), .methodLink RX5 69 yX3_massAt, .instanceMethod yX3_massAt, .selects RX3 yX3_massAt yX3_massAt, .initialized RX3, .code yX3_massAt cX3_massAt 2 (some .int), .fieldLink RX3 21 "YarnMill$Row" "size" "I", .fieldLink RX3 11 "YarnMill$Row" "cells" "[I"] ++ wsX50 ++ wsX30)
def wsX5_join : List Cond := .code yX5_join cX5_join 5 (some .int) :: ([.methodLink RX5 57 yX5_rowOrNull, .instanceMethod yX5_rowOrNull, .selects RX5 yX5_rowOrNull yX5_rowOrNull, .initialized RX5, .code yX5_rowOrNull cX5_rowOrNull 2 (some (.object "YarnMill$Row")), .constantLong RX5 143 (7), .fieldLink RX5 18 "YarnMill" "rows" "[LYarnMill$Row;", .methodLink RX5 145 yX5_within, .static yX5_within, .code yX5_within cX5_within 6 (some .boolean), .methodLink RX5 72 yX3_addRow, .instanceMethod yX3_addRow, .selects RX3 yX3_addRow yX3_addRow, .initialized RX3, .code yX3_addRow cX3_addRow 3 (some .int), .fieldLink RX3 21 "YarnMill$Row" "size" "I", .fieldLink RX3 11 "YarnMill$Row" "cells" "[I", .constant RX3 32 (1000000)] ++ wsX50 ++ wsX30)
def wsX5_stretch : List Cond := .code yX5_stretch cX5_stretch 4 (some .int) :: ([.methodLink RX5 57 yX5_rowOrNull, .instanceMethod yX5_rowOrNull, .selects RX5 yX5_rowOrNull yX5_rowOrNull, .initialized RX5, .code yX5_rowOrNull cX5_rowOrNull 2 (some (.object "YarnMill$Row")), .constantLong RX5 143 (7), .fieldLink RX5 18 "YarnMill" "rows" "[LYarnMill$Row;", .methodLink RX5 145 yX5_within, .static yX5_within, .code yX5_within cX5_within 6 (some .boolean), .methodLink RX5 76 yX3_stretchBy, .instanceMethod yX3_stretchBy, .selects RX3 yX3_stretchBy yX3_stretchBy, .initialized RX3, .code yX3_stretchBy cX3_stretchBy 6 (some .int), .constantLong RX3 33 (2), .constantLong RX3 35 (8), .fieldLink RX3 21 "YarnMill$Row" "size" "I", .fieldLink RX3 11 "YarnMill$Row" "cells" "[I"] ++ wsX50 ++ wsX30)
def wsX5_gather_r1 : List Cond := [Cond.methodLink RX5 57 yX5_rowOrNull, Cond.instanceMethod yX5_rowOrNull, Cond.selects RX5 yX5_rowOrNull yX5_rowOrNull, Cond.initialized RX5, Cond.code yX5_rowOrNull cX5_rowOrNull 2 (some (.object "YarnMill$Row")), Cond.constantLong RX5 143 (7), Cond.fieldLink RX5 18 "YarnMill" "rows" "[LYarnMill$Row;", Cond.methodLink RX5 145 yX5_within, Cond.static yX5_within, Cond.code yX5_within cX5_within 6 (some .boolean), Cond.methodLink RX5 79 yX3_gatherBy, Cond.instanceMethod yX3_gatherBy, Cond.selects RX3 yX3_gatherBy yX3_gatherBy, Cond.initialized RX3, Cond.code yX3_gatherBy cX3_gatherBy 4 (some .int), Cond.constantLong RX3 33 (2), Cond.constantLong RX3 37 (20), Cond.fieldLink RX3 21 "YarnMill$Row" "size" "I", Cond.constant RX3 32 (1000000), Cond.fieldLink RX3 11 "YarnMill$Row" "cells" "[I", Cond.methodLink RX3 39 yX3_sumOf, Cond.instanceMethod yX3_sumOf, Cond.selects RX3 yX3_sumOf yX3_sumOf, Cond.code yX3_sumOf cX3_sumOf 6 (some .int)]
def wsX5_gather_r2 : List Cond := [Cond.methodLink RX3 88 Lib.Math.min.name, Cond.static Lib.Math.min.name, Cond.initialized "java/lang/Math", Cond.code Lib.Math.min.name Lib.Math.min.code 2 (some .int)]
def wsX5_gather : List Cond := .code yX5_gather cX5_gather 4 (some .int) :: ((wsX5_gather_r1 ++ wsX5_gather_r2) ++ wsX50 ++ wsX30)
def wsX5_fault_r1 : List Cond := [Cond.methodLink RX5 57 yX5_rowOrNull, Cond.instanceMethod yX5_rowOrNull, Cond.selects RX5 yX5_rowOrNull yX5_rowOrNull, Cond.initialized RX5, Cond.code yX5_rowOrNull cX5_rowOrNull 2 (some (.object "YarnMill$Row")), Cond.constantLong RX5 143 (7), Cond.fieldLink RX5 18 "YarnMill" "rows" "[LYarnMill$Row;", Cond.methodLink RX5 145 yX5_within, Cond.static yX5_within, Cond.code yX5_within cX5_within 6 (some .boolean), Cond.methodLink RX5 82 yX3_faultBy, Cond.instanceMethod yX3_faultBy, Cond.selects RX3 yX3_faultBy yX3_faultBy, Cond.initialized RX3, Cond.code yX3_faultBy cX3_faultBy 8 (some .int), Cond.constantLong RX3 33 (2), Cond.constantLong RX3 43 (400), Cond.constantLong RX3 45 (1000), Cond.fieldLink RX3 21 "YarnMill$Row" "size" "I", Cond.fieldLink RX3 11 "YarnMill$Row" "cells" "[I", Cond.constant RX3 32 (1000000), Cond.methodLink RX3 47 yX3_given, Cond.instanceMethod yX3_given, Cond.selects RX3 yX3_given yX3_given]
def wsX5_fault_r2 : List Cond := [Cond.code yX3_given cX3_given 3 (some .int)]
def wsX5_fault : List Cond := .code yX5_fault cX5_fault 5 (some .int) :: ((wsX5_fault_r1 ++ wsX5_fault_r2) ++ wsX50 ++ wsX30)
def wsX5_about_r1 : List Cond := [Cond.constantLong RX5 85 (-1), Cond.methodLink RX5 57 yX5_rowOrNull, Cond.instanceMethod yX5_rowOrNull, Cond.selects RX5 yX5_rowOrNull yX5_rowOrNull, Cond.initialized RX5, Cond.code yX5_rowOrNull cX5_rowOrNull 2 (some (.object "YarnMill$Row")), Cond.constantLong RX5 143 (7), Cond.fieldLink RX5 18 "YarnMill" "rows" "[LYarnMill$Row;", Cond.methodLink RX5 145 yX5_within, Cond.static yX5_within, Cond.code yX5_within cX5_within 6 (some .boolean), Cond.methodLink RX5 87 yX3_measure, Cond.instanceMethod yX3_measure, Cond.selects RX3 yX3_measure yX3_measure, Cond.initialized RX3, Cond.code yX3_measure cX3_measure 2 (some .long), Cond.fieldLink RX3 21 "YarnMill$Row" "size" "I", Cond.constantLong RX3 54 (-1), Cond.methodLink RX3 39 yX3_sumOf, Cond.instanceMethod yX3_sumOf, Cond.selects RX3 yX3_sumOf yX3_sumOf, Cond.code yX3_sumOf cX3_sumOf 6 (some .int), Cond.methodLink RX3 88 Lib.Math.min.name, Cond.static Lib.Math.min.name]
def wsX5_about_r2 : List Cond := [Cond.initialized "java/lang/Math", Cond.code Lib.Math.min.name Lib.Math.min.code 2 (some .int), Cond.fieldLink RX3 11 "YarnMill$Row" "cells" "[I", Cond.methodLink RX3 50 yX3_unevenness, Cond.instanceMethod yX3_unevenness, Cond.selects RX3 yX3_unevenness yX3_unevenness, Cond.code yX3_unevenness cX3_unevenness 5 (some .long)]
def wsX5_about : List Cond := .code yX5_about cX5_about 4 (some .long) :: ((wsX5_about_r1 ++ wsX5_about_r2) ++ wsX50 ++ wsX30)
def wsX5_wave : List Cond := .code yX5_wave cX5_wave 4 (some .long) :: ([.constantLong RX5 85 (-1), .methodLink RX5 57 yX5_rowOrNull, .instanceMethod yX5_rowOrNull, .selects RX5 yX5_rowOrNull yX5_rowOrNull, .initialized RX5, .code yX5_rowOrNull cX5_rowOrNull 2 (some (.object "YarnMill$Row")), .constantLong RX5 143 (7), .fieldLink RX5 18 "YarnMill" "rows" "[LYarnMill$Row;", .methodLink RX5 145 yX5_within, .static yX5_within, .code yX5_within cX5_within 6 (some .boolean), .methodLink RX5 91 yX3_waveAt, .instanceMethod yX3_waveAt, .selects RX3 yX3_waveAt yX3_waveAt, .initialized RX3, .code yX3_waveAt cX3_waveAt 11 (some .long), .constantLong RX3 33 (2), .constantLong RX3 56 (200), .constantLong RX3 54 (-1), .fieldLink RX3 21 "YarnMill$Row" "size" "I", .fieldLink RX3 11 "YarnMill$Row" "cells" "[I"] ++ wsX50 ++ wsX30)
def wsX5_greatest_r1 : List Cond := [Cond.methodLink RX5 57 yX5_rowOrNull, Cond.instanceMethod yX5_rowOrNull, Cond.selects RX5 yX5_rowOrNull yX5_rowOrNull, Cond.initialized RX5, Cond.code yX5_rowOrNull cX5_rowOrNull 2 (some (.object "YarnMill$Row")), Cond.constantLong RX5 143 (7), Cond.fieldLink RX5 18 "YarnMill" "rows" "[LYarnMill$Row;", Cond.methodLink RX5 145 yX5_within, Cond.static yX5_within, Cond.code yX5_within cX5_within 6 (some .boolean), Cond.methodLink RX5 94 yX3_greatestUpTo, Cond.instanceMethod yX3_greatestUpTo, Cond.selects RX3 yX3_greatestUpTo yX3_greatestUpTo, Cond.initialized RX3, Cond.code yX3_greatestUpTo cX3_greatestUpTo 12 (some .int), Cond.constantLong RX3 33 (2), Cond.constantLong RX3 56 (200), Cond.fieldLink RX3 21 "YarnMill$Row" "size" "I", Cond.methodLink RX3 58 yX3_waveAt, Cond.instanceMethod yX3_waveAt, Cond.selects RX3 yX3_waveAt yX3_waveAt, Cond.code yX3_waveAt cX3_waveAt 11 (some .long), Cond.constantLong RX3 54 (-1), Cond.fieldLink RX3 11 "YarnMill$Row" "cells" "[I"]
def wsX5_greatest_r2 : List Cond := [Cond.methodLink RX3 62 yX3_isGreater, Cond.static yX3_isGreater, Cond.code yX3_isGreater cX3_isGreater 8 (some .boolean)]
def wsX5_greatest : List Cond := .code yX5_greatest cX5_greatest 4 (some .int) :: ((wsX5_greatest_r1 ++ wsX5_greatest_r2) ++ wsX50 ++ wsX30)
def wsX5_places_r1 : List Cond := [Cond.methodLink RX5 57 yX5_rowOrNull, Cond.instanceMethod yX5_rowOrNull, Cond.selects RX5 yX5_rowOrNull yX5_rowOrNull, Cond.initialized RX5, Cond.code yX5_rowOrNull cX5_rowOrNull 2 (some (.object "YarnMill$Row")), Cond.constantLong RX5 143 (7), Cond.fieldLink RX5 18 "YarnMill" "rows" "[LYarnMill$Row;", Cond.methodLink RX5 145 yX5_within, Cond.static yX5_within, Cond.code yX5_within cX5_within 6 (some .boolean), Cond.methodLink RX5 97 yX3_countPlaces, Cond.instanceMethod yX3_countPlaces, Cond.selects RX3 yX3_countPlaces yX3_countPlaces, Cond.initialized RX3, Cond.code yX3_countPlaces cX3_countPlaces 11 (some .int), Cond.fieldLink RX3 21 "YarnMill$Row" "size" "I", Cond.methodLink RX3 77 Lib.Math.max.name, Cond.static Lib.Math.max.name, Cond.initialized "java/lang/Math", Cond.code Lib.Math.max.name Lib.Math.max.code 2 (some .int), Cond.methodLink RX3 66 yX3_isLaw, Cond.static yX3_isLaw, Cond.code yX3_isLaw cX3_isLaw 3 (some .boolean), Cond.constantLong RX3 45 (1000)]
def wsX5_places_r2 : List Cond := [Cond.constantLong RX3 25 (100), Cond.constantLong RX3 91 (50), Cond.methodLink RX3 70 yX3_mean, Cond.instanceMethod yX3_mean, Cond.selects RX3 yX3_mean yX3_mean, Cond.code yX3_mean cX3_mean 1 (some .long), Cond.methodLink RX3 39 yX3_sumOf, Cond.instanceMethod yX3_sumOf, Cond.selects RX3 yX3_sumOf yX3_sumOf, Cond.code yX3_sumOf cX3_sumOf 6 (some .int), Cond.methodLink RX3 88 Lib.Math.min.name, Cond.static Lib.Math.min.name, Cond.code Lib.Math.min.name Lib.Math.min.code 2 (some .int), Cond.fieldLink RX3 11 "YarnMill$Row" "cells" "[I", Cond.methodLink RX3 73 yX3_runFrom, Cond.instanceMethod yX3_runFrom, Cond.selects RX3 yX3_runFrom yX3_runFrom, Cond.code yX3_runFrom cX3_runFrom 6 (some .int)]
def wsX5_places : List Cond := .code yX5_places cX5_places 7 (some .int) :: ((wsX5_places_r1 ++ wsX5_places_r2) ++ wsX50 ++ wsX30)
def wsX5_cleared_r1 : List Cond := [Cond.methodLink RX5 57 yX5_rowOrNull, Cond.instanceMethod yX5_rowOrNull, Cond.selects RX5 yX5_rowOrNull yX5_rowOrNull, Cond.initialized RX5, Cond.code yX5_rowOrNull cX5_rowOrNull 2 (some (.object "YarnMill$Row")), Cond.constantLong RX5 143 (7), Cond.fieldLink RX5 18 "YarnMill" "rows" "[LYarnMill$Row;", Cond.methodLink RX5 145 yX5_within, Cond.static yX5_within, Cond.code yX5_within cX5_within 6 (some .boolean), Cond.methodLink RX5 100 yX3_removePlaces, Cond.instanceMethod yX3_removePlaces, Cond.selects RX3 yX3_removePlaces yX3_removePlaces, Cond.initialized RX3, Cond.code yX3_removePlaces cX3_removePlaces 13 (some .int), Cond.fieldLink RX3 21 "YarnMill$Row" "size" "I", Cond.fieldLink RX3 11 "YarnMill$Row" "cells" "[I", Cond.methodLink RX3 77 Lib.Math.max.name, Cond.static Lib.Math.max.name, Cond.initialized "java/lang/Math", Cond.code Lib.Math.max.name Lib.Math.max.code 2 (some .int), Cond.methodLink RX3 66 yX3_isLaw, Cond.static yX3_isLaw, Cond.code yX3_isLaw cX3_isLaw 3 (some .boolean)]
def wsX5_cleared_r2 : List Cond := [Cond.constantLong RX3 45 (1000), Cond.constantLong RX3 25 (100), Cond.constantLong RX3 91 (50), Cond.methodLink RX3 70 yX3_mean, Cond.instanceMethod yX3_mean, Cond.selects RX3 yX3_mean yX3_mean, Cond.code yX3_mean cX3_mean 1 (some .long), Cond.methodLink RX3 39 yX3_sumOf, Cond.instanceMethod yX3_sumOf, Cond.selects RX3 yX3_sumOf yX3_sumOf, Cond.code yX3_sumOf cX3_sumOf 6 (some .int), Cond.methodLink RX3 88 Lib.Math.min.name, Cond.static Lib.Math.min.name, Cond.code Lib.Math.min.name Lib.Math.min.code 2 (some .int), Cond.methodLink RX3 82 yX3_placeFrom, Cond.instanceMethod yX3_placeFrom, Cond.selects RX3 yX3_placeFrom yX3_placeFrom, Cond.code yX3_placeFrom cX3_placeFrom 9 (some .int), Cond.methodLink RX3 73 yX3_runFrom, Cond.instanceMethod yX3_runFrom, Cond.selects RX3 yX3_runFrom yX3_runFrom, Cond.code yX3_runFrom cX3_runFrom 6 (some .int)]
def wsX5_cleared : List Cond := .code yX5_cleared cX5_cleared 6 (some .int) :: ((wsX5_cleared_r1 ++ wsX5_cleared_r2) ++ wsX50 ++ wsX30)
def wsX5_bale : List Cond := .code yX5_bale cX5_bale 2 (some .int) :: ([.fieldLink RX5 26 "YarnMill" "store" "LYarnMill$Store;", .methodLink RX5 103 yX4_addBale, .instanceMethod yX4_addBale, .selects RX4 yX4_addBale yX4_addBale, .initialized RX4, .code yX4_addBale cX4_addBale 2 (some .int), .constantLong RX4 22 (10000), .fieldLink RX4 28 "YarnMill$Store" "size" "I", .fieldLink RX4 31 "YarnMill$Store" "laydowns" "I", .fieldLink RX4 15 "YarnMill$Store" "numbers" "[I", .static yX5_within, .initialized RX5, .code yX5_within cX5_within 6 (some .boolean)] ++ wsX50 ++ wsX40)
def wsX5_clearBales : List Cond := .code yX5_clearBales cX5_clearBales 1 (some .int) :: ([.fieldLink RX5 26 "YarnMill" "store" "LYarnMill$Store;", .methodLink RX5 106 yX4_removeAll, .instanceMethod yX4_removeAll, .selects RX4 yX4_removeAll yX4_removeAll, .initialized RX4, .code yX4_removeAll cX4_removeAll 2 (some .int), .fieldLink RX4 28 "YarnMill$Store" "size" "I", .fieldLink RX4 31 "YarnMill$Store" "laydowns" "I"] ++ wsX50 ++ wsX40)
def wsX5_plan_r1 : List Cond := [Cond.fieldLink RX5 26 "YarnMill" "store" "LYarnMill$Store;", Cond.methodLink RX5 107 yX4_makePlan, Cond.instanceMethod yX4_makePlan, Cond.selects RX4 yX4_makePlan yX4_makePlan, Cond.initialized RX4, Cond.code yX4_makePlan cX4_makePlan 4 (some .int), Cond.constantLong RX4 34 (6), Cond.constantLong RX4 22 (10000), Cond.fieldLink RX4 31 "YarnMill$Store" "laydowns" "I", Cond.fieldLink RX4 28 "YarnMill$Store" "size" "I", Cond.fieldLink RX4 9 "YarnMill$Store" "each" "I", Cond.fieldLink RX4 36 "YarnMill$Store" "leastSum" "I", Cond.fieldLink RX4 39 "YarnMill$Store" "mostSum" "I", Cond.fieldLink RX4 42 "YarnMill$Store" "tried" "I", Cond.fieldLink RX4 45 "YarnMill$Store" "spent" "Z", Cond.static yX5_within, Cond.initialized RX5, Cond.code yX5_within cX5_within 6 (some .boolean), Cond.methodLink RX4 49 yX4_openLaydown, Cond.instanceMethod yX4_openLaydown, Cond.selects RX4 yX4_openLaydown yX4_openLaydown, Cond.code yX4_openLaydown cX4_openLaydown 4 (some .boolean), Cond.fieldLink RX4 19 "YarnMill$Store" "order" "[I", Cond.fieldLink RX4 15 "YarnMill$Store" "numbers" "[I"]
def wsX5_plan_r2 : List Cond := [Cond.methodLink RX4 55 yX4_fillLaydown, Cond.instanceMethod yX4_fillLaydown, Cond.selects RX4 yX4_fillLaydown yX4_fillLaydown, Cond.code yX4_fillLaydown cX4_fillLaydown 6 (some .boolean), Cond.methodLink RX4 59 yX4_countTry, Cond.instanceMethod yX4_countTry, Cond.selects RX4 yX4_countTry yX4_countTry, Cond.code yX4_countTry cX4_countTry 1 (some .boolean), Cond.constant RX4 63 (100000)]
def wsX5_plan : List Cond := .code yX5_plan cX5_plan 4 (some .int) :: ((wsX5_plan_r1 ++ wsX5_plan_r2) ++ wsX50 ++ wsX40)
def wsX5_planAt : List Cond := .code yX5_planAt cX5_planAt 3 (some .int) :: ([.fieldLink RX5 26 "YarnMill" "store" "LYarnMill$Store;", .methodLink RX5 110 yX4_planned, .instanceMethod yX4_planned, .selects RX4 yX4_planned yX4_planned, .initialized RX4, .code yX4_planned cX4_planned 3 (some .int), .fieldLink RX4 31 "YarnMill$Store" "laydowns" "I", .fieldLink RX4 9 "YarnMill$Store" "each" "I", .fieldLink RX4 19 "YarnMill$Store" "order" "[I", .static yX5_within, .initialized RX5, .code yX5_within cX5_within 6 (some .boolean)] ++ wsX50 ++ wsX40)
def wsX5_tries : List Cond := .code yX5_tries cX5_tries 1 (some .int) :: ([.fieldLink RX5 26 "YarnMill" "store" "LYarnMill$Store;", .fieldLink RX5 113 "YarnMill$Store" "tried" "I"] ++ wsX50 ++ wsX40)
def wsX5_countCells : List Cond := .code yX5_countCells cX5_countCells 3 (some .int) :: ([.fieldLink RX5 18 "YarnMill" "rows" "[LYarnMill$Row;", .fieldLink RX5 142 "YarnMill$Row" "size" "I"] ++ wsX50 ++ wsX30)
def wsX5_many : List Cond := .code yX5_many cX5_many 2 (some .int) :: ([.fieldLink RX5 10 "YarnMill" "line" "LYarnMill$Line;", .fieldLink RX5 117 "YarnMill$Line" "size" "I", .fieldLink RX5 26 "YarnMill" "store" "LYarnMill$Store;", .fieldLink RX5 123 "YarnMill$Store" "size" "I", .fieldLink RX5 124 "YarnMill$Store" "laydowns" "I", .methodLink RX5 120 yX1_countRollers, .instanceMethod yX1_countRollers, .selects RX1 yX1_countRollers yX1_countRollers, .initialized RX1, .code yX1_countRollers cX1_countRollers 3 (some .int), .fieldLink RX1 46 "YarnMill$Line" "size" "I", .fieldLink RX1 20 "YarnMill$Line" "machines" "[LYarnMill$Machine;", .fieldLink RX1 61 "YarnMill$Machine" "rollers" "I", .methodLink RX5 127 yX5_countCells, .instanceMethod yX5_countCells, .selects RX5 yX5_countCells yX5_countCells, .initialized RX5, .code yX5_countCells cX5_countCells 3 (some .int), .fieldLink RX5 18 "YarnMill" "rows" "[LYarnMill$Row;", .fieldLink RX5 142 "YarnMill$Row" "size" "I"] ++ wsX50 ++ wsX10 ++ wsX40 ++ wsX20 ++ wsX30)
def wsX5_digest_r1 : List Cond := [Cond.constantLong RX5 130 (149), Cond.constantLong RX5 132 (31), Cond.fieldLink RX5 10 "YarnMill" "line" "LYarnMill$Line;", Cond.fieldLink RX5 117 "YarnMill$Line" "size" "I", Cond.fieldLink RX5 18 "YarnMill" "rows" "[LYarnMill$Row;", Cond.fieldLink RX5 26 "YarnMill" "store" "LYarnMill$Store;", Cond.methodLink RX5 134 yX5_many, Cond.instanceMethod yX5_many, Cond.selects RX5 yX5_many yX5_many, Cond.initialized RX5, Cond.code yX5_many cX5_many 2 (some .int), Cond.fieldLink RX5 123 "YarnMill$Store" "size" "I", Cond.fieldLink RX5 124 "YarnMill$Store" "laydowns" "I", Cond.methodLink RX5 120 yX1_countRollers, Cond.instanceMethod yX1_countRollers, Cond.selects RX1 yX1_countRollers yX1_countRollers, Cond.initialized RX1, Cond.code yX1_countRollers cX1_countRollers 3 (some .int), Cond.fieldLink RX1 46 "YarnMill$Line" "size" "I", Cond.fieldLink RX1 20 "YarnMill$Line" "machines" "[LYarnMill$Machine;", Cond.fieldLink RX1 61 "YarnMill$Machine" "rollers" "I", Cond.methodLink RX5 127 yX5_countCells, Cond.instanceMethod yX5_countCells, Cond.selects RX5 yX5_countCells yX5_countCells]
def wsX5_digest_r2 : List Cond := [Cond.code yX5_countCells cX5_countCells 3 (some .int), Cond.fieldLink RX5 142 "YarnMill$Row" "size" "I", Cond.methodLink RX5 45 yX1_tellCount, Cond.instanceMethod yX1_tellCount, Cond.selects RX1 yX1_tellCount yX1_tellCount, Cond.code yX1_tellCount cX1_tellCount 3 (some .long), Cond.constantLong RX1 70 (-2), Cond.constantLong RX1 80 (-6), Cond.static yX5_within, Cond.code yX5_within cX5_within 6 (some .boolean), Cond.methodLink RX1 72 yX1_reckonCount, Cond.instanceMethod yX1_reckonCount, Cond.selects RX1 yX1_reckonCount yX1_reckonCount, Cond.code yX1_reckonCount cX1_reckonCount 4 (some .boolean), Cond.fieldLink RX1 27 "YarnMill$Line" "told" "LYarnMill$Fraction;", Cond.fieldLink RX1 9 "YarnMill$Line" "firstAbove" "I", Cond.fieldLink RX1 15 "YarnMill$Line" "firstBelow" "I", Cond.fieldLink RX1 49 "YarnMill$Machine" "doublings" "I", Cond.fieldLink RX1 58 "YarnMill$Machine" "loss" "I", Cond.fieldLink RX1 55 "YarnMill$Machine" "below" "I", Cond.constantLong RX1 64 (1000), Cond.fieldLink RX1 52 "YarnMill$Machine" "above" "I", Cond.fieldLink RX1 94 "YarnMill$Fraction" "above" "J", Cond.constantLong RX1 106 (1000000000000)]
def wsX5_digest_r3 : List Cond := [Cond.fieldLink RX1 97 "YarnMill$Fraction" "below" "J", Cond.methodLink RX1 99 yX0_set, Cond.instanceMethod yX0_set, Cond.selects RX0 yX0_set yX0_set, Cond.initialized RX0, Cond.code yX0_set cX0_set 5 none, Cond.fieldLink RX0 7 "YarnMill$Fraction" "above" "J", Cond.fieldLink RX0 13 "YarnMill$Fraction" "below" "J", Cond.methodLink RX0 16 yX0_reduce, Cond.instanceMethod yX0_reduce, Cond.selects RX0 yX0_reduce yX0_reduce, Cond.code yX0_reduce cX0_reduce 3 none, Cond.methodLink RX0 23 yX0_commonDivisor, Cond.static yX0_commonDivisor, Cond.code yX0_commonDivisor cX0_commonDivisor 11 (some .long), Cond.methodLink RX1 103 yX0_times, Cond.instanceMethod yX0_times, Cond.selects RX0 yX0_times yX0_times, Cond.code yX0_times cX0_times 5 none, Cond.methodLink RX0 19 yX0_set, Cond.methodLink RX1 76 yX1_toldPart, Cond.instanceMethod yX1_toldPart, Cond.selects RX1 yX1_toldPart yX1_toldPart, Cond.code yX1_toldPart cX1_toldPart 2 (some .long)]
def wsX5_digest_r4 : List Cond := [Cond.methodLink RX5 137 yX3_mixInto, Cond.instanceMethod yX3_mixInto, Cond.selects RX3 yX3_mixInto yX3_mixInto, Cond.initialized RX3, Cond.code yX3_mixInto cX3_mixInto 6 (some .long), Cond.fieldLink RX3 21 "YarnMill$Row" "size" "I", Cond.constantLong RX3 86 (31), Cond.fieldLink RX3 11 "YarnMill$Row" "cells" "[I", Cond.methodLink RX5 141 yX4_mixInto, Cond.instanceMethod yX4_mixInto, Cond.selects RX4 yX4_mixInto yX4_mixInto, Cond.initialized RX4, Cond.code yX4_mixInto cX4_mixInto 6 (some .long), Cond.fieldLink RX4 31 "YarnMill$Store" "laydowns" "I", Cond.fieldLink RX4 9 "YarnMill$Store" "each" "I", Cond.constantLong RX4 53 (31), Cond.fieldLink RX4 19 "YarnMill$Store" "order" "[I"]
def wsX5_digest : List Cond := .code yX5_digest cX5_digest 4 (some .long) :: ((wsX5_digest_r1 ++ (wsX5_digest_r2 ++ (wsX5_digest_r3 ++ wsX5_digest_r4))) ++ wsX50 ++ wsX10 ++ wsX40 ++ wsX20 ++ wsX30 ++ wsX00)
def wsX6_init : List Cond := .code yX6_init cX6_init 1 none :: ([.methodLink RX6 1 objectInit, .instanceMethod objectInit, .code objectInit ⟨#[0xb1]⟩ 1 none, .fieldLink RX6 7 "YarnMillModel" "above" "I", .fieldLink RX6 13 "YarnMillModel" "below" "I", .arrayClass .int, .fieldLink RX6 16 "YarnMillModel" "doublings" "[I", .fieldLink RX6 20 "YarnMillModel" "draftAbove" "[I", .fieldLink RX6 23 "YarnMillModel" "draftBelow" "[I", .fieldLink RX6 26 "YarnMillModel" "loss" "[I", .fieldLink RX6 29 "YarnMillModel" "rollers" "[I", .fieldLink RX6 32 "YarnMillModel" "round" "[I", .fieldLink RX6 35 "YarnMillModel" "cells" "[I", .fieldLink RX6 38 "YarnMillModel" "mass" "[I", .fieldLink RX6 41 "YarnMillModel" "fresh" "[I", .fieldLink RX6 44 "YarnMillModel" "number" "[I", .fieldLink RX6 47 "YarnMillModel" "plan" "[I"] ++ wsX60)
def wsX6_in : List Cond := .code yX6_in cX6_in 6 (some .boolean) :: ([])
def wsX6_common : List Cond := .code yX6_common cX6_common 10 (some .long) :: ([])
def wsX6_count : List Cond := .code yX6_count cX6_count 3 (some .int) :: ([.constantLong RX6 50 (10000), .fieldLink RX6 7 "YarnMillModel" "above" "I", .fieldLink RX6 13 "YarnMillModel" "below" "I", .methodLink RX6 52 yX6_in, .static yX6_in, .initialized RX6, .code yX6_in cX6_in 6 (some .boolean)] ++ wsX60)
def wsX6_machine : List Cond := .code yX6_machine cX6_machine 5 (some .int) :: ([.constantLong RX6 56 (16), .constantLong RX6 58 (60), .constantLong RX6 60 (20), .constantLong RX6 62 (500), .fieldLink RX6 64 "YarnMillModel" "machines" "I", .fieldLink RX6 16 "YarnMillModel" "doublings" "[I", .fieldLink RX6 20 "YarnMillModel" "draftAbove" "[I", .fieldLink RX6 23 "YarnMillModel" "draftBelow" "[I", .fieldLink RX6 26 "YarnMillModel" "loss" "[I", .fieldLink RX6 29 "YarnMillModel" "rollers" "[I", .methodLink RX6 52 yX6_in, .static yX6_in, .initialized RX6, .code yX6_in cX6_in 6 (some .boolean)] ++ wsX60)
def wsX6_isMachine : List Cond := .code yX6_isMachine cX6_isMachine 2 (some .boolean) :: ([.fieldLink RX6 64 "YarnMillModel" "machines" "I", .methodLink RX6 52 yX6_in, .static yX6_in, .initialized RX6, .code yX6_in cX6_in 6 (some .boolean)] ++ wsX60)
def wsX6_roller : List Cond := .code yX6_roller cX6_roller 3 (some .int) :: ([.constantLong RX6 71 (1000), .fieldLink RX6 29 "YarnMillModel" "rollers" "[I", .fieldLink RX6 32 "YarnMillModel" "round" "[I", .methodLink RX6 67 yX6_isMachine, .instanceMethod yX6_isMachine, .selects RX6 yX6_isMachine yX6_isMachine, .initialized RX6, .code yX6_isMachine cX6_isMachine 2 (some .boolean), .fieldLink RX6 64 "YarnMillModel" "machines" "I", .methodLink RX6 52 yX6_in, .static yX6_in, .code yX6_in cX6_in 6 (some .boolean)] ++ wsX60)
def wsX6_clear : List Cond := .code yX6_clear cX6_clear 2 (some .int) :: ([.fieldLink RX6 64 "YarnMillModel" "machines" "I"] ++ wsX60)
def wsX6_countOf : List Cond := .code yX6_countOf cX6_countOf 10 (some .long) :: ([.fieldLink RX6 7 "YarnMillModel" "above" "I", .fieldLink RX6 13 "YarnMillModel" "below" "I", .fieldLink RX6 16 "YarnMillModel" "doublings" "[I", .constantLong RX6 71 (1000), .fieldLink RX6 26 "YarnMillModel" "loss" "[I", .fieldLink RX6 23 "YarnMillModel" "draftBelow" "[I", .fieldLink RX6 20 "YarnMillModel" "draftAbove" "[I", .constantLong RX6 77 (1000000000000), .constantLong RX6 79 (-6), .methodLink RX6 73 yX6_common, .static yX6_common, .initialized RX6, .code yX6_common cX6_common 10 (some .long)] ++ wsX60)
def wsX6_countAt : List Cond := .code yX6_countAt cX6_countAt 3 (some .long) :: ([.fieldLink RX6 64 "YarnMillModel" "machines" "I", .constantLong RX6 85 (-2), .methodLink RX6 52 yX6_in, .static yX6_in, .initialized RX6, .code yX6_in cX6_in 6 (some .boolean), .methodLink RX6 81 yX6_countOf, .instanceMethod yX6_countOf, .selects RX6 yX6_countOf yX6_countOf, .code yX6_countOf cX6_countOf 10 (some .long), .fieldLink RX6 7 "YarnMillModel" "above" "I", .fieldLink RX6 13 "YarnMillModel" "below" "I", .fieldLink RX6 16 "YarnMillModel" "doublings" "[I", .constantLong RX6 71 (1000), .fieldLink RX6 26 "YarnMillModel" "loss" "[I", .fieldLink RX6 23 "YarnMillModel" "draftBelow" "[I", .fieldLink RX6 20 "YarnMillModel" "draftAbove" "[I", .constantLong RX6 77 (1000000000000), .constantLong RX6 79 (-6), .methodLink RX6 73 yX6_common, .static yX6_common, .code yX6_common cX6_common 10 (some .long)] ++ wsX60)
def wsX6_periodOf : List Cond := .code yX6_periodOf cX6_periodOf 11 (some .long) :: ([.fieldLink RX6 32 "YarnMillModel" "round" "[I", .fieldLink RX6 64 "YarnMillModel" "machines" "I", .fieldLink RX6 20 "YarnMillModel" "draftAbove" "[I", .fieldLink RX6 23 "YarnMillModel" "draftBelow" "[I", .methodLink RX6 73 yX6_common, .static yX6_common, .initialized RX6, .code yX6_common cX6_common 10 (some .long)] ++ wsX60)
def wsX6_period : List Cond := .code yX6_period cX6_period 4 (some .long) :: ([.fieldLink RX6 29 "YarnMillModel" "rollers" "[I", .constantLong RX6 85 (-2), .methodLink RX6 67 yX6_isMachine, .instanceMethod yX6_isMachine, .selects RX6 yX6_isMachine yX6_isMachine, .initialized RX6, .code yX6_isMachine cX6_isMachine 2 (some .boolean), .fieldLink RX6 64 "YarnMillModel" "machines" "I", .methodLink RX6 52 yX6_in, .static yX6_in, .code yX6_in cX6_in 6 (some .boolean), .methodLink RX6 87 yX6_periodOf, .instanceMethod yX6_periodOf, .selects RX6 yX6_periodOf yX6_periodOf, .code yX6_periodOf cX6_periodOf 11 (some .long), .fieldLink RX6 32 "YarnMillModel" "round" "[I", .fieldLink RX6 20 "YarnMillModel" "draftAbove" "[I", .fieldLink RX6 23 "YarnMillModel" "draftBelow" "[I", .methodLink RX6 73 yX6_common, .static yX6_common, .code yX6_common cX6_common 10 (some .long)] ++ wsX60)
def wsX6_names : List Cond := .code yX6_names cX6_names 11 (some .int) :: ([.constantLong RX6 91 (1000000), .constantLong RX6 93 (999), .fieldLink RX6 64 "YarnMillModel" "machines" "I", .fieldLink RX6 29 "YarnMillModel" "rollers" "[I", .constantLong RX6 71 (1000), .methodLink RX6 52 yX6_in, .static yX6_in, .initialized RX6, .code yX6_in cX6_in 6 (some .boolean), .methodLink RX6 87 yX6_periodOf, .instanceMethod yX6_periodOf, .selects RX6 yX6_periodOf yX6_periodOf, .code yX6_periodOf cX6_periodOf 11 (some .long), .fieldLink RX6 32 "YarnMillModel" "round" "[I", .fieldLink RX6 20 "YarnMillModel" "draftAbove" "[I", .fieldLink RX6 23 "YarnMillModel" "draftBelow" "[I", .methodLink RX6 73 yX6_common, .static yX6_common, .code yX6_common cX6_common 10 (some .long)] ++ wsX60)
def wsX6_isRow : List Cond := .code yX6_isRow cX6_isRow 1 (some .boolean) :: ([.constantLong RX6 95 (7), .methodLink RX6 52 yX6_in, .static yX6_in, .initialized RX6, .code yX6_in cX6_in 6 (some .boolean)])
def wsX6_isMass : List Cond := .code yX6_isMass cX6_isMass 2 (some .boolean) :: ([.constantLong RX6 91 (1000000), .methodLink RX6 52 yX6_in, .static yX6_in, .initialized RX6, .code yX6_in cX6_in 6 (some .boolean)])
def wsX6_cell : List Cond := .code yX6_cell cX6_cell 3 (some .int) :: ([.fieldLink RX6 35 "YarnMillModel" "cells" "[I", .fieldLink RX6 38 "YarnMillModel" "mass" "[I", .methodLink RX6 97 yX6_isRow, .static yX6_isRow, .initialized RX6, .code yX6_isRow cX6_isRow 1 (some .boolean), .constantLong RX6 95 (7), .methodLink RX6 52 yX6_in, .static yX6_in, .code yX6_in cX6_in 6 (some .boolean), .methodLink RX6 100 yX6_isMass, .static yX6_isMass, .code yX6_isMass cX6_isMass 2 (some .boolean), .constantLong RX6 91 (1000000)] ++ wsX60)
def wsX6_draw : List Cond := .code yX6_draw cX6_draw 9 (some .int) :: ([.constantLong RX6 104 (100), .constantLong RX6 50 (10000), .fieldLink RX6 35 "YarnMillModel" "cells" "[I", .constantLong RX6 106 (1103515245), .constantLong RX6 108 (12345), .constantLong RX6 110 (2147483647), .fieldLink RX6 38 "YarnMillModel" "mass" "[I", .constantLong RX6 112 (65536), .methodLink RX6 97 yX6_isRow, .static yX6_isRow, .initialized RX6, .code yX6_isRow cX6_isRow 1 (some .boolean), .constantLong RX6 95 (7), .methodLink RX6 52 yX6_in, .static yX6_in, .code yX6_in cX6_in 6 (some .boolean)] ++ wsX60)
def wsX6_empty : List Cond := .code yX6_empty cX6_empty 3 (some .int) :: ([.fieldLink RX6 35 "YarnMillModel" "cells" "[I", .methodLink RX6 97 yX6_isRow, .static yX6_isRow, .initialized RX6, .code yX6_isRow cX6_isRow 1 (some .boolean), .constantLong RX6 95 (7), .methodLink RX6 52 yX6_in, .static yX6_in, .code yX6_in cX6_in 6 (some .boolean)] ++ wsX60)
def wsX6_at : List Cond := .code yX6_at cX6_at 3 (some .int) :: ([.fieldLink RX6 35 "YarnMillModel" "cells" "[I", .fieldLink RX6 38 "YarnMillModel" "mass" "[I", .methodLink RX6 97 yX6_isRow, .static yX6_isRow, .initialized RX6, .code yX6_isRow cX6_isRow 1 (some .boolean), .constantLong RX6 95 (7), .methodLink RX6 52 yX6_in, .static yX6_in, .code yX6_in cX6_in 6 (some .boolean)] ++ wsX60)
def wsX6_becomes : List Cond := .code yX6_becomes cX6_becomes 5 (some .int) :: ([.fieldLink RX6 41 "YarnMillModel" "fresh" "[I", .fieldLink RX6 38 "YarnMillModel" "mass" "[I", .fieldLink RX6 35 "YarnMillModel" "cells" "[I", .methodLink RX6 100 yX6_isMass, .static yX6_isMass, .initialized RX6, .code yX6_isMass cX6_isMass 2 (some .boolean), .constantLong RX6 91 (1000000), .methodLink RX6 52 yX6_in, .static yX6_in, .code yX6_in cX6_in 6 (some .boolean)] ++ wsX60)
def wsX6_join : List Cond := .code yX6_join cX6_join 4 (some .int) :: ([.fieldLink RX6 35 "YarnMillModel" "cells" "[I", .fieldLink RX6 41 "YarnMillModel" "fresh" "[I", .fieldLink RX6 38 "YarnMillModel" "mass" "[I", .methodLink RX6 97 yX6_isRow, .static yX6_isRow, .initialized RX6, .code yX6_isRow cX6_isRow 1 (some .boolean), .constantLong RX6 95 (7), .methodLink RX6 52 yX6_in, .static yX6_in, .code yX6_in cX6_in 6 (some .boolean), .methodLink RX6 114 yX6_becomes, .instanceMethod yX6_becomes, .selects RX6 yX6_becomes yX6_becomes, .code yX6_becomes cX6_becomes 5 (some .int), .methodLink RX6 100 yX6_isMass, .static yX6_isMass, .code yX6_isMass cX6_isMass 2 (some .boolean), .constantLong RX6 91 (1000000)] ++ wsX60)
def wsX6_stretch : List Cond := .code yX6_stretch cX6_stretch 6 (some .int) :: ([.constantLong RX6 118 (2), .constantLong RX6 120 (8), .fieldLink RX6 35 "YarnMillModel" "cells" "[I", .fieldLink RX6 38 "YarnMillModel" "mass" "[I", .fieldLink RX6 41 "YarnMillModel" "fresh" "[I", .methodLink RX6 97 yX6_isRow, .static yX6_isRow, .initialized RX6, .code yX6_isRow cX6_isRow 1 (some .boolean), .constantLong RX6 95 (7), .methodLink RX6 52 yX6_in, .static yX6_in, .code yX6_in cX6_in 6 (some .boolean), .methodLink RX6 114 yX6_becomes, .instanceMethod yX6_becomes, .selects RX6 yX6_becomes yX6_becomes, .code yX6_becomes cX6_becomes 5 (some .int), .methodLink RX6 100 yX6_isMass, .static yX6_isMass, .code yX6_isMass cX6_isMass 2 (some .boolean), .constantLong RX6 91 (1000000)] ++ wsX60)
def wsX6_gather : List Cond := .code yX6_gather cX6_gather 5 (some .int) :: ([.constantLong RX6 118 (2), .constantLong RX6 60 (20), .fieldLink RX6 35 "YarnMillModel" "cells" "[I", .fieldLink RX6 41 "YarnMillModel" "fresh" "[I", .fieldLink RX6 38 "YarnMillModel" "mass" "[I", .methodLink RX6 97 yX6_isRow, .static yX6_isRow, .initialized RX6, .code yX6_isRow cX6_isRow 1 (some .boolean), .constantLong RX6 95 (7), .methodLink RX6 52 yX6_in, .static yX6_in, .code yX6_in cX6_in 6 (some .boolean), .methodLink RX6 114 yX6_becomes, .instanceMethod yX6_becomes, .selects RX6 yX6_becomes yX6_becomes, .code yX6_becomes cX6_becomes 5 (some .int), .methodLink RX6 100 yX6_isMass, .static yX6_isMass, .code yX6_isMass cX6_isMass 2 (some .boolean), .constantLong RX6 91 (1000000)] ++ wsX60)
def wsX6_fault : List Cond := .code yX6_fault cX6_fault 9 (some .int) :: ([.constantLong RX6 118 (2), .constantLong RX6 122 (400), .constantLong RX6 71 (1000), .fieldLink RX6 35 "YarnMillModel" "cells" "[I", .fieldLink RX6 41 "YarnMillModel" "fresh" "[I", .fieldLink RX6 38 "YarnMillModel" "mass" "[I", .methodLink RX6 97 yX6_isRow, .static yX6_isRow, .initialized RX6, .code yX6_isRow cX6_isRow 1 (some .boolean), .constantLong RX6 95 (7), .methodLink RX6 52 yX6_in, .static yX6_in, .code yX6_in cX6_in 6 (some .boolean), .methodLink RX6 114 yX6_becomes, .instanceMethod yX6_becomes, .selects RX6 yX6_becomes yX6_becomes, .code yX6_becomes cX6_becomes 5 (some .int), .methodLink RX6 100 yX6_isMass, .static yX6_isMass, .code yX6_isMass cX6_isMass 2 (some .boolean), .constantLong RX6 91 (1000000)] ++ wsX60)
def wsX6_sum : List Cond := .code yX6_sum cX6_sum 5 (some .long) :: ([.fieldLink RX6 35 "YarnMillModel" "cells" "[I", .fieldLink RX6 38 "YarnMillModel" "mass" "[I"] ++ wsX60)
def wsX6_about : List Cond := .code yX6_about cX6_about 6 (some .long) :: ([.constantLong RX6 118 (2), .constantLong RX6 124 (-1), .fieldLink RX6 35 "YarnMillModel" "cells" "[I", .fieldLink RX6 38 "YarnMillModel" "mass" "[I", .methodLink RX6 97 yX6_isRow, .static yX6_isRow, .initialized RX6, .code yX6_isRow cX6_isRow 1 (some .boolean), .constantLong RX6 95 (7), .methodLink RX6 52 yX6_in, .static yX6_in, .code yX6_in cX6_in 6 (some .boolean), .methodLink RX6 126 yX6_sum, .instanceMethod yX6_sum, .selects RX6 yX6_sum yX6_sum, .code yX6_sum cX6_sum 5 (some .long)] ++ wsX60)
def wsX6_waveOf : List Cond := .code yX6_waveOf cX6_waveOf 12 (some .long) :: ([.fieldLink RX6 35 "YarnMillModel" "cells" "[I", .fieldLink RX6 38 "YarnMillModel" "mass" "[I"] ++ wsX60)
def wsX6_wave : List Cond := .code yX6_wave cX6_wave 3 (some .long) :: ([.constantLong RX6 118 (2), .constantLong RX6 130 (200), .constantLong RX6 124 (-1), .methodLink RX6 97 yX6_isRow, .static yX6_isRow, .initialized RX6, .code yX6_isRow cX6_isRow 1 (some .boolean), .constantLong RX6 95 (7), .methodLink RX6 52 yX6_in, .static yX6_in, .code yX6_in cX6_in 6 (some .boolean), .methodLink RX6 132 yX6_waveOf, .instanceMethod yX6_waveOf, .selects RX6 yX6_waveOf yX6_waveOf, .code yX6_waveOf cX6_waveOf 12 (some .long), .fieldLink RX6 35 "YarnMillModel" "cells" "[I", .fieldLink RX6 38 "YarnMillModel" "mass" "[I"] ++ wsX60)
def wsX6_isAbove : List Cond := .code yX6_isAbove cX6_isAbove 25 (some .boolean) :: ([])
def wsX6_greatest : List Cond := .code yX6_greatest cX6_greatest 13 (some .int) :: ([.constantLong RX6 118 (2), .constantLong RX6 130 (200), .fieldLink RX6 35 "YarnMillModel" "cells" "[I", .methodLink RX6 97 yX6_isRow, .static yX6_isRow, .initialized RX6, .code yX6_isRow cX6_isRow 1 (some .boolean), .constantLong RX6 95 (7), .methodLink RX6 52 yX6_in, .static yX6_in, .code yX6_in cX6_in 6 (some .boolean), .methodLink RX6 132 yX6_waveOf, .instanceMethod yX6_waveOf, .selects RX6 yX6_waveOf yX6_waveOf, .code yX6_waveOf cX6_waveOf 12 (some .long), .fieldLink RX6 38 "YarnMillModel" "mass" "[I", .methodLink RX6 135 yX6_isAbove, .static yX6_isAbove, .code yX6_isAbove cX6_isAbove 25 (some .boolean)] ++ wsX60)
def wsX6_isLaw : List Cond := .code yX6_isLaw cX6_isLaw 3 (some .boolean) :: ([.constantLong RX6 71 (1000), .constantLong RX6 104 (100), .constantLong RX6 139 (50), .methodLink RX6 52 yX6_in, .static yX6_in, .initialized RX6, .code yX6_in cX6_in 6 (some .boolean)])
def wsX6_run : List Cond := .code yX6_run cX6_run 11 (some .int) :: ([.fieldLink RX6 35 "YarnMillModel" "cells" "[I", .constantLong RX6 104 (100), .fieldLink RX6 38 "YarnMillModel" "mass" "[I"] ++ wsX60)
def wsX6_places : List Cond := .code yX6_places cX6_places 11 (some .int) :: ([.fieldLink RX6 35 "YarnMillModel" "cells" "[I", .methodLink RX6 97 yX6_isRow, .static yX6_isRow, .initialized RX6, .code yX6_isRow cX6_isRow 1 (some .boolean), .constantLong RX6 95 (7), .methodLink RX6 52 yX6_in, .static yX6_in, .code yX6_in cX6_in 6 (some .boolean), .methodLink RX6 141 yX6_isLaw, .static yX6_isLaw, .code yX6_isLaw cX6_isLaw 3 (some .boolean), .constantLong RX6 71 (1000), .constantLong RX6 104 (100), .constantLong RX6 139 (50), .methodLink RX6 126 yX6_sum, .instanceMethod yX6_sum, .selects RX6 yX6_sum yX6_sum, .code yX6_sum cX6_sum 5 (some .long), .fieldLink RX6 38 "YarnMillModel" "mass" "[I", .methodLink RX6 145 yX6_run, .instanceMethod yX6_run, .selects RX6 yX6_run yX6_run, .code yX6_run cX6_run 11 (some .int)] ++ wsX60)
def wsX6_cleared_r1 : List Cond := [Cond.fieldLink RX6 35 "YarnMillModel" "cells" "[I", Cond.fieldLink RX6 41 "YarnMillModel" "fresh" "[I", Cond.fieldLink RX6 38 "YarnMillModel" "mass" "[I", Cond.methodLink RX6 97 yX6_isRow, Cond.static yX6_isRow, Cond.initialized RX6, Cond.code yX6_isRow cX6_isRow 1 (some .boolean), Cond.constantLong RX6 95 (7), Cond.methodLink RX6 52 yX6_in, Cond.static yX6_in, Cond.code yX6_in cX6_in 6 (some .boolean), Cond.methodLink RX6 141 yX6_isLaw, Cond.static yX6_isLaw, Cond.code yX6_isLaw cX6_isLaw 3 (some .boolean), Cond.constantLong RX6 71 (1000), Cond.constantLong RX6 104 (100), Cond.constantLong RX6 139 (50), Cond.methodLink RX6 126 yX6_sum, Cond.instanceMethod yX6_sum, Cond.selects RX6 yX6_sum yX6_sum, Cond.code yX6_sum cX6_sum 5 (some .long), Cond.methodLink RX6 145 yX6_run, Cond.instanceMethod yX6_run, Cond.selects RX6 yX6_run yX6_run]
def wsX6_cleared_r2 : List Cond := [Cond.code yX6_run cX6_run 11 (some .int), Cond.methodLink RX6 114 yX6_becomes, Cond.instanceMethod yX6_becomes, Cond.selects RX6 yX6_becomes yX6_becomes, Cond.code yX6_becomes cX6_becomes 5 (some .int), Cond.methodLink RX6 100 yX6_isMass, Cond.static yX6_isMass, Cond.code yX6_isMass cX6_isMass 2 (some .boolean), Cond.constantLong RX6 91 (1000000)]
def wsX6_cleared : List Cond := .code yX6_cleared cX6_cleared 12 (some .int) :: ((wsX6_cleared_r1 ++ wsX6_cleared_r2) ++ wsX60)
def wsX6_bale : List Cond := .code yX6_bale cX6_bale 2 (some .int) :: ([.constantLong RX6 50 (10000), .fieldLink RX6 149 "YarnMillModel" "bales" "I", .fieldLink RX6 44 "YarnMillModel" "number" "[I", .fieldLink RX6 152 "YarnMillModel" "laydowns" "I", .methodLink RX6 52 yX6_in, .static yX6_in, .initialized RX6, .code yX6_in cX6_in 6 (some .boolean)] ++ wsX60)
def wsX6_clearBales : List Cond := .code yX6_clearBales cX6_clearBales 2 (some .int) :: ([.fieldLink RX6 149 "YarnMillModel" "bales" "I", .fieldLink RX6 152 "YarnMillModel" "laydowns" "I"] ++ wsX60)
def wsX6_nextBale : List Cond := .code yX6_nextBale cX6_nextBale 6 (some .int) :: ([.fieldLink RX6 149 "YarnMillModel" "bales" "I", .fieldLink RX6 47 "YarnMillModel" "plan" "[I"] ++ wsX60)
def wsX6_isWhole : List Cond := .code yX6_isWhole cX6_isWhole 7 (some .boolean) :: ([.fieldLink RX6 44 "YarnMillModel" "number" "[I", .fieldLink RX6 47 "YarnMillModel" "plan" "[I", .methodLink RX6 52 yX6_in, .static yX6_in, .initialized RX6, .code yX6_in cX6_in 6 (some .boolean)] ++ wsX60)
def wsX6_plan : List Cond := .code yX6_plan cX6_plan 9 (some .int) :: ([.constantLong RX6 155 (6), .constantLong RX6 50 (10000), .fieldLink RX6 152 "YarnMillModel" "laydowns" "I", .fieldLink RX6 149 "YarnMillModel" "bales" "I", .fieldLink RX6 157 "YarnMillModel" "tries" "I", .fieldLink RX6 160 "YarnMillModel" "perLaydown" "I", .fieldLink RX6 47 "YarnMillModel" "plan" "[I", .constant RX6 166 (100000), .methodLink RX6 52 yX6_in, .static yX6_in, .initialized RX6, .code yX6_in cX6_in 6 (some .boolean), .methodLink RX6 163 yX6_nextBale, .instanceMethod yX6_nextBale, .selects RX6 yX6_nextBale yX6_nextBale, .code yX6_nextBale cX6_nextBale 6 (some .int), .methodLink RX6 167 yX6_isWhole, .instanceMethod yX6_isWhole, .selects RX6 yX6_isWhole yX6_isWhole, .code yX6_isWhole cX6_isWhole 7 (some .boolean), .fieldLink RX6 44 "YarnMillModel" "number" "[I"] ++ wsX60)
def wsX6_planAt : List Cond := .code yX6_planAt cX6_planAt 3 (some .int) :: ([.fieldLink RX6 152 "YarnMillModel" "laydowns" "I", .fieldLink RX6 160 "YarnMillModel" "perLaydown" "I", .fieldLink RX6 47 "YarnMillModel" "plan" "[I", .methodLink RX6 52 yX6_in, .static yX6_in, .initialized RX6, .code yX6_in cX6_in 6 (some .boolean)] ++ wsX60)
def wsX6_tries : List Cond := .code yX6_tries cX6_tries 1 (some .int) :: ([.fieldLink RX6 157 "YarnMillModel" "tries" "I"] ++ wsX60)
def wsX6_manyOf : List Cond := .code yX6_manyOf cX6_manyOf 4 (some .int) :: ([.fieldLink RX6 64 "YarnMillModel" "machines" "I", .fieldLink RX6 29 "YarnMillModel" "rollers" "[I", .fieldLink RX6 35 "YarnMillModel" "cells" "[I", .fieldLink RX6 149 "YarnMillModel" "bales" "I", .fieldLink RX6 152 "YarnMillModel" "laydowns" "I"] ++ wsX60)
def wsX6_many : List Cond := .code yX6_many cX6_many 2 (some .int) :: ([.constantLong RX6 171 (4), .methodLink RX6 52 yX6_in, .static yX6_in, .initialized RX6, .code yX6_in cX6_in 6 (some .boolean), .methodLink RX6 173 yX6_manyOf, .instanceMethod yX6_manyOf, .selects RX6 yX6_manyOf yX6_manyOf, .code yX6_manyOf cX6_manyOf 4 (some .int), .fieldLink RX6 64 "YarnMillModel" "machines" "I", .fieldLink RX6 29 "YarnMillModel" "rollers" "[I", .fieldLink RX6 35 "YarnMillModel" "cells" "[I", .fieldLink RX6 149 "YarnMillModel" "bales" "I", .fieldLink RX6 152 "YarnMillModel" "laydowns" "I"] ++ wsX60)
def wsX6_digest_r1 : List Cond := [Cond.constantLong RX6 177 (149), Cond.constantLong RX6 179 (31), Cond.fieldLink RX6 64 "YarnMillModel" "machines" "I", Cond.fieldLink RX6 35 "YarnMillModel" "cells" "[I", Cond.fieldLink RX6 38 "YarnMillModel" "mass" "[I", Cond.fieldLink RX6 152 "YarnMillModel" "laydowns" "I", Cond.fieldLink RX6 160 "YarnMillModel" "perLaydown" "I", Cond.fieldLink RX6 47 "YarnMillModel" "plan" "[I", Cond.methodLink RX6 173 yX6_manyOf, Cond.instanceMethod yX6_manyOf, Cond.selects RX6 yX6_manyOf yX6_manyOf, Cond.initialized RX6, Cond.code yX6_manyOf cX6_manyOf 4 (some .int), Cond.fieldLink RX6 29 "YarnMillModel" "rollers" "[I", Cond.fieldLink RX6 149 "YarnMillModel" "bales" "I", Cond.methodLink RX6 81 yX6_countOf, Cond.instanceMethod yX6_countOf, Cond.selects RX6 yX6_countOf yX6_countOf, Cond.code yX6_countOf cX6_countOf 10 (some .long), Cond.fieldLink RX6 7 "YarnMillModel" "above" "I", Cond.fieldLink RX6 13 "YarnMillModel" "below" "I", Cond.fieldLink RX6 16 "YarnMillModel" "doublings" "[I", Cond.constantLong RX6 71 (1000), Cond.fieldLink RX6 26 "YarnMillModel" "loss" "[I"]
def wsX6_digest_r2 : List Cond := [Cond.fieldLink RX6 23 "YarnMillModel" "draftBelow" "[I", Cond.fieldLink RX6 20 "YarnMillModel" "draftAbove" "[I", Cond.constantLong RX6 77 (1000000000000), Cond.constantLong RX6 79 (-6), Cond.methodLink RX6 73 yX6_common, Cond.static yX6_common, Cond.code yX6_common cX6_common 10 (some .long)]
def wsX6_digest : List Cond := .code yX6_digest cX6_digest 5 (some .long) :: ((wsX6_digest_r1 ++ wsX6_digest_r2) ++ wsX60)
def wsJ9_max_7cf53 : List Cond := .code yJ9_max_7cf53 cJ9_max_7cf53 2 (some .int) :: ([])
def wsJ9_min_7cf53 : List Cond := .code yJ9_min_7cf53 cJ9_min_7cf53 2 (some .int) :: ([])
abbrev vwCl : List vw_C := [(RX0, TX0, 2), (RX1, TX1, 5), (RX2, TX2, 6), (RX3, TX3, 2), (RX4, TX4, 9), (RX5, TX5, 3), (RX6, TX6, 18)]
end
section
theorem dX0_init_0 : decode cX0_init 0 = .ok (.aload_n 0, 1) := by decide +kernel
theorem dX0_init_1 : decode cX0_init 1 = .ok (.invokespecial 1, 3) := by decide +kernel
theorem dX0_init_4 : decode cX0_init 4 = .ok (.aload_n 0, 1) := by decide +kernel
theorem dX0_init_5 : decode cX0_init 5 = .ok (.lconst 1, 1) := by decide +kernel
theorem dX0_init_6 : decode cX0_init 6 = .ok (.putfield 7, 3) := by decide +kernel
theorem dX0_init_9 : decode cX0_init 9 = .ok (.aload_n 0, 1) := by decide +kernel
theorem dX0_init_10 : decode cX0_init 10 = .ok (.lconst 1, 1) := by decide +kernel
theorem dX0_init_11 : decode cX0_init 11 = .ok (.putfield 13, 3) := by decide +kernel
theorem dX0_init_14 : decode cX0_init 14 = .ok (.return_, 1) := by decide +kernel
set_option maxRecDepth 20000 in
theorem ggX0_set_X0_reduce : GoodIn wsX0_set wsX0_reduce := goodIn_r _ [7, 1, 2, 8, 9, 6, 10, 11, 12] (by decide +kernel) (by decide +kernel)
set_option maxRecDepth 20000 in
theorem gX0_set_X0_reduce : GoodIn wsX0_set (wsV RX0 16 RX0 yX0_reduce wsX0_reduce) := goodIn_app (goodIn_of _ (by decide +kernel)) ggX0_set_X0_reduce
theorem dX0_set_0 : decode cX0_set 0 = .ok (.aload_n 0, 1) := by decide +kernel
theorem dX0_set_1 : decode cX0_set 1 = .ok (.lload_n 1, 1) := by decide +kernel
theorem dX0_set_2 : decode cX0_set 2 = .ok (.putfield 7, 3) := by decide +kernel
theorem dX0_set_5 : decode cX0_set 5 = .ok (.aload_n 0, 1) := by decide +kernel
theorem dX0_set_6 : decode cX0_set 6 = .ok (.lload_n 3, 1) := by decide +kernel
theorem dX0_set_7 : decode cX0_set 7 = .ok (.putfield 13, 3) := by decide +kernel
theorem dX0_set_10 : decode cX0_set 10 = .ok (.aload_n 0, 1) := by decide +kernel
theorem dX0_set_11 : decode cX0_set 11 = .ok (.invokevirtual 16, 3) := by decide +kernel
theorem dX0_set_14 : decode cX0_set 14 = .ok (.return_, 1) := by decide +kernel
set_option maxRecDepth 20000 in
theorem ggX0_times_X0_set : GoodIn wsX0_times wsX0_set := goodIn_r _ [7, 1, 2, 8, 9, 10, 6, 11, 12, 13, 14, 15, 16] (by decide +kernel) (by decide +kernel)
set_option maxRecDepth 20000 in
theorem gX0_times_X0_set : GoodIn wsX0_times (wsV RX0 19 RX0 yX0_set wsX0_set) := goodIn_app (goodIn_of _ (by decide +kernel)) ggX0_times_X0_set
theorem dX0_times_0 : decode cX0_times 0 = .ok (.aload_n 0, 1) := by decide +kernel
theorem dX0_times_1 : decode cX0_times 1 = .ok (.aload_n 0, 1) := by decide +kernel
theorem dX0_times_2 : decode cX0_times 2 = .ok (.getfield 7, 3) := by decide +kernel
theorem dX0_times_5 : decode cX0_times 5 = .ok (.lload_n 1, 1) := by decide +kernel
theorem dX0_times_6 : decode cX0_times 6 = .ok (.lmul, 1) := by decide +kernel
theorem dX0_times_7 : decode cX0_times 7 = .ok (.aload_n 0, 1) := by decide +kernel
theorem dX0_times_8 : decode cX0_times 8 = .ok (.getfield 13, 3) := by decide +kernel
theorem dX0_times_11 : decode cX0_times 11 = .ok (.lload_n 3, 1) := by decide +kernel
theorem dX0_times_12 : decode cX0_times 12 = .ok (.lmul, 1) := by decide +kernel
theorem dX0_times_13 : decode cX0_times 13 = .ok (.invokevirtual 19, 3) := by decide +kernel
theorem dX0_times_16 : decode cX0_times 16 = .ok (.return_, 1) := by decide +kernel
set_option maxRecDepth 20000 in
theorem ggX0_reduce_X0_commonDivisor : GoodIn wsX0_reduce wsX0_commonDivisor := goodIn_r _ [6] (by decide +kernel) (by decide +kernel)
set_option maxRecDepth 20000 in
theorem gX0_reduce_X0_commonDivisor : GoodIn wsX0_reduce (va_wsS RX0 23 yX0_commonDivisor wsX0_commonDivisor) := goodIn_app (goodIn_of _ (by decide +kernel)) ggX0_reduce_X0_commonDivisor
theorem dX0_reduce_0 : decode cX0_reduce 0 = .ok (.aload_n 0, 1) := by decide +kernel
theorem dX0_reduce_1 : decode cX0_reduce 1 = .ok (.getfield 7, 3) := by decide +kernel
theorem dX0_reduce_4 : decode cX0_reduce 4 = .ok (.aload_n 0, 1) := by decide +kernel
theorem dX0_reduce_5 : decode cX0_reduce 5 = .ok (.getfield 13, 3) := by decide +kernel
theorem dX0_reduce_8 : decode cX0_reduce 8 = .ok (.invokestatic 23, 3) := by decide +kernel
theorem dX0_reduce_11 : decode cX0_reduce 11 = .ok (.lstore_n 1, 1) := by decide +kernel
theorem dX0_reduce_12 : decode cX0_reduce 12 = .ok (.lload_n 1, 1) := by decide +kernel
theorem dX0_reduce_13 : decode cX0_reduce 13 = .ok (.lconst 1, 1) := by decide +kernel
theorem dX0_reduce_14 : decode cX0_reduce 14 = .ok (.lcmp, 1) := by decide +kernel
theorem dX0_reduce_15 : decode cX0_reduce 15 = .ok (.ifCond .le 23, 3) := by decide +kernel
theorem dX0_reduce_18 : decode cX0_reduce 18 = .ok (.aload_n 0, 1) := by decide +kernel
theorem dX0_reduce_19 : decode cX0_reduce 19 = .ok (.dup, 1) := by decide +kernel
theorem dX0_reduce_20 : decode cX0_reduce 20 = .ok (.getfield 7, 3) := by decide +kernel
theorem dX0_reduce_23 : decode cX0_reduce 23 = .ok (.lload_n 1, 1) := by decide +kernel
theorem dX0_reduce_24 : decode cX0_reduce 24 = .ok (.ldiv, 1) := by decide +kernel
theorem dX0_reduce_25 : decode cX0_reduce 25 = .ok (.putfield 7, 3) := by decide +kernel
theorem dX0_reduce_28 : decode cX0_reduce 28 = .ok (.aload_n 0, 1) := by decide +kernel
theorem dX0_reduce_29 : decode cX0_reduce 29 = .ok (.dup, 1) := by decide +kernel
theorem dX0_reduce_30 : decode cX0_reduce 30 = .ok (.getfield 13, 3) := by decide +kernel
theorem dX0_reduce_33 : decode cX0_reduce 33 = .ok (.lload_n 1, 1) := by decide +kernel
theorem dX0_reduce_34 : decode cX0_reduce 34 = .ok (.ldiv, 1) := by decide +kernel
theorem dX0_reduce_35 : decode cX0_reduce 35 = .ok (.putfield 13, 3) := by decide +kernel
theorem dX0_reduce_38 : decode cX0_reduce 38 = .ok (.return_, 1) := by decide +kernel
theorem dX0_commonDivisor_0 : decode cX0_commonDivisor 0 = .ok (.lload_n 0, 1) := by decide +kernel
theorem dX0_commonDivisor_1 : decode cX0_commonDivisor 1 = .ok (.lstore 4, 2) := by decide +kernel
theorem dX0_commonDivisor_3 : decode cX0_commonDivisor 3 = .ok (.lload_n 2, 1) := by decide +kernel
theorem dX0_commonDivisor_4 : decode cX0_commonDivisor 4 = .ok (.lstore 6, 2) := by decide +kernel
theorem dX0_commonDivisor_6 : decode cX0_commonDivisor 6 = .ok (.iconst 0, 1) := by decide +kernel
theorem dX0_commonDivisor_7 : decode cX0_commonDivisor 7 = .ok (.istore 8, 2) := by decide +kernel
theorem dX0_commonDivisor_9 : decode cX0_commonDivisor 9 = .ok (.iload 8, 2) := by decide +kernel
theorem dX0_commonDivisor_11 : decode cX0_commonDivisor 11 = .ok (.bipush 100, 2) := by decide +kernel
theorem dX0_commonDivisor_13 : decode cX0_commonDivisor 13 = .ok (.if_icmp .ge 31, 3) := by decide +kernel
theorem dX0_commonDivisor_16 : decode cX0_commonDivisor 16 = .ok (.lload 6, 2) := by decide +kernel
theorem dX0_commonDivisor_18 : decode cX0_commonDivisor 18 = .ok (.lconst 0, 1) := by decide +kernel
theorem dX0_commonDivisor_19 : decode cX0_commonDivisor 19 = .ok (.lcmp, 1) := by decide +kernel
theorem dX0_commonDivisor_20 : decode cX0_commonDivisor 20 = .ok (.ifCond .eq 24, 3) := by decide +kernel
theorem dX0_commonDivisor_23 : decode cX0_commonDivisor 23 = .ok (.lload 4, 2) := by decide +kernel
theorem dX0_commonDivisor_25 : decode cX0_commonDivisor 25 = .ok (.lload 6, 2) := by decide +kernel
theorem dX0_commonDivisor_27 : decode cX0_commonDivisor 27 = .ok (.lrem, 1) := by decide +kernel
theorem dX0_commonDivisor_28 : decode cX0_commonDivisor 28 = .ok (.lstore 9, 2) := by decide +kernel
theorem dX0_commonDivisor_30 : decode cX0_commonDivisor 30 = .ok (.lload 6, 2) := by decide +kernel
theorem dX0_commonDivisor_32 : decode cX0_commonDivisor 32 = .ok (.lstore 4, 2) := by decide +kernel
theorem dX0_commonDivisor_34 : decode cX0_commonDivisor 34 = .ok (.lload 9, 2) := by decide +kernel
theorem dX0_commonDivisor_36 : decode cX0_commonDivisor 36 = .ok (.lstore 6, 2) := by decide +kernel
theorem dX0_commonDivisor_38 : decode cX0_commonDivisor 38 = .ok (.iinc 8 1, 3) := by decide +kernel
theorem dX0_commonDivisor_41 : decode cX0_commonDivisor 41 = .ok (.goto (-32), 3) := by decide +kernel
theorem dX0_commonDivisor_44 : decode cX0_commonDivisor 44 = .ok (.lload 4, 2) := by decide +kernel
theorem dX0_commonDivisor_46 : decode cX0_commonDivisor 46 = .ok (.lreturn, 1) := by decide +kernel
end
section
set_option maxRecDepth 20000 in
theorem ggX1_init_X0_init : GoodIn wsX1_init wsX0_init := goodIn_r _ [15, 16, 2, 3, 17, 18, 29, 30] (by decide +kernel) (by decide +kernel)
set_option maxRecDepth 20000 in
theorem gX1_init_X0_init_n26 : GoodIn wsX1_init (wsX0_init) := ggX1_init_X0_init
set_option maxRecDepth 20000 in
theorem ggX1_init_X2_init : GoodIn wsX1_init wsX2_init := goodIn_r _ [20, 21, 2, 3, 22, 23, 31, 32, 33, 34, 35, 36] (by decide +kernel) (by decide +kernel)
set_option maxRecDepth 20000 in
theorem gX1_init_X2_init_n31 : GoodIn wsX1_init (wsX2_init) := ggX1_init_X2_init
theorem dX1_init_0 : decode cX1_init 0 = .ok (.aload_n 0, 1) := by decide +kernel
theorem dX1_init_1 : decode cX1_init 1 = .ok (.invokespecial 3, 3) := by decide +kernel
theorem dX1_init_4 : decode cX1_init 4 = .ok (.aload_n 0, 1) := by decide +kernel
theorem dX1_init_5 : decode cX1_init 5 = .ok (.iconst 1, 1) := by decide +kernel
theorem dX1_init_6 : decode cX1_init 6 = .ok (.putfield 9, 3) := by decide +kernel
theorem dX1_init_9 : decode cX1_init 9 = .ok (.aload_n 0, 1) := by decide +kernel
theorem dX1_init_10 : decode cX1_init 10 = .ok (.iconst 1, 1) := by decide +kernel
theorem dX1_init_11 : decode cX1_init 11 = .ok (.putfield 15, 3) := by decide +kernel
theorem dX1_init_14 : decode cX1_init 14 = .ok (.aload_n 0, 1) := by decide +kernel
theorem dX1_init_15 : decode cX1_init 15 = .ok (.bipush 6, 2) := by decide +kernel
theorem dX1_init_17 : decode cX1_init 17 = .ok (.anewarray 18, 3) := by decide +kernel
theorem dX1_init_20 : decode cX1_init 20 = .ok (.putfield 20, 3) := by decide +kernel
theorem dX1_init_23 : decode cX1_init 23 = .ok (.aload_n 0, 1) := by decide +kernel
theorem dX1_init_24 : decode cX1_init 24 = .ok (.new 24, 3) := by decide +kernel
theorem dX1_init_27 : decode cX1_init 27 = .ok (.dup, 1) := by decide +kernel
theorem dX1_init_28 : decode cX1_init 28 = .ok (.invokespecial 26, 3) := by decide +kernel
theorem dX1_init_31 : decode cX1_init 31 = .ok (.putfield 27, 3) := by decide +kernel
theorem dX1_init_34 : decode cX1_init 34 = .ok (.iconst 0, 1) := by decide +kernel
theorem dX1_init_35 : decode cX1_init 35 = .ok (.istore_n 1, 1) := by decide +kernel
theorem dX1_init_36 : decode cX1_init 36 = .ok (.iload_n 1, 1) := by decide +kernel
theorem dX1_init_37 : decode cX1_init 37 = .ok (.bipush 6, 2) := by decide +kernel
theorem dX1_init_39 : decode cX1_init 39 = .ok (.if_icmp .ge 22, 3) := by decide +kernel
theorem dX1_init_42 : decode cX1_init 42 = .ok (.aload_n 0, 1) := by decide +kernel
theorem dX1_init_43 : decode cX1_init 43 = .ok (.getfield 20, 3) := by decide +kernel
theorem dX1_init_46 : decode cX1_init 46 = .ok (.iload_n 1, 1) := by decide +kernel
theorem dX1_init_47 : decode cX1_init 47 = .ok (.new 18, 3) := by decide +kernel
theorem dX1_init_50 : decode cX1_init 50 = .ok (.dup, 1) := by decide +kernel
theorem dX1_init_51 : decode cX1_init 51 = .ok (.invokespecial 31, 3) := by decide +kernel
theorem dX1_init_54 : decode cX1_init 54 = .ok (.aastore, 1) := by decide +kernel
theorem dX1_init_55 : decode cX1_init 55 = .ok (.iinc 1 1, 3) := by decide +kernel
theorem dX1_init_58 : decode cX1_init 58 = .ok (.goto (-22), 3) := by decide +kernel
theorem dX1_init_61 : decode cX1_init 61 = .ok (.return_, 1) := by decide +kernel
set_option maxRecDepth 20000 in
theorem ggX1_setFirst_X5_within : GoodIn wsX1_setFirst wsX5_within := goodIn_r _ [6] (by decide +kernel) (by decide +kernel)
set_option maxRecDepth 20000 in
theorem gX1_setFirst_X5_within_n34 : GoodIn wsX1_setFirst (wsX5_within) := ggX1_setFirst_X5_within
theorem dX1_setFirst_0 : decode cX1_setFirst 0 = .ok (.iload_n 1, 1) := by decide +kernel
theorem dX1_setFirst_1 : decode cX1_setFirst 1 = .ok (.i2l, 1) := by decide +kernel
theorem dX1_setFirst_2 : decode cX1_setFirst 2 = .ok (.lconst 1, 1) := by decide +kernel
theorem dX1_setFirst_3 : decode cX1_setFirst 3 = .ok (.ldc2_w 32, 3) := by decide +kernel
theorem dX1_setFirst_6 : decode cX1_setFirst 6 = .ok (.invokestatic 34, 3) := by decide +kernel
theorem dX1_setFirst_9 : decode cX1_setFirst 9 = .ok (.ifCond .eq 15, 3) := by decide +kernel
theorem dX1_setFirst_12 : decode cX1_setFirst 12 = .ok (.iload_n 2, 1) := by decide +kernel
theorem dX1_setFirst_13 : decode cX1_setFirst 13 = .ok (.i2l, 1) := by decide +kernel
theorem dX1_setFirst_14 : decode cX1_setFirst 14 = .ok (.lconst 1, 1) := by decide +kernel
theorem dX1_setFirst_15 : decode cX1_setFirst 15 = .ok (.ldc2_w 32, 3) := by decide +kernel
theorem dX1_setFirst_18 : decode cX1_setFirst 18 = .ok (.invokestatic 34, 3) := by decide +kernel
theorem dX1_setFirst_21 : decode cX1_setFirst 21 = .ok (.ifCond .ne 6, 3) := by decide +kernel
theorem dX1_setFirst_24 : decode cX1_setFirst 24 = .ok (.bipush (-2), 2) := by decide +kernel
theorem dX1_setFirst_26 : decode cX1_setFirst 26 = .ok (.ireturn, 1) := by decide +kernel
theorem dX1_setFirst_27 : decode cX1_setFirst 27 = .ok (.aload_n 0, 1) := by decide +kernel
theorem dX1_setFirst_28 : decode cX1_setFirst 28 = .ok (.iload_n 1, 1) := by decide +kernel
theorem dX1_setFirst_29 : decode cX1_setFirst 29 = .ok (.putfield 9, 3) := by decide +kernel
theorem dX1_setFirst_32 : decode cX1_setFirst 32 = .ok (.aload_n 0, 1) := by decide +kernel
theorem dX1_setFirst_33 : decode cX1_setFirst 33 = .ok (.iload_n 2, 1) := by decide +kernel
theorem dX1_setFirst_34 : decode cX1_setFirst 34 = .ok (.putfield 15, 3) := by decide +kernel
theorem dX1_setFirst_37 : decode cX1_setFirst 37 = .ok (.iconst 1, 1) := by decide +kernel
theorem dX1_setFirst_38 : decode cX1_setFirst 38 = .ok (.ireturn, 1) := by decide +kernel
set_option maxRecDepth 20000 in
theorem ggX1_addMachine_X5_within : GoodIn wsX1_addMachine wsX5_within := goodIn_r _ [14] (by decide +kernel) (by decide +kernel)
set_option maxRecDepth 20000 in
theorem gX1_addMachine_X5_within_n34 : GoodIn wsX1_addMachine (wsX5_within) := ggX1_addMachine_X5_within
theorem dX1_addMachine_0 : decode cX1_addMachine 0 = .ok (.iload_n 1, 1) := by decide +kernel
theorem dX1_addMachine_1 : decode cX1_addMachine 1 = .ok (.i2l, 1) := by decide +kernel
theorem dX1_addMachine_2 : decode cX1_addMachine 2 = .ok (.lconst 1, 1) := by decide +kernel
theorem dX1_addMachine_3 : decode cX1_addMachine 3 = .ok (.ldc2_w 38, 3) := by decide +kernel
theorem dX1_addMachine_6 : decode cX1_addMachine 6 = .ok (.invokestatic 34, 3) := by decide +kernel
theorem dX1_addMachine_9 : decode cX1_addMachine 9 = .ok (.ifCond .eq 40, 3) := by decide +kernel
theorem dX1_addMachine_12 : decode cX1_addMachine 12 = .ok (.iload_n 2, 1) := by decide +kernel
theorem dX1_addMachine_13 : decode cX1_addMachine 13 = .ok (.i2l, 1) := by decide +kernel
theorem dX1_addMachine_14 : decode cX1_addMachine 14 = .ok (.lconst 1, 1) := by decide +kernel
theorem dX1_addMachine_15 : decode cX1_addMachine 15 = .ok (.ldc2_w 40, 3) := by decide +kernel
theorem dX1_addMachine_18 : decode cX1_addMachine 18 = .ok (.invokestatic 34, 3) := by decide +kernel
theorem dX1_addMachine_21 : decode cX1_addMachine 21 = .ok (.ifCond .eq 28, 3) := by decide +kernel
theorem dX1_addMachine_24 : decode cX1_addMachine 24 = .ok (.iload_n 3, 1) := by decide +kernel
theorem dX1_addMachine_25 : decode cX1_addMachine 25 = .ok (.i2l, 1) := by decide +kernel
theorem dX1_addMachine_26 : decode cX1_addMachine 26 = .ok (.lconst 1, 1) := by decide +kernel
theorem dX1_addMachine_27 : decode cX1_addMachine 27 = .ok (.ldc2_w 42, 3) := by decide +kernel
theorem dX1_addMachine_30 : decode cX1_addMachine 30 = .ok (.invokestatic 34, 3) := by decide +kernel
theorem dX1_addMachine_33 : decode cX1_addMachine 33 = .ok (.ifCond .eq 16, 3) := by decide +kernel
theorem dX1_addMachine_36 : decode cX1_addMachine 36 = .ok (.iload 4, 2) := by decide +kernel
theorem dX1_addMachine_38 : decode cX1_addMachine 38 = .ok (.i2l, 1) := by decide +kernel
theorem dX1_addMachine_39 : decode cX1_addMachine 39 = .ok (.lconst 0, 1) := by decide +kernel
theorem dX1_addMachine_40 : decode cX1_addMachine 40 = .ok (.ldc2_w 44, 3) := by decide +kernel
theorem dX1_addMachine_43 : decode cX1_addMachine 43 = .ok (.invokestatic 34, 3) := by decide +kernel
theorem dX1_addMachine_46 : decode cX1_addMachine 46 = .ok (.ifCond .ne 6, 3) := by decide +kernel
theorem dX1_addMachine_49 : decode cX1_addMachine 49 = .ok (.bipush (-2), 2) := by decide +kernel
theorem dX1_addMachine_51 : decode cX1_addMachine 51 = .ok (.ireturn, 1) := by decide +kernel
theorem dX1_addMachine_52 : decode cX1_addMachine 52 = .ok (.aload_n 0, 1) := by decide +kernel
theorem dX1_addMachine_53 : decode cX1_addMachine 53 = .ok (.getfield 46, 3) := by decide +kernel
theorem dX1_addMachine_56 : decode cX1_addMachine 56 = .ok (.bipush 6, 2) := by decide +kernel
theorem dX1_addMachine_58 : decode cX1_addMachine 58 = .ok (.if_icmp .lt 6, 3) := by decide +kernel
theorem dX1_addMachine_61 : decode cX1_addMachine 61 = .ok (.bipush (-4), 2) := by decide +kernel
theorem dX1_addMachine_63 : decode cX1_addMachine 63 = .ok (.ireturn, 1) := by decide +kernel
theorem dX1_addMachine_64 : decode cX1_addMachine 64 = .ok (.aload_n 0, 1) := by decide +kernel
theorem dX1_addMachine_65 : decode cX1_addMachine 65 = .ok (.getfield 20, 3) := by decide +kernel
theorem dX1_addMachine_68 : decode cX1_addMachine 68 = .ok (.aload_n 0, 1) := by decide +kernel
theorem dX1_addMachine_69 : decode cX1_addMachine 69 = .ok (.getfield 46, 3) := by decide +kernel
theorem dX1_addMachine_72 : decode cX1_addMachine 72 = .ok (.aaload, 1) := by decide +kernel
theorem dX1_addMachine_73 : decode cX1_addMachine 73 = .ok (.astore 5, 2) := by decide +kernel
theorem dX1_addMachine_75 : decode cX1_addMachine 75 = .ok (.aload 5, 2) := by decide +kernel
theorem dX1_addMachine_77 : decode cX1_addMachine 77 = .ok (.iload_n 1, 1) := by decide +kernel
theorem dX1_addMachine_78 : decode cX1_addMachine 78 = .ok (.putfield 49, 3) := by decide +kernel
theorem dX1_addMachine_81 : decode cX1_addMachine 81 = .ok (.aload 5, 2) := by decide +kernel
theorem dX1_addMachine_83 : decode cX1_addMachine 83 = .ok (.iload_n 2, 1) := by decide +kernel
theorem dX1_addMachine_84 : decode cX1_addMachine 84 = .ok (.putfield 52, 3) := by decide +kernel
theorem dX1_addMachine_87 : decode cX1_addMachine 87 = .ok (.aload 5, 2) := by decide +kernel
theorem dX1_addMachine_89 : decode cX1_addMachine 89 = .ok (.iload_n 3, 1) := by decide +kernel
theorem dX1_addMachine_90 : decode cX1_addMachine 90 = .ok (.putfield 55, 3) := by decide +kernel
theorem dX1_addMachine_93 : decode cX1_addMachine 93 = .ok (.aload 5, 2) := by decide +kernel
theorem dX1_addMachine_95 : decode cX1_addMachine 95 = .ok (.iload 4, 2) := by decide +kernel
theorem dX1_addMachine_97 : decode cX1_addMachine 97 = .ok (.putfield 58, 3) := by decide +kernel
theorem dX1_addMachine_100 : decode cX1_addMachine 100 = .ok (.aload 5, 2) := by decide +kernel
theorem dX1_addMachine_102 : decode cX1_addMachine 102 = .ok (.iconst 0, 1) := by decide +kernel
theorem dX1_addMachine_103 : decode cX1_addMachine 103 = .ok (.putfield 61, 3) := by decide +kernel
theorem dX1_addMachine_106 : decode cX1_addMachine 106 = .ok (.aload_n 0, 1) := by decide +kernel
theorem dX1_addMachine_107 : decode cX1_addMachine 107 = .ok (.dup, 1) := by decide +kernel
theorem dX1_addMachine_108 : decode cX1_addMachine 108 = .ok (.getfield 46, 3) := by decide +kernel
theorem dX1_addMachine_111 : decode cX1_addMachine 111 = .ok (.iconst 1, 1) := by decide +kernel
theorem dX1_addMachine_112 : decode cX1_addMachine 112 = .ok (.iadd, 1) := by decide +kernel
theorem dX1_addMachine_113 : decode cX1_addMachine 113 = .ok (.putfield 46, 3) := by decide +kernel
theorem dX1_addMachine_116 : decode cX1_addMachine 116 = .ok (.aload_n 0, 1) := by decide +kernel
theorem dX1_addMachine_117 : decode cX1_addMachine 117 = .ok (.getfield 46, 3) := by decide +kernel
theorem dX1_addMachine_120 : decode cX1_addMachine 120 = .ok (.iconst 1, 1) := by decide +kernel
theorem dX1_addMachine_121 : decode cX1_addMachine 121 = .ok (.isub, 1) := by decide +kernel
theorem dX1_addMachine_122 : decode cX1_addMachine 122 = .ok (.ireturn, 1) := by decide +kernel
set_option maxRecDepth 20000 in
theorem ggX1_addRoller_X5_within : GoodIn wsX1_addRoller wsX5_within := goodIn_r _ [8] (by decide +kernel) (by decide +kernel)
set_option maxRecDepth 20000 in
theorem gX1_addRoller_X5_within_n34 : GoodIn wsX1_addRoller (wsX5_within) := ggX1_addRoller_X5_within
theorem dX1_addRoller_0 : decode cX1_addRoller 0 = .ok (.iload_n 1, 1) := by decide +kernel
theorem dX1_addRoller_1 : decode cX1_addRoller 1 = .ok (.i2l, 1) := by decide +kernel
theorem dX1_addRoller_2 : decode cX1_addRoller 2 = .ok (.lconst 0, 1) := by decide +kernel
theorem dX1_addRoller_3 : decode cX1_addRoller 3 = .ok (.aload_n 0, 1) := by decide +kernel
theorem dX1_addRoller_4 : decode cX1_addRoller 4 = .ok (.getfield 46, 3) := by decide +kernel
theorem dX1_addRoller_7 : decode cX1_addRoller 7 = .ok (.iconst 1, 1) := by decide +kernel
theorem dX1_addRoller_8 : decode cX1_addRoller 8 = .ok (.isub, 1) := by decide +kernel
theorem dX1_addRoller_9 : decode cX1_addRoller 9 = .ok (.i2l, 1) := by decide +kernel
theorem dX1_addRoller_10 : decode cX1_addRoller 10 = .ok (.invokestatic 34, 3) := by decide +kernel
theorem dX1_addRoller_13 : decode cX1_addRoller 13 = .ok (.ifCond .eq 15, 3) := by decide +kernel
theorem dX1_addRoller_16 : decode cX1_addRoller 16 = .ok (.iload_n 2, 1) := by decide +kernel
theorem dX1_addRoller_17 : decode cX1_addRoller 17 = .ok (.i2l, 1) := by decide +kernel
theorem dX1_addRoller_18 : decode cX1_addRoller 18 = .ok (.lconst 1, 1) := by decide +kernel
theorem dX1_addRoller_19 : decode cX1_addRoller 19 = .ok (.ldc2_w 64, 3) := by decide +kernel
theorem dX1_addRoller_22 : decode cX1_addRoller 22 = .ok (.invokestatic 34, 3) := by decide +kernel
theorem dX1_addRoller_25 : decode cX1_addRoller 25 = .ok (.ifCond .ne 6, 3) := by decide +kernel
theorem dX1_addRoller_28 : decode cX1_addRoller 28 = .ok (.bipush (-2), 2) := by decide +kernel
theorem dX1_addRoller_30 : decode cX1_addRoller 30 = .ok (.ireturn, 1) := by decide +kernel
theorem dX1_addRoller_31 : decode cX1_addRoller 31 = .ok (.aload_n 0, 1) := by decide +kernel
theorem dX1_addRoller_32 : decode cX1_addRoller 32 = .ok (.getfield 20, 3) := by decide +kernel
theorem dX1_addRoller_35 : decode cX1_addRoller 35 = .ok (.iload_n 1, 1) := by decide +kernel
theorem dX1_addRoller_36 : decode cX1_addRoller 36 = .ok (.aaload, 1) := by decide +kernel
theorem dX1_addRoller_37 : decode cX1_addRoller 37 = .ok (.astore_n 3, 1) := by decide +kernel
theorem dX1_addRoller_38 : decode cX1_addRoller 38 = .ok (.aload_n 3, 1) := by decide +kernel
theorem dX1_addRoller_39 : decode cX1_addRoller 39 = .ok (.getfield 61, 3) := by decide +kernel
theorem dX1_addRoller_42 : decode cX1_addRoller 42 = .ok (.iconst 3, 1) := by decide +kernel
theorem dX1_addRoller_43 : decode cX1_addRoller 43 = .ok (.if_icmp .lt 6, 3) := by decide +kernel
theorem dX1_addRoller_46 : decode cX1_addRoller 46 = .ok (.bipush (-4), 2) := by decide +kernel
theorem dX1_addRoller_48 : decode cX1_addRoller 48 = .ok (.ireturn, 1) := by decide +kernel
theorem dX1_addRoller_49 : decode cX1_addRoller 49 = .ok (.aload_n 3, 1) := by decide +kernel
theorem dX1_addRoller_50 : decode cX1_addRoller 50 = .ok (.getfield 66, 3) := by decide +kernel
theorem dX1_addRoller_53 : decode cX1_addRoller 53 = .ok (.aload_n 3, 1) := by decide +kernel
theorem dX1_addRoller_54 : decode cX1_addRoller 54 = .ok (.getfield 61, 3) := by decide +kernel
theorem dX1_addRoller_57 : decode cX1_addRoller 57 = .ok (.iload_n 2, 1) := by decide +kernel
theorem dX1_addRoller_58 : decode cX1_addRoller 58 = .ok (.iastore, 1) := by decide +kernel
theorem dX1_addRoller_59 : decode cX1_addRoller 59 = .ok (.aload_n 3, 1) := by decide +kernel
theorem dX1_addRoller_60 : decode cX1_addRoller 60 = .ok (.dup, 1) := by decide +kernel
theorem dX1_addRoller_61 : decode cX1_addRoller 61 = .ok (.getfield 61, 3) := by decide +kernel
theorem dX1_addRoller_64 : decode cX1_addRoller 64 = .ok (.iconst 1, 1) := by decide +kernel
theorem dX1_addRoller_65 : decode cX1_addRoller 65 = .ok (.iadd, 1) := by decide +kernel
theorem dX1_addRoller_66 : decode cX1_addRoller 66 = .ok (.putfield 61, 3) := by decide +kernel
theorem dX1_addRoller_69 : decode cX1_addRoller 69 = .ok (.aload_n 3, 1) := by decide +kernel
theorem dX1_addRoller_70 : decode cX1_addRoller 70 = .ok (.getfield 61, 3) := by decide +kernel
theorem dX1_addRoller_73 : decode cX1_addRoller 73 = .ok (.iconst 1, 1) := by decide +kernel
theorem dX1_addRoller_74 : decode cX1_addRoller 74 = .ok (.isub, 1) := by decide +kernel
theorem dX1_addRoller_75 : decode cX1_addRoller 75 = .ok (.ireturn, 1) := by decide +kernel
theorem dX1_removeAll_0 : decode cX1_removeAll 0 = .ok (.aload_n 0, 1) := by decide +kernel
theorem dX1_removeAll_1 : decode cX1_removeAll 1 = .ok (.getfield 46, 3) := by decide +kernel
theorem dX1_removeAll_4 : decode cX1_removeAll 4 = .ok (.istore_n 1, 1) := by decide +kernel
theorem dX1_removeAll_5 : decode cX1_removeAll 5 = .ok (.aload_n 0, 1) := by decide +kernel
theorem dX1_removeAll_6 : decode cX1_removeAll 6 = .ok (.iconst 0, 1) := by decide +kernel
theorem dX1_removeAll_7 : decode cX1_removeAll 7 = .ok (.putfield 46, 3) := by decide +kernel
theorem dX1_removeAll_10 : decode cX1_removeAll 10 = .ok (.iload_n 1, 1) := by decide +kernel
theorem dX1_removeAll_11 : decode cX1_removeAll 11 = .ok (.ireturn, 1) := by decide +kernel
theorem dX1_countRollers_0 : decode cX1_countRollers 0 = .ok (.iconst 0, 1) := by decide +kernel
theorem dX1_countRollers_1 : decode cX1_countRollers 1 = .ok (.istore_n 1, 1) := by decide +kernel
theorem dX1_countRollers_2 : decode cX1_countRollers 2 = .ok (.iconst 0, 1) := by decide +kernel
theorem dX1_countRollers_3 : decode cX1_countRollers 3 = .ok (.istore_n 2, 1) := by decide +kernel
theorem dX1_countRollers_4 : decode cX1_countRollers 4 = .ok (.iload_n 2, 1) := by decide +kernel
theorem dX1_countRollers_5 : decode cX1_countRollers 5 = .ok (.aload_n 0, 1) := by decide +kernel
theorem dX1_countRollers_6 : decode cX1_countRollers 6 = .ok (.getfield 46, 3) := by decide +kernel
theorem dX1_countRollers_9 : decode cX1_countRollers 9 = .ok (.if_icmp .ge 21, 3) := by decide +kernel
theorem dX1_countRollers_12 : decode cX1_countRollers 12 = .ok (.iload_n 1, 1) := by decide +kernel
theorem dX1_countRollers_13 : decode cX1_countRollers 13 = .ok (.aload_n 0, 1) := by decide +kernel
theorem dX1_countRollers_14 : decode cX1_countRollers 14 = .ok (.getfield 20, 3) := by decide +kernel
theorem dX1_countRollers_17 : decode cX1_countRollers 17 = .ok (.iload_n 2, 1) := by decide +kernel
theorem dX1_countRollers_18 : decode cX1_countRollers 18 = .ok (.aaload, 1) := by decide +kernel
theorem dX1_countRollers_19 : decode cX1_countRollers 19 = .ok (.getfield 61, 3) := by decide +kernel
theorem dX1_countRollers_22 : decode cX1_countRollers 22 = .ok (.iadd, 1) := by decide +kernel
theorem dX1_countRollers_23 : decode cX1_countRollers 23 = .ok (.istore_n 1, 1) := by decide +kernel
theorem dX1_countRollers_24 : decode cX1_countRollers 24 = .ok (.iinc 2 1, 3) := by decide +kernel
theorem dX1_countRollers_27 : decode cX1_countRollers 27 = .ok (.goto (-23), 3) := by decide +kernel
theorem dX1_countRollers_30 : decode cX1_countRollers 30 = .ok (.iload_n 1, 1) := by decide +kernel
theorem dX1_countRollers_31 : decode cX1_countRollers 31 = .ok (.ireturn, 1) := by decide +kernel
set_option maxRecDepth 20000 in
theorem ggX1_tellCount_X5_within : GoodIn wsX1_tellCount wsX5_within := goodIn_r _ [6] (by decide +kernel) (by decide +kernel)
set_option maxRecDepth 20000 in
theorem gX1_tellCount_X5_within_n34 : GoodIn wsX1_tellCount (wsX5_within) := ggX1_tellCount_X5_within
set_option maxRecDepth 20000 in
theorem ggX1_tellCount_X1_reckonCount : GoodIn wsX1_tellCount wsX1_reckonCount := goodIn_r _ [11, 12, 13, 14, 15, 16, 17, 18, 19, 20, 21, 22, 23, 24, 25, 26, 27, 28, 29, 30, 31, 32, 33, 34, 35, 36, 37, 38, 39, 40, 41, 42, 47, 48, 49, 50, 51, 52, 53, 54, 55, 56, 57, 58, 59] (by decide +kernel) (by decide +kernel)
set_option maxRecDepth 20000 in
theorem gX1_tellCount_X1_reckonCount : GoodIn wsX1_tellCount (wsV RX1 72 RX1 yX1_reckonCount wsX1_reckonCount) := goodIn_app (goodIn_of _ (by decide +kernel)) ggX1_tellCount_X1_reckonCount
set_option maxRecDepth 20000 in
theorem ggX1_tellCount_X1_toldPart : GoodIn wsX1_tellCount wsX1_toldPart := goodIn_r _ [46, 12, 21, 23, 47, 48, 49, 50, 51, 58, 59] (by decide +kernel) (by decide +kernel)
set_option maxRecDepth 20000 in
theorem gX1_tellCount_X1_toldPart : GoodIn wsX1_tellCount (wsV RX1 76 RX1 yX1_toldPart wsX1_toldPart) := goodIn_app (goodIn_of _ (by decide +kernel)) ggX1_tellCount_X1_toldPart
theorem dX1_tellCount_0 : decode cX1_tellCount 0 = .ok (.iload_n 1, 1) := by decide +kernel
theorem dX1_tellCount_1 : decode cX1_tellCount 1 = .ok (.i2l, 1) := by decide +kernel
theorem dX1_tellCount_2 : decode cX1_tellCount 2 = .ok (.lconst 0, 1) := by decide +kernel
theorem dX1_tellCount_3 : decode cX1_tellCount 3 = .ok (.aload_n 0, 1) := by decide +kernel
theorem dX1_tellCount_4 : decode cX1_tellCount 4 = .ok (.getfield 46, 3) := by decide +kernel
theorem dX1_tellCount_7 : decode cX1_tellCount 7 = .ok (.i2l, 1) := by decide +kernel
theorem dX1_tellCount_8 : decode cX1_tellCount 8 = .ok (.invokestatic 34, 3) := by decide +kernel
theorem dX1_tellCount_11 : decode cX1_tellCount 11 = .ok (.ifCond .eq 13, 3) := by decide +kernel
theorem dX1_tellCount_14 : decode cX1_tellCount 14 = .ok (.iload_n 2, 1) := by decide +kernel
theorem dX1_tellCount_15 : decode cX1_tellCount 15 = .ok (.i2l, 1) := by decide +kernel
theorem dX1_tellCount_16 : decode cX1_tellCount 16 = .ok (.lconst 0, 1) := by decide +kernel
theorem dX1_tellCount_17 : decode cX1_tellCount 17 = .ok (.lconst 1, 1) := by decide +kernel
theorem dX1_tellCount_18 : decode cX1_tellCount 18 = .ok (.invokestatic 34, 3) := by decide +kernel
theorem dX1_tellCount_21 : decode cX1_tellCount 21 = .ok (.ifCond .ne 7, 3) := by decide +kernel
theorem dX1_tellCount_24 : decode cX1_tellCount 24 = .ok (.ldc2_w 70, 3) := by decide +kernel
theorem dX1_tellCount_27 : decode cX1_tellCount 27 = .ok (.lreturn, 1) := by decide +kernel
theorem dX1_tellCount_28 : decode cX1_tellCount 28 = .ok (.aload_n 0, 1) := by decide +kernel
theorem dX1_tellCount_29 : decode cX1_tellCount 29 = .ok (.iload_n 1, 1) := by decide +kernel
theorem dX1_tellCount_30 : decode cX1_tellCount 30 = .ok (.invokevirtual 72, 3) := by decide +kernel
theorem dX1_tellCount_33 : decode cX1_tellCount 33 = .ok (.ifCond .eq 11, 3) := by decide +kernel
theorem dX1_tellCount_36 : decode cX1_tellCount 36 = .ok (.aload_n 0, 1) := by decide +kernel
theorem dX1_tellCount_37 : decode cX1_tellCount 37 = .ok (.iload_n 2, 1) := by decide +kernel
theorem dX1_tellCount_38 : decode cX1_tellCount 38 = .ok (.invokevirtual 76, 3) := by decide +kernel
theorem dX1_tellCount_41 : decode cX1_tellCount 41 = .ok (.goto 6, 3) := by decide +kernel
theorem dX1_tellCount_44 : decode cX1_tellCount 44 = .ok (.ldc2_w 80, 3) := by decide +kernel
theorem dX1_tellCount_47 : decode cX1_tellCount 47 = .ok (.lreturn, 1) := by decide +kernel
set_option maxRecDepth 20000 in
theorem ggX1_tellPeriod_X5_within : GoodIn wsX1_tellPeriod wsX5_within := goodIn_r _ [7] (by decide +kernel) (by decide +kernel)
set_option maxRecDepth 20000 in
theorem gX1_tellPeriod_X5_within_n34 : GoodIn wsX1_tellPeriod (wsX5_within) := ggX1_tellPeriod_X5_within
set_option maxRecDepth 20000 in
theorem ggX1_tellPeriod_X1_reckonPeriod : GoodIn wsX1_tellPeriod wsX1_reckonPeriod := goodIn_r _ [12, 13, 2, 14, 1, 15, 16, 17, 18, 19, 20, 21, 22, 23, 24, 25, 26, 27, 28, 29, 30, 31, 32, 33, 34, 35, 42, 43, 44, 45, 46, 47, 48, 49, 50, 51, 52, 53, 54] (by decide +kernel) (by decide +kernel)
set_option maxRecDepth 20000 in
theorem gX1_tellPeriod_X1_reckonPeriod : GoodIn wsX1_tellPeriod (wsV RX1 82 RX1 yX1_reckonPeriod wsX1_reckonPeriod) := goodIn_app (goodIn_of _ (by decide +kernel)) ggX1_tellPeriod_X1_reckonPeriod
set_option maxRecDepth 20000 in
theorem ggX1_tellPeriod_X1_toldPart : GoodIn wsX1_tellPeriod wsX1_toldPart := goodIn_r _ [39, 13, 40, 41, 42, 43, 44, 45, 46, 53, 54] (by decide +kernel) (by decide +kernel)
set_option maxRecDepth 20000 in
theorem gX1_tellPeriod_X1_toldPart : GoodIn wsX1_tellPeriod (wsV RX1 76 RX1 yX1_toldPart wsX1_toldPart) := goodIn_app (goodIn_of _ (by decide +kernel)) ggX1_tellPeriod_X1_toldPart
theorem dX1_tellPeriod_0 : decode cX1_tellPeriod 0 = .ok (.iload_n 1, 1) := by decide +kernel
theorem dX1_tellPeriod_1 : decode cX1_tellPeriod 1 = .ok (.i2l, 1) := by decide +kernel
theorem dX1_tellPeriod_2 : decode cX1_tellPeriod 2 = .ok (.lconst 0, 1) := by decide +kernel
theorem dX1_tellPeriod_3 : decode cX1_tellPeriod 3 = .ok (.aload_n 0, 1) := by decide +kernel
theorem dX1_tellPeriod_4 : decode cX1_tellPeriod 4 = .ok (.getfield 46, 3) := by decide +kernel
theorem dX1_tellPeriod_7 : decode cX1_tellPeriod 7 = .ok (.iconst 1, 1) := by decide +kernel
theorem dX1_tellPeriod_8 : decode cX1_tellPeriod 8 = .ok (.isub, 1) := by decide +kernel
theorem dX1_tellPeriod_9 : decode cX1_tellPeriod 9 = .ok (.i2l, 1) := by decide +kernel
theorem dX1_tellPeriod_10 : decode cX1_tellPeriod 10 = .ok (.invokestatic 34, 3) := by decide +kernel
theorem dX1_tellPeriod_13 : decode cX1_tellPeriod 13 = .ok (.ifCond .eq 34, 3) := by decide +kernel
theorem dX1_tellPeriod_16 : decode cX1_tellPeriod 16 = .ok (.iload_n 3, 1) := by decide +kernel
theorem dX1_tellPeriod_17 : decode cX1_tellPeriod 17 = .ok (.i2l, 1) := by decide +kernel
theorem dX1_tellPeriod_18 : decode cX1_tellPeriod 18 = .ok (.lconst 0, 1) := by decide +kernel
theorem dX1_tellPeriod_19 : decode cX1_tellPeriod 19 = .ok (.lconst 1, 1) := by decide +kernel
theorem dX1_tellPeriod_20 : decode cX1_tellPeriod 20 = .ok (.invokestatic 34, 3) := by decide +kernel
theorem dX1_tellPeriod_23 : decode cX1_tellPeriod 23 = .ok (.ifCond .eq 24, 3) := by decide +kernel
theorem dX1_tellPeriod_26 : decode cX1_tellPeriod 26 = .ok (.iload_n 2, 1) := by decide +kernel
theorem dX1_tellPeriod_27 : decode cX1_tellPeriod 27 = .ok (.i2l, 1) := by decide +kernel
theorem dX1_tellPeriod_28 : decode cX1_tellPeriod 28 = .ok (.lconst 0, 1) := by decide +kernel
theorem dX1_tellPeriod_29 : decode cX1_tellPeriod 29 = .ok (.aload_n 0, 1) := by decide +kernel
theorem dX1_tellPeriod_30 : decode cX1_tellPeriod 30 = .ok (.getfield 20, 3) := by decide +kernel
theorem dX1_tellPeriod_33 : decode cX1_tellPeriod 33 = .ok (.iload_n 1, 1) := by decide +kernel
theorem dX1_tellPeriod_34 : decode cX1_tellPeriod 34 = .ok (.aaload, 1) := by decide +kernel
theorem dX1_tellPeriod_35 : decode cX1_tellPeriod 35 = .ok (.getfield 61, 3) := by decide +kernel
theorem dX1_tellPeriod_38 : decode cX1_tellPeriod 38 = .ok (.iconst 1, 1) := by decide +kernel
theorem dX1_tellPeriod_39 : decode cX1_tellPeriod 39 = .ok (.isub, 1) := by decide +kernel
theorem dX1_tellPeriod_40 : decode cX1_tellPeriod 40 = .ok (.i2l, 1) := by decide +kernel
theorem dX1_tellPeriod_41 : decode cX1_tellPeriod 41 = .ok (.invokestatic 34, 3) := by decide +kernel
theorem dX1_tellPeriod_44 : decode cX1_tellPeriod 44 = .ok (.ifCond .ne 7, 3) := by decide +kernel
theorem dX1_tellPeriod_47 : decode cX1_tellPeriod 47 = .ok (.ldc2_w 70, 3) := by decide +kernel
theorem dX1_tellPeriod_50 : decode cX1_tellPeriod 50 = .ok (.lreturn, 1) := by decide +kernel
theorem dX1_tellPeriod_51 : decode cX1_tellPeriod 51 = .ok (.aload_n 0, 1) := by decide +kernel
theorem dX1_tellPeriod_52 : decode cX1_tellPeriod 52 = .ok (.iload_n 1, 1) := by decide +kernel
theorem dX1_tellPeriod_53 : decode cX1_tellPeriod 53 = .ok (.iload_n 2, 1) := by decide +kernel
theorem dX1_tellPeriod_54 : decode cX1_tellPeriod 54 = .ok (.invokevirtual 82, 3) := by decide +kernel
theorem dX1_tellPeriod_57 : decode cX1_tellPeriod 57 = .ok (.aload_n 0, 1) := by decide +kernel
theorem dX1_tellPeriod_58 : decode cX1_tellPeriod 58 = .ok (.iload_n 3, 1) := by decide +kernel
theorem dX1_tellPeriod_59 : decode cX1_tellPeriod 59 = .ok (.invokevirtual 76, 3) := by decide +kernel
theorem dX1_tellPeriod_62 : decode cX1_tellPeriod 62 = .ok (.lreturn, 1) := by decide +kernel
set_option maxRecDepth 20000 in
theorem ggX1_findNear_X5_within : GoodIn wsX1_findNear wsX5_within := goodIn_r _ [8] (by decide +kernel) (by decide +kernel)
set_option maxRecDepth 20000 in
theorem gX1_findNear_X5_within_n34 : GoodIn wsX1_findNear (wsX5_within) := ggX1_findNear_X5_within
set_option maxRecDepth 20000 in
theorem ggX1_findNear_X1_isNear : GoodIn wsX1_findNear wsX1_isNear := goodIn_r _ [13, 14, 15, 16, 17, 18, 19, 20, 12, 21, 4, 22, 3, 23, 24, 25, 26, 27, 28, 29, 30, 31, 32, 33, 34, 35, 36, 37, 38, 39, 40, 41, 42, 43, 6, 7, 8, 44, 45, 46, 47, 48, 55, 56, 49, 50, 51, 52, 53, 54] (by decide +kernel) (by decide +kernel)
set_option maxRecDepth 20000 in
theorem gX1_findNear_X1_isNear : GoodIn wsX1_findNear (wsV RX1 90 RX1 yX1_isNear wsX1_isNear) := goodIn_app (goodIn_of _ (by decide +kernel)) ggX1_findNear_X1_isNear
theorem dX1_findNear_0 : decode cX1_findNear 0 = .ok (.iload_n 1, 1) := by decide +kernel
theorem dX1_findNear_1 : decode cX1_findNear 1 = .ok (.i2l, 1) := by decide +kernel
theorem dX1_findNear_2 : decode cX1_findNear 2 = .ok (.lconst 1, 1) := by decide +kernel
theorem dX1_findNear_3 : decode cX1_findNear 3 = .ok (.ldc2_w 86, 3) := by decide +kernel
theorem dX1_findNear_6 : decode cX1_findNear 6 = .ok (.invokestatic 34, 3) := by decide +kernel
theorem dX1_findNear_9 : decode cX1_findNear 9 = .ok (.ifCond .eq 19, 3) := by decide +kernel
theorem dX1_findNear_12 : decode cX1_findNear 12 = .ok (.iload_n 2, 1) := by decide +kernel
theorem dX1_findNear_13 : decode cX1_findNear 13 = .ok (.i2l, 1) := by decide +kernel
theorem dX1_findNear_14 : decode cX1_findNear 14 = .ok (.lconst 0, 1) := by decide +kernel
theorem dX1_findNear_15 : decode cX1_findNear 15 = .ok (.ldc2_w 88, 3) := by decide +kernel
theorem dX1_findNear_18 : decode cX1_findNear 18 = .ok (.invokestatic 34, 3) := by decide +kernel
theorem dX1_findNear_21 : decode cX1_findNear 21 = .ok (.ifCond .eq 7, 3) := by decide +kernel
theorem dX1_findNear_24 : decode cX1_findNear 24 = .ok (.iload_n 3, 1) := by decide +kernel
theorem dX1_findNear_25 : decode cX1_findNear 25 = .ok (.ifCond .ge 6, 3) := by decide +kernel
theorem dX1_findNear_28 : decode cX1_findNear 28 = .ok (.bipush (-2), 2) := by decide +kernel
theorem dX1_findNear_30 : decode cX1_findNear 30 = .ok (.ireturn, 1) := by decide +kernel
theorem dX1_findNear_31 : decode cX1_findNear 31 = .ok (.iconst 0, 1) := by decide +kernel
theorem dX1_findNear_32 : decode cX1_findNear 32 = .ok (.istore 4, 2) := by decide +kernel
theorem dX1_findNear_34 : decode cX1_findNear 34 = .ok (.iconst 0, 1) := by decide +kernel
theorem dX1_findNear_35 : decode cX1_findNear 35 = .ok (.istore 5, 2) := by decide +kernel
theorem dX1_findNear_37 : decode cX1_findNear 37 = .ok (.iload 5, 2) := by decide +kernel
theorem dX1_findNear_39 : decode cX1_findNear 39 = .ok (.aload_n 0, 1) := by decide +kernel
theorem dX1_findNear_40 : decode cX1_findNear 40 = .ok (.getfield 46, 3) := by decide +kernel
theorem dX1_findNear_43 : decode cX1_findNear 43 = .ok (.if_icmp .ge 67, 3) := by decide +kernel
theorem dX1_findNear_46 : decode cX1_findNear 46 = .ok (.iconst 0, 1) := by decide +kernel
theorem dX1_findNear_47 : decode cX1_findNear 47 = .ok (.istore 6, 2) := by decide +kernel
theorem dX1_findNear_49 : decode cX1_findNear 49 = .ok (.iload 6, 2) := by decide +kernel
theorem dX1_findNear_51 : decode cX1_findNear 51 = .ok (.aload_n 0, 1) := by decide +kernel
theorem dX1_findNear_52 : decode cX1_findNear 52 = .ok (.getfield 20, 3) := by decide +kernel
theorem dX1_findNear_55 : decode cX1_findNear 55 = .ok (.iload 5, 2) := by decide +kernel
theorem dX1_findNear_57 : decode cX1_findNear 57 = .ok (.aaload, 1) := by decide +kernel
theorem dX1_findNear_58 : decode cX1_findNear 58 = .ok (.getfield 61, 3) := by decide +kernel
theorem dX1_findNear_61 : decode cX1_findNear 61 = .ok (.if_icmp .ge 43, 3) := by decide +kernel
theorem dX1_findNear_64 : decode cX1_findNear 64 = .ok (.aload_n 0, 1) := by decide +kernel
theorem dX1_findNear_65 : decode cX1_findNear 65 = .ok (.iload 5, 2) := by decide +kernel
theorem dX1_findNear_67 : decode cX1_findNear 67 = .ok (.iload 6, 2) := by decide +kernel
theorem dX1_findNear_69 : decode cX1_findNear 69 = .ok (.iload_n 1, 1) := by decide +kernel
theorem dX1_findNear_70 : decode cX1_findNear 70 = .ok (.iload_n 2, 1) := by decide +kernel
theorem dX1_findNear_71 : decode cX1_findNear 71 = .ok (.invokevirtual 90, 3) := by decide +kernel
theorem dX1_findNear_74 : decode cX1_findNear 74 = .ok (.ifCond .ne 6, 3) := by decide +kernel
theorem dX1_findNear_77 : decode cX1_findNear 77 = .ok (.goto 21, 3) := by decide +kernel
theorem dX1_findNear_80 : decode cX1_findNear 80 = .ok (.iload 4, 2) := by decide +kernel
theorem dX1_findNear_82 : decode cX1_findNear 82 = .ok (.iload_n 3, 1) := by decide +kernel
theorem dX1_findNear_83 : decode cX1_findNear 83 = .ok (.if_icmp .ne 12, 3) := by decide +kernel
theorem dX1_findNear_86 : decode cX1_findNear 86 = .ok (.bipush 8, 2) := by decide +kernel
theorem dX1_findNear_88 : decode cX1_findNear 88 = .ok (.iload 5, 2) := by decide +kernel
theorem dX1_findNear_90 : decode cX1_findNear 90 = .ok (.imul, 1) := by decide +kernel
theorem dX1_findNear_91 : decode cX1_findNear 91 = .ok (.iload 6, 2) := by decide +kernel
theorem dX1_findNear_93 : decode cX1_findNear 93 = .ok (.iadd, 1) := by decide +kernel
theorem dX1_findNear_94 : decode cX1_findNear 94 = .ok (.ireturn, 1) := by decide +kernel
theorem dX1_findNear_95 : decode cX1_findNear 95 = .ok (.iinc 4 1, 3) := by decide +kernel
theorem dX1_findNear_98 : decode cX1_findNear 98 = .ok (.iinc 6 1, 3) := by decide +kernel
theorem dX1_findNear_101 : decode cX1_findNear 101 = .ok (.goto (-52), 3) := by decide +kernel
theorem dX1_findNear_104 : decode cX1_findNear 104 = .ok (.iinc 5 1, 3) := by decide +kernel
theorem dX1_findNear_107 : decode cX1_findNear 107 = .ok (.goto (-70), 3) := by decide +kernel
theorem dX1_findNear_110 : decode cX1_findNear 110 = .ok (.iconst (-1), 1) := by decide +kernel
theorem dX1_findNear_111 : decode cX1_findNear 111 = .ok (.ireturn, 1) := by decide +kernel
theorem dX1_toldPart_0 : decode cX1_toldPart 0 = .ok (.iload_n 1, 1) := by decide +kernel
theorem dX1_toldPart_1 : decode cX1_toldPart 1 = .ok (.ifCond .ne 13, 3) := by decide +kernel
theorem dX1_toldPart_4 : decode cX1_toldPart 4 = .ok (.aload_n 0, 1) := by decide +kernel
theorem dX1_toldPart_5 : decode cX1_toldPart 5 = .ok (.getfield 27, 3) := by decide +kernel
theorem dX1_toldPart_8 : decode cX1_toldPart 8 = .ok (.getfield 94, 3) := by decide +kernel
theorem dX1_toldPart_11 : decode cX1_toldPart 11 = .ok (.goto 10, 3) := by decide +kernel
theorem dX1_toldPart_14 : decode cX1_toldPart 14 = .ok (.aload_n 0, 1) := by decide +kernel
theorem dX1_toldPart_15 : decode cX1_toldPart 15 = .ok (.getfield 27, 3) := by decide +kernel
theorem dX1_toldPart_18 : decode cX1_toldPart 18 = .ok (.getfield 97, 3) := by decide +kernel
theorem dX1_toldPart_21 : decode cX1_toldPart 21 = .ok (.lreturn, 1) := by decide +kernel
set_option maxRecDepth 20000 in
theorem ggX1_reckonCount_X0_set : GoodIn wsX1_reckonCount wsX0_set := goodIn_r _ [17, 18, 19, 20, 21, 22, 16, 23, 24, 25, 26, 43, 44] (by decide +kernel) (by decide +kernel)
set_option maxRecDepth 20000 in
theorem gX1_reckonCount_X0_set : GoodIn wsX1_reckonCount (wsV RX1 99 RX0 yX0_set wsX0_set) := goodIn_app (goodIn_of _ (by decide +kernel)) ggX1_reckonCount_X0_set
set_option maxRecDepth 20000 in
theorem ggX1_reckonCount_X0_times : GoodIn wsX1_reckonCount wsX0_times := goodIn_r _ [30, 18, 19, 31, 14, 15, 16, 17, 20, 21, 22, 23, 24, 25, 26, 43, 44] (by decide +kernel) (by decide +kernel)
set_option maxRecDepth 20000 in
theorem gX1_reckonCount_X0_times : GoodIn wsX1_reckonCount (wsV RX1 103 RX0 yX0_times wsX0_times) := goodIn_app (goodIn_of _ (by decide +kernel)) ggX1_reckonCount_X0_times
theorem dX1_reckonCount_0 : decode cX1_reckonCount 0 = .ok (.aload_n 0, 1) := by decide +kernel
theorem dX1_reckonCount_1 : decode cX1_reckonCount 1 = .ok (.getfield 27, 3) := by decide +kernel
theorem dX1_reckonCount_4 : decode cX1_reckonCount 4 = .ok (.aload_n 0, 1) := by decide +kernel
theorem dX1_reckonCount_5 : decode cX1_reckonCount 5 = .ok (.getfield 9, 3) := by decide +kernel
theorem dX1_reckonCount_8 : decode cX1_reckonCount 8 = .ok (.i2l, 1) := by decide +kernel
theorem dX1_reckonCount_9 : decode cX1_reckonCount 9 = .ok (.aload_n 0, 1) := by decide +kernel
theorem dX1_reckonCount_10 : decode cX1_reckonCount 10 = .ok (.getfield 15, 3) := by decide +kernel
theorem dX1_reckonCount_13 : decode cX1_reckonCount 13 = .ok (.i2l, 1) := by decide +kernel
theorem dX1_reckonCount_14 : decode cX1_reckonCount 14 = .ok (.invokevirtual 99, 3) := by decide +kernel
theorem dX1_reckonCount_17 : decode cX1_reckonCount 17 = .ok (.iconst 0, 1) := by decide +kernel
theorem dX1_reckonCount_18 : decode cX1_reckonCount 18 = .ok (.istore_n 2, 1) := by decide +kernel
theorem dX1_reckonCount_19 : decode cX1_reckonCount 19 = .ok (.iload_n 2, 1) := by decide +kernel
theorem dX1_reckonCount_20 : decode cX1_reckonCount 20 = .ok (.iload_n 1, 1) := by decide +kernel
theorem dX1_reckonCount_21 : decode cX1_reckonCount 21 = .ok (.if_icmp .ge 83, 3) := by decide +kernel
theorem dX1_reckonCount_24 : decode cX1_reckonCount 24 = .ok (.aload_n 0, 1) := by decide +kernel
theorem dX1_reckonCount_25 : decode cX1_reckonCount 25 = .ok (.getfield 20, 3) := by decide +kernel
theorem dX1_reckonCount_28 : decode cX1_reckonCount 28 = .ok (.iload_n 2, 1) := by decide +kernel
theorem dX1_reckonCount_29 : decode cX1_reckonCount 29 = .ok (.aaload, 1) := by decide +kernel
theorem dX1_reckonCount_30 : decode cX1_reckonCount 30 = .ok (.astore_n 3, 1) := by decide +kernel
theorem dX1_reckonCount_31 : decode cX1_reckonCount 31 = .ok (.aload_n 0, 1) := by decide +kernel
theorem dX1_reckonCount_32 : decode cX1_reckonCount 32 = .ok (.getfield 27, 3) := by decide +kernel
theorem dX1_reckonCount_35 : decode cX1_reckonCount 35 = .ok (.aload_n 3, 1) := by decide +kernel
theorem dX1_reckonCount_36 : decode cX1_reckonCount 36 = .ok (.getfield 49, 3) := by decide +kernel
theorem dX1_reckonCount_39 : decode cX1_reckonCount 39 = .ok (.i2l, 1) := by decide +kernel
theorem dX1_reckonCount_40 : decode cX1_reckonCount 40 = .ok (.sipush 1000, 3) := by decide +kernel
theorem dX1_reckonCount_43 : decode cX1_reckonCount 43 = .ok (.aload_n 3, 1) := by decide +kernel
theorem dX1_reckonCount_44 : decode cX1_reckonCount 44 = .ok (.getfield 58, 3) := by decide +kernel
theorem dX1_reckonCount_47 : decode cX1_reckonCount 47 = .ok (.isub, 1) := by decide +kernel
theorem dX1_reckonCount_48 : decode cX1_reckonCount 48 = .ok (.i2l, 1) := by decide +kernel
theorem dX1_reckonCount_49 : decode cX1_reckonCount 49 = .ok (.lmul, 1) := by decide +kernel
theorem dX1_reckonCount_50 : decode cX1_reckonCount 50 = .ok (.aload_n 3, 1) := by decide +kernel
theorem dX1_reckonCount_51 : decode cX1_reckonCount 51 = .ok (.getfield 55, 3) := by decide +kernel
theorem dX1_reckonCount_54 : decode cX1_reckonCount 54 = .ok (.i2l, 1) := by decide +kernel
theorem dX1_reckonCount_55 : decode cX1_reckonCount 55 = .ok (.lmul, 1) := by decide +kernel
theorem dX1_reckonCount_56 : decode cX1_reckonCount 56 = .ok (.ldc2_w 64, 3) := by decide +kernel
theorem dX1_reckonCount_59 : decode cX1_reckonCount 59 = .ok (.aload_n 3, 1) := by decide +kernel
theorem dX1_reckonCount_60 : decode cX1_reckonCount 60 = .ok (.getfield 52, 3) := by decide +kernel
theorem dX1_reckonCount_63 : decode cX1_reckonCount 63 = .ok (.i2l, 1) := by decide +kernel
theorem dX1_reckonCount_64 : decode cX1_reckonCount 64 = .ok (.lmul, 1) := by decide +kernel
theorem dX1_reckonCount_65 : decode cX1_reckonCount 65 = .ok (.invokevirtual 103, 3) := by decide +kernel
theorem dX1_reckonCount_68 : decode cX1_reckonCount 68 = .ok (.aload_n 0, 1) := by decide +kernel
theorem dX1_reckonCount_69 : decode cX1_reckonCount 69 = .ok (.getfield 27, 3) := by decide +kernel
theorem dX1_reckonCount_72 : decode cX1_reckonCount 72 = .ok (.getfield 94, 3) := by decide +kernel
theorem dX1_reckonCount_75 : decode cX1_reckonCount 75 = .ok (.ldc2_w 106, 3) := by decide +kernel
theorem dX1_reckonCount_78 : decode cX1_reckonCount 78 = .ok (.lcmp, 1) := by decide +kernel
theorem dX1_reckonCount_79 : decode cX1_reckonCount 79 = .ok (.ifCond .gt 17, 3) := by decide +kernel
theorem dX1_reckonCount_82 : decode cX1_reckonCount 82 = .ok (.aload_n 0, 1) := by decide +kernel
theorem dX1_reckonCount_83 : decode cX1_reckonCount 83 = .ok (.getfield 27, 3) := by decide +kernel
theorem dX1_reckonCount_86 : decode cX1_reckonCount 86 = .ok (.getfield 97, 3) := by decide +kernel
theorem dX1_reckonCount_89 : decode cX1_reckonCount 89 = .ok (.ldc2_w 106, 3) := by decide +kernel
theorem dX1_reckonCount_92 : decode cX1_reckonCount 92 = .ok (.lcmp, 1) := by decide +kernel
theorem dX1_reckonCount_93 : decode cX1_reckonCount 93 = .ok (.ifCond .le 5, 3) := by decide +kernel
theorem dX1_reckonCount_96 : decode cX1_reckonCount 96 = .ok (.iconst 0, 1) := by decide +kernel
theorem dX1_reckonCount_97 : decode cX1_reckonCount 97 = .ok (.ireturn, 1) := by decide +kernel
theorem dX1_reckonCount_98 : decode cX1_reckonCount 98 = .ok (.iinc 2 1, 3) := by decide +kernel
theorem dX1_reckonCount_101 : decode cX1_reckonCount 101 = .ok (.goto (-82), 3) := by decide +kernel
theorem dX1_reckonCount_104 : decode cX1_reckonCount 104 = .ok (.iconst 1, 1) := by decide +kernel
theorem dX1_reckonCount_105 : decode cX1_reckonCount 105 = .ok (.ireturn, 1) := by decide +kernel
set_option maxRecDepth 20000 in
theorem ggX1_reckonPeriod_X0_set : GoodIn wsX1_reckonPeriod wsX0_set := goodIn_r _ [11, 12, 13, 14, 15, 16, 10, 17, 18, 19, 20, 37, 38] (by decide +kernel) (by decide +kernel)
set_option maxRecDepth 20000 in
theorem gX1_reckonPeriod_X0_set : GoodIn wsX1_reckonPeriod (wsV RX1 99 RX0 yX0_set wsX0_set) := goodIn_app (goodIn_of _ (by decide +kernel)) ggX1_reckonPeriod_X0_set
set_option maxRecDepth 20000 in
theorem ggX1_reckonPeriod_X0_times : GoodIn wsX1_reckonPeriod wsX0_times := goodIn_r _ [24, 12, 13, 25, 8, 9, 10, 11, 14, 15, 16, 17, 18, 19, 20, 37, 38] (by decide +kernel) (by decide +kernel)
set_option maxRecDepth 20000 in
theorem gX1_reckonPeriod_X0_times : GoodIn wsX1_reckonPeriod (wsV RX1 103 RX0 yX0_times wsX0_times) := goodIn_app (goodIn_of _ (by decide +kernel)) ggX1_reckonPeriod_X0_times
theorem dX1_reckonPeriod_0 : decode cX1_reckonPeriod 0 = .ok (.aload_n 0, 1) := by decide +kernel
theorem dX1_reckonPeriod_1 : decode cX1_reckonPeriod 1 = .ok (.getfield 27, 3) := by decide +kernel
theorem dX1_reckonPeriod_4 : decode cX1_reckonPeriod 4 = .ok (.aload_n 0, 1) := by decide +kernel
theorem dX1_reckonPeriod_5 : decode cX1_reckonPeriod 5 = .ok (.getfield 20, 3) := by decide +kernel
theorem dX1_reckonPeriod_8 : decode cX1_reckonPeriod 8 = .ok (.iload_n 1, 1) := by decide +kernel
theorem dX1_reckonPeriod_9 : decode cX1_reckonPeriod 9 = .ok (.aaload, 1) := by decide +kernel
theorem dX1_reckonPeriod_10 : decode cX1_reckonPeriod 10 = .ok (.getfield 66, 3) := by decide +kernel
theorem dX1_reckonPeriod_13 : decode cX1_reckonPeriod 13 = .ok (.iload_n 2, 1) := by decide +kernel
theorem dX1_reckonPeriod_14 : decode cX1_reckonPeriod 14 = .ok (.iaload, 1) := by decide +kernel
theorem dX1_reckonPeriod_15 : decode cX1_reckonPeriod 15 = .ok (.i2l, 1) := by decide +kernel
theorem dX1_reckonPeriod_16 : decode cX1_reckonPeriod 16 = .ok (.lconst 1, 1) := by decide +kernel
theorem dX1_reckonPeriod_17 : decode cX1_reckonPeriod 17 = .ok (.invokevirtual 99, 3) := by decide +kernel
theorem dX1_reckonPeriod_20 : decode cX1_reckonPeriod 20 = .ok (.iload_n 1, 1) := by decide +kernel
theorem dX1_reckonPeriod_21 : decode cX1_reckonPeriod 21 = .ok (.iconst 1, 1) := by decide +kernel
theorem dX1_reckonPeriod_22 : decode cX1_reckonPeriod 22 = .ok (.iadd, 1) := by decide +kernel
theorem dX1_reckonPeriod_23 : decode cX1_reckonPeriod 23 = .ok (.istore_n 3, 1) := by decide +kernel
theorem dX1_reckonPeriod_24 : decode cX1_reckonPeriod 24 = .ok (.iload_n 3, 1) := by decide +kernel
theorem dX1_reckonPeriod_25 : decode cX1_reckonPeriod 25 = .ok (.aload_n 0, 1) := by decide +kernel
theorem dX1_reckonPeriod_26 : decode cX1_reckonPeriod 26 = .ok (.getfield 46, 3) := by decide +kernel
theorem dX1_reckonPeriod_29 : decode cX1_reckonPeriod 29 = .ok (.if_icmp .ge 36, 3) := by decide +kernel
theorem dX1_reckonPeriod_32 : decode cX1_reckonPeriod 32 = .ok (.aload_n 0, 1) := by decide +kernel
theorem dX1_reckonPeriod_33 : decode cX1_reckonPeriod 33 = .ok (.getfield 27, 3) := by decide +kernel
theorem dX1_reckonPeriod_36 : decode cX1_reckonPeriod 36 = .ok (.aload_n 0, 1) := by decide +kernel
theorem dX1_reckonPeriod_37 : decode cX1_reckonPeriod 37 = .ok (.getfield 20, 3) := by decide +kernel
theorem dX1_reckonPeriod_40 : decode cX1_reckonPeriod 40 = .ok (.iload_n 3, 1) := by decide +kernel
theorem dX1_reckonPeriod_41 : decode cX1_reckonPeriod 41 = .ok (.aaload, 1) := by decide +kernel
theorem dX1_reckonPeriod_42 : decode cX1_reckonPeriod 42 = .ok (.getfield 52, 3) := by decide +kernel
theorem dX1_reckonPeriod_45 : decode cX1_reckonPeriod 45 = .ok (.i2l, 1) := by decide +kernel
theorem dX1_reckonPeriod_46 : decode cX1_reckonPeriod 46 = .ok (.aload_n 0, 1) := by decide +kernel
theorem dX1_reckonPeriod_47 : decode cX1_reckonPeriod 47 = .ok (.getfield 20, 3) := by decide +kernel
theorem dX1_reckonPeriod_50 : decode cX1_reckonPeriod 50 = .ok (.iload_n 3, 1) := by decide +kernel
theorem dX1_reckonPeriod_51 : decode cX1_reckonPeriod 51 = .ok (.aaload, 1) := by decide +kernel
theorem dX1_reckonPeriod_52 : decode cX1_reckonPeriod 52 = .ok (.getfield 55, 3) := by decide +kernel
theorem dX1_reckonPeriod_55 : decode cX1_reckonPeriod 55 = .ok (.i2l, 1) := by decide +kernel
theorem dX1_reckonPeriod_56 : decode cX1_reckonPeriod 56 = .ok (.invokevirtual 103, 3) := by decide +kernel
theorem dX1_reckonPeriod_59 : decode cX1_reckonPeriod 59 = .ok (.iinc 3 1, 3) := by decide +kernel
theorem dX1_reckonPeriod_62 : decode cX1_reckonPeriod 62 = .ok (.goto (-38), 3) := by decide +kernel
theorem dX1_reckonPeriod_65 : decode cX1_reckonPeriod 65 = .ok (.return_, 1) := by decide +kernel
set_option maxRecDepth 20000 in
theorem ggX1_isNear_X1_reckonPeriod : GoodIn wsX1_isNear wsX1_reckonPeriod := goodIn_r _ [9, 1, 10, 11, 12, 13, 14, 15, 16, 17, 18, 19, 20, 21, 22, 23, 24, 25, 26, 27, 28, 29, 30, 31, 32, 33, 37, 38, 39, 40, 41, 44, 45, 46, 47, 48, 49, 42, 43] (by decide +kernel) (by decide +kernel)
set_option maxRecDepth 20000 in
theorem gX1_isNear_X1_reckonPeriod : GoodIn wsX1_isNear (wsV RX1 82 RX1 yX1_reckonPeriod wsX1_reckonPeriod) := goodIn_app (goodIn_of _ (by decide +kernel)) ggX1_isNear_X1_reckonPeriod
set_option maxRecDepth 20000 in
theorem ggX1_isNear_X5_within : GoodIn wsX1_isNear wsX5_within := goodIn_r _ [36] (by decide +kernel) (by decide +kernel)
set_option maxRecDepth 20000 in
theorem gX1_isNear_X5_within_n34 : GoodIn wsX1_isNear (wsX5_within) := ggX1_isNear_X5_within
theorem dX1_isNear_0 : decode cX1_isNear 0 = .ok (.aload_n 0, 1) := by decide +kernel
theorem dX1_isNear_1 : decode cX1_isNear 1 = .ok (.iload_n 1, 1) := by decide +kernel
theorem dX1_isNear_2 : decode cX1_isNear 2 = .ok (.iload_n 2, 1) := by decide +kernel
theorem dX1_isNear_3 : decode cX1_isNear 3 = .ok (.invokevirtual 82, 3) := by decide +kernel
theorem dX1_isNear_6 : decode cX1_isNear 6 = .ok (.aload_n 0, 1) := by decide +kernel
theorem dX1_isNear_7 : decode cX1_isNear 7 = .ok (.getfield 27, 3) := by decide +kernel
theorem dX1_isNear_10 : decode cX1_isNear 10 = .ok (.getfield 97, 3) := by decide +kernel
theorem dX1_isNear_13 : decode cX1_isNear 13 = .ok (.iload_n 3, 1) := by decide +kernel
theorem dX1_isNear_14 : decode cX1_isNear 14 = .ok (.i2l, 1) := by decide +kernel
theorem dX1_isNear_15 : decode cX1_isNear 15 = .ok (.lmul, 1) := by decide +kernel
theorem dX1_isNear_16 : decode cX1_isNear 16 = .ok (.lstore 5, 2) := by decide +kernel
theorem dX1_isNear_18 : decode cX1_isNear 18 = .ok (.ldc2_w 64, 3) := by decide +kernel
theorem dX1_isNear_21 : decode cX1_isNear 21 = .ok (.aload_n 0, 1) := by decide +kernel
theorem dX1_isNear_22 : decode cX1_isNear 22 = .ok (.getfield 27, 3) := by decide +kernel
theorem dX1_isNear_25 : decode cX1_isNear 25 = .ok (.getfield 94, 3) := by decide +kernel
theorem dX1_isNear_28 : decode cX1_isNear 28 = .ok (.lmul, 1) := by decide +kernel
theorem dX1_isNear_29 : decode cX1_isNear 29 = .ok (.lload 5, 2) := by decide +kernel
theorem dX1_isNear_31 : decode cX1_isNear 31 = .ok (.sipush 1000, 3) := by decide +kernel
theorem dX1_isNear_34 : decode cX1_isNear 34 = .ok (.iload 4, 2) := by decide +kernel
theorem dX1_isNear_36 : decode cX1_isNear 36 = .ok (.isub, 1) := by decide +kernel
theorem dX1_isNear_37 : decode cX1_isNear 37 = .ok (.i2l, 1) := by decide +kernel
theorem dX1_isNear_38 : decode cX1_isNear 38 = .ok (.lmul, 1) := by decide +kernel
theorem dX1_isNear_39 : decode cX1_isNear 39 = .ok (.lload 5, 2) := by decide +kernel
theorem dX1_isNear_41 : decode cX1_isNear 41 = .ok (.sipush 1000, 3) := by decide +kernel
theorem dX1_isNear_44 : decode cX1_isNear 44 = .ok (.iload 4, 2) := by decide +kernel
theorem dX1_isNear_46 : decode cX1_isNear 46 = .ok (.iadd, 1) := by decide +kernel
theorem dX1_isNear_47 : decode cX1_isNear 47 = .ok (.i2l, 1) := by decide +kernel
theorem dX1_isNear_48 : decode cX1_isNear 48 = .ok (.lmul, 1) := by decide +kernel
theorem dX1_isNear_49 : decode cX1_isNear 49 = .ok (.invokestatic 34, 3) := by decide +kernel
theorem dX1_isNear_52 : decode cX1_isNear 52 = .ok (.ireturn, 1) := by decide +kernel
end
section
theorem dX2_init_0 : decode cX2_init 0 = .ok (.aload_n 0, 1) := by decide +kernel
theorem dX2_init_1 : decode cX2_init 1 = .ok (.invokespecial 1, 3) := by decide +kernel
theorem dX2_init_4 : decode cX2_init 4 = .ok (.aload_n 0, 1) := by decide +kernel
theorem dX2_init_5 : decode cX2_init 5 = .ok (.iconst 3, 1) := by decide +kernel
theorem dX2_init_6 : decode cX2_init 6 = .ok (.newarray .int, 2) := by decide +kernel
theorem dX2_init_8 : decode cX2_init 8 = .ok (.putfield 9, 3) := by decide +kernel
theorem dX2_init_11 : decode cX2_init 11 = .ok (.return_, 1) := by decide +kernel
end
section
theorem dX3_init_0 : decode cX3_init 0 = .ok (.aload_n 0, 1) := by decide +kernel
theorem dX3_init_1 : decode cX3_init 1 = .ok (.invokespecial 3, 3) := by decide +kernel
theorem dX3_init_4 : decode cX3_init 4 = .ok (.aload_n 0, 1) := by decide +kernel
theorem dX3_init_5 : decode cX3_init 5 = .ok (.sipush 400, 3) := by decide +kernel
theorem dX3_init_8 : decode cX3_init 8 = .ok (.newarray .int, 2) := by decide +kernel
theorem dX3_init_10 : decode cX3_init 10 = .ok (.putfield 11, 3) := by decide +kernel
theorem dX3_init_13 : decode cX3_init 13 = .ok (.return_, 1) := by decide +kernel
set_option maxRecDepth 20000 in
theorem ggX3_addCell_X5_within : GoodIn wsX3_addCell wsX5_within := goodIn_r _ [6] (by decide +kernel) (by decide +kernel)
set_option maxRecDepth 20000 in
theorem gX3_addCell_X5_within_n17 : GoodIn wsX3_addCell (wsX5_within) := ggX3_addCell_X5_within
theorem dX3_addCell_0 : decode cX3_addCell 0 = .ok (.iload_n 1, 1) := by decide +kernel
theorem dX3_addCell_1 : decode cX3_addCell 1 = .ok (.i2l, 1) := by decide +kernel
theorem dX3_addCell_2 : decode cX3_addCell 2 = .ok (.lconst 0, 1) := by decide +kernel
theorem dX3_addCell_3 : decode cX3_addCell 3 = .ok (.ldc2_w 15, 3) := by decide +kernel
theorem dX3_addCell_6 : decode cX3_addCell 6 = .ok (.invokestatic 17, 3) := by decide +kernel
theorem dX3_addCell_9 : decode cX3_addCell 9 = .ok (.ifCond .ne 6, 3) := by decide +kernel
theorem dX3_addCell_12 : decode cX3_addCell 12 = .ok (.bipush (-2), 2) := by decide +kernel
theorem dX3_addCell_14 : decode cX3_addCell 14 = .ok (.ireturn, 1) := by decide +kernel
theorem dX3_addCell_15 : decode cX3_addCell 15 = .ok (.aload_n 0, 1) := by decide +kernel
theorem dX3_addCell_16 : decode cX3_addCell 16 = .ok (.getfield 21, 3) := by decide +kernel
theorem dX3_addCell_19 : decode cX3_addCell 19 = .ok (.sipush 400, 3) := by decide +kernel
theorem dX3_addCell_22 : decode cX3_addCell 22 = .ok (.if_icmp .lt 6, 3) := by decide +kernel
theorem dX3_addCell_25 : decode cX3_addCell 25 = .ok (.bipush (-4), 2) := by decide +kernel
theorem dX3_addCell_27 : decode cX3_addCell 27 = .ok (.ireturn, 1) := by decide +kernel
theorem dX3_addCell_28 : decode cX3_addCell 28 = .ok (.aload_n 0, 1) := by decide +kernel
theorem dX3_addCell_29 : decode cX3_addCell 29 = .ok (.getfield 11, 3) := by decide +kernel
theorem dX3_addCell_32 : decode cX3_addCell 32 = .ok (.aload_n 0, 1) := by decide +kernel
theorem dX3_addCell_33 : decode cX3_addCell 33 = .ok (.getfield 21, 3) := by decide +kernel
theorem dX3_addCell_36 : decode cX3_addCell 36 = .ok (.iload_n 1, 1) := by decide +kernel
theorem dX3_addCell_37 : decode cX3_addCell 37 = .ok (.iastore, 1) := by decide +kernel
theorem dX3_addCell_38 : decode cX3_addCell 38 = .ok (.aload_n 0, 1) := by decide +kernel
theorem dX3_addCell_39 : decode cX3_addCell 39 = .ok (.dup, 1) := by decide +kernel
theorem dX3_addCell_40 : decode cX3_addCell 40 = .ok (.getfield 21, 3) := by decide +kernel
theorem dX3_addCell_43 : decode cX3_addCell 43 = .ok (.iconst 1, 1) := by decide +kernel
theorem dX3_addCell_44 : decode cX3_addCell 44 = .ok (.iadd, 1) := by decide +kernel
theorem dX3_addCell_45 : decode cX3_addCell 45 = .ok (.putfield 21, 3) := by decide +kernel
theorem dX3_addCell_48 : decode cX3_addCell 48 = .ok (.aload_n 0, 1) := by decide +kernel
theorem dX3_addCell_49 : decode cX3_addCell 49 = .ok (.getfield 21, 3) := by decide +kernel
theorem dX3_addCell_52 : decode cX3_addCell 52 = .ok (.ireturn, 1) := by decide +kernel
set_option maxRecDepth 20000 in
theorem ggX3_addDrawn_X5_within : GoodIn wsX3_addDrawn wsX5_within := goodIn_r _ [10] (by decide +kernel) (by decide +kernel)
set_option maxRecDepth 20000 in
theorem gX3_addDrawn_X5_within_n17 : GoodIn wsX3_addDrawn (wsX5_within) := ggX3_addDrawn_X5_within
theorem dX3_addDrawn_0 : decode cX3_addDrawn 0 = .ok (.iload_n 1, 1) := by decide +kernel
theorem dX3_addDrawn_1 : decode cX3_addDrawn 1 = .ok (.i2l, 1) := by decide +kernel
theorem dX3_addDrawn_2 : decode cX3_addDrawn 2 = .ok (.lconst 1, 1) := by decide +kernel
theorem dX3_addDrawn_3 : decode cX3_addDrawn 3 = .ok (.ldc2_w 25, 3) := by decide +kernel
theorem dX3_addDrawn_6 : decode cX3_addDrawn 6 = .ok (.invokestatic 17, 3) := by decide +kernel
theorem dX3_addDrawn_9 : decode cX3_addDrawn 9 = .ok (.ifCond .eq 31, 3) := by decide +kernel
theorem dX3_addDrawn_12 : decode cX3_addDrawn 12 = .ok (.iload_n 2, 1) := by decide +kernel
theorem dX3_addDrawn_13 : decode cX3_addDrawn 13 = .ok (.i2l, 1) := by decide +kernel
theorem dX3_addDrawn_14 : decode cX3_addDrawn 14 = .ok (.lconst 0, 1) := by decide +kernel
theorem dX3_addDrawn_15 : decode cX3_addDrawn 15 = .ok (.ldc2_w 27, 3) := by decide +kernel
theorem dX3_addDrawn_18 : decode cX3_addDrawn 18 = .ok (.invokestatic 17, 3) := by decide +kernel
theorem dX3_addDrawn_21 : decode cX3_addDrawn 21 = .ok (.ifCond .eq 19, 3) := by decide +kernel
theorem dX3_addDrawn_24 : decode cX3_addDrawn 24 = .ok (.iload_n 3, 1) := by decide +kernel
theorem dX3_addDrawn_25 : decode cX3_addDrawn 25 = .ok (.i2l, 1) := by decide +kernel
theorem dX3_addDrawn_26 : decode cX3_addDrawn 26 = .ok (.lconst 0, 1) := by decide +kernel
theorem dX3_addDrawn_27 : decode cX3_addDrawn 27 = .ok (.iload_n 2, 1) := by decide +kernel
theorem dX3_addDrawn_28 : decode cX3_addDrawn 28 = .ok (.i2l, 1) := by decide +kernel
theorem dX3_addDrawn_29 : decode cX3_addDrawn 29 = .ok (.invokestatic 17, 3) := by decide +kernel
theorem dX3_addDrawn_32 : decode cX3_addDrawn 32 = .ok (.ifCond .eq 8, 3) := by decide +kernel
theorem dX3_addDrawn_35 : decode cX3_addDrawn 35 = .ok (.iload 4, 2) := by decide +kernel
theorem dX3_addDrawn_37 : decode cX3_addDrawn 37 = .ok (.ifCond .ge 6, 3) := by decide +kernel
theorem dX3_addDrawn_40 : decode cX3_addDrawn 40 = .ok (.bipush (-2), 2) := by decide +kernel
theorem dX3_addDrawn_42 : decode cX3_addDrawn 42 = .ok (.ireturn, 1) := by decide +kernel
theorem dX3_addDrawn_43 : decode cX3_addDrawn 43 = .ok (.aload_n 0, 1) := by decide +kernel
theorem dX3_addDrawn_44 : decode cX3_addDrawn 44 = .ok (.getfield 21, 3) := by decide +kernel
theorem dX3_addDrawn_47 : decode cX3_addDrawn 47 = .ok (.iload_n 1, 1) := by decide +kernel
theorem dX3_addDrawn_48 : decode cX3_addDrawn 48 = .ok (.iadd, 1) := by decide +kernel
theorem dX3_addDrawn_49 : decode cX3_addDrawn 49 = .ok (.sipush 400, 3) := by decide +kernel
theorem dX3_addDrawn_52 : decode cX3_addDrawn 52 = .ok (.if_icmp .le 6, 3) := by decide +kernel
theorem dX3_addDrawn_55 : decode cX3_addDrawn 55 = .ok (.bipush (-4), 2) := by decide +kernel
theorem dX3_addDrawn_57 : decode cX3_addDrawn 57 = .ok (.ireturn, 1) := by decide +kernel
theorem dX3_addDrawn_58 : decode cX3_addDrawn 58 = .ok (.iload 4, 2) := by decide +kernel
theorem dX3_addDrawn_60 : decode cX3_addDrawn 60 = .ok (.istore 5, 2) := by decide +kernel
theorem dX3_addDrawn_62 : decode cX3_addDrawn 62 = .ok (.iconst 0, 1) := by decide +kernel
theorem dX3_addDrawn_63 : decode cX3_addDrawn 63 = .ok (.istore 6, 2) := by decide +kernel
theorem dX3_addDrawn_65 : decode cX3_addDrawn 65 = .ok (.iload 6, 2) := by decide +kernel
theorem dX3_addDrawn_67 : decode cX3_addDrawn 67 = .ok (.iload_n 1, 1) := by decide +kernel
theorem dX3_addDrawn_68 : decode cX3_addDrawn 68 = .ok (.if_icmp .ge 50, 3) := by decide +kernel
theorem dX3_addDrawn_71 : decode cX3_addDrawn 71 = .ok (.iload 5, 2) := by decide +kernel
theorem dX3_addDrawn_73 : decode cX3_addDrawn 73 = .ok (.ldc 29, 2) := by decide +kernel
theorem dX3_addDrawn_75 : decode cX3_addDrawn 75 = .ok (.imul, 1) := by decide +kernel
theorem dX3_addDrawn_76 : decode cX3_addDrawn 76 = .ok (.sipush 12345, 3) := by decide +kernel
theorem dX3_addDrawn_79 : decode cX3_addDrawn 79 = .ok (.iadd, 1) := by decide +kernel
theorem dX3_addDrawn_80 : decode cX3_addDrawn 80 = .ok (.ldc 30, 2) := by decide +kernel
theorem dX3_addDrawn_82 : decode cX3_addDrawn 82 = .ok (.iand, 1) := by decide +kernel
theorem dX3_addDrawn_83 : decode cX3_addDrawn 83 = .ok (.istore 5, 2) := by decide +kernel
theorem dX3_addDrawn_85 : decode cX3_addDrawn 85 = .ok (.aload_n 0, 1) := by decide +kernel
theorem dX3_addDrawn_86 : decode cX3_addDrawn 86 = .ok (.getfield 11, 3) := by decide +kernel
theorem dX3_addDrawn_89 : decode cX3_addDrawn 89 = .ok (.aload_n 0, 1) := by decide +kernel
theorem dX3_addDrawn_90 : decode cX3_addDrawn 90 = .ok (.getfield 21, 3) := by decide +kernel
theorem dX3_addDrawn_93 : decode cX3_addDrawn 93 = .ok (.iload 6, 2) := by decide +kernel
theorem dX3_addDrawn_95 : decode cX3_addDrawn 95 = .ok (.iadd, 1) := by decide +kernel
theorem dX3_addDrawn_96 : decode cX3_addDrawn 96 = .ok (.iload_n 2, 1) := by decide +kernel
theorem dX3_addDrawn_97 : decode cX3_addDrawn 97 = .ok (.iload 5, 2) := by decide +kernel
theorem dX3_addDrawn_99 : decode cX3_addDrawn 99 = .ok (.ldc 31, 2) := by decide +kernel
theorem dX3_addDrawn_101 : decode cX3_addDrawn 101 = .ok (.idiv, 1) := by decide +kernel
theorem dX3_addDrawn_102 : decode cX3_addDrawn 102 = .ok (.iconst 2, 1) := by decide +kernel
theorem dX3_addDrawn_103 : decode cX3_addDrawn 103 = .ok (.iload_n 3, 1) := by decide +kernel
theorem dX3_addDrawn_104 : decode cX3_addDrawn 104 = .ok (.imul, 1) := by decide +kernel
theorem dX3_addDrawn_105 : decode cX3_addDrawn 105 = .ok (.iconst 1, 1) := by decide +kernel
theorem dX3_addDrawn_106 : decode cX3_addDrawn 106 = .ok (.iadd, 1) := by decide +kernel
theorem dX3_addDrawn_107 : decode cX3_addDrawn 107 = .ok (.irem, 1) := by decide +kernel
theorem dX3_addDrawn_108 : decode cX3_addDrawn 108 = .ok (.iadd, 1) := by decide +kernel
theorem dX3_addDrawn_109 : decode cX3_addDrawn 109 = .ok (.iload_n 3, 1) := by decide +kernel
theorem dX3_addDrawn_110 : decode cX3_addDrawn 110 = .ok (.isub, 1) := by decide +kernel
theorem dX3_addDrawn_111 : decode cX3_addDrawn 111 = .ok (.iastore, 1) := by decide +kernel
theorem dX3_addDrawn_112 : decode cX3_addDrawn 112 = .ok (.iinc 6 1, 3) := by decide +kernel
theorem dX3_addDrawn_115 : decode cX3_addDrawn 115 = .ok (.goto (-50), 3) := by decide +kernel
theorem dX3_addDrawn_118 : decode cX3_addDrawn 118 = .ok (.aload_n 0, 1) := by decide +kernel
theorem dX3_addDrawn_119 : decode cX3_addDrawn 119 = .ok (.dup, 1) := by decide +kernel
theorem dX3_addDrawn_120 : decode cX3_addDrawn 120 = .ok (.getfield 21, 3) := by decide +kernel
theorem dX3_addDrawn_123 : decode cX3_addDrawn 123 = .ok (.iload_n 1, 1) := by decide +kernel
theorem dX3_addDrawn_124 : decode cX3_addDrawn 124 = .ok (.iadd, 1) := by decide +kernel
theorem dX3_addDrawn_125 : decode cX3_addDrawn 125 = .ok (.putfield 21, 3) := by decide +kernel
theorem dX3_addDrawn_128 : decode cX3_addDrawn 128 = .ok (.aload_n 0, 1) := by decide +kernel
theorem dX3_addDrawn_129 : decode cX3_addDrawn 129 = .ok (.getfield 21, 3) := by decide +kernel
theorem dX3_addDrawn_132 : decode cX3_addDrawn 132 = .ok (.ireturn, 1) := by decide +kernel
theorem dX3_removeAll_0 : decode cX3_removeAll 0 = .ok (.aload_n 0, 1) := by decide +kernel
theorem dX3_removeAll_1 : decode cX3_removeAll 1 = .ok (.getfield 21, 3) := by decide +kernel
theorem dX3_removeAll_4 : decode cX3_removeAll 4 = .ok (.istore_n 1, 1) := by decide +kernel
theorem dX3_removeAll_5 : decode cX3_removeAll 5 = .ok (.aload_n 0, 1) := by decide +kernel
theorem dX3_removeAll_6 : decode cX3_removeAll 6 = .ok (.iconst 0, 1) := by decide +kernel
theorem dX3_removeAll_7 : decode cX3_removeAll 7 = .ok (.putfield 21, 3) := by decide +kernel
theorem dX3_removeAll_10 : decode cX3_removeAll 10 = .ok (.iload_n 1, 1) := by decide +kernel
theorem dX3_removeAll_11 : decode cX3_removeAll 11 = .ok (.ireturn, 1) := by decide +kernel
set_option maxRecDepth 20000 in
theorem ggX3_massAt_X5_within : GoodIn wsX3_massAt wsX5_within := goodIn_r _ [5] (by decide +kernel) (by decide +kernel)
set_option maxRecDepth 20000 in
theorem gX3_massAt_X5_within_n17 : GoodIn wsX3_massAt (wsX5_within) := ggX3_massAt_X5_within
theorem dX3_massAt_0 : decode cX3_massAt 0 = .ok (.iload_n 1, 1) := by decide +kernel
theorem dX3_massAt_1 : decode cX3_massAt 1 = .ok (.i2l, 1) := by decide +kernel
theorem dX3_massAt_2 : decode cX3_massAt 2 = .ok (.lconst 0, 1) := by decide +kernel
theorem dX3_massAt_3 : decode cX3_massAt 3 = .ok (.aload_n 0, 1) := by decide +kernel
theorem dX3_massAt_4 : decode cX3_massAt 4 = .ok (.getfield 21, 3) := by decide +kernel
theorem dX3_massAt_7 : decode cX3_massAt 7 = .ok (.iconst 1, 1) := by decide +kernel
theorem dX3_massAt_8 : decode cX3_massAt 8 = .ok (.isub, 1) := by decide +kernel
theorem dX3_massAt_9 : decode cX3_massAt 9 = .ok (.i2l, 1) := by decide +kernel
theorem dX3_massAt_10 : decode cX3_massAt 10 = .ok (.invokestatic 17, 3) := by decide +kernel
theorem dX3_massAt_13 : decode cX3_massAt 13 = .ok (.ifCond .eq 12, 3) := by decide +kernel
theorem dX3_massAt_16 : decode cX3_massAt 16 = .ok (.aload_n 0, 1) := by decide +kernel
theorem dX3_massAt_17 : decode cX3_massAt 17 = .ok (.getfield 11, 3) := by decide +kernel
theorem dX3_massAt_20 : decode cX3_massAt 20 = .ok (.iload_n 1, 1) := by decide +kernel
theorem dX3_massAt_21 : decode cX3_massAt 21 = .ok (.iaload, 1) := by decide +kernel
theorem dX3_massAt_22 : decode cX3_massAt 22 = .ok (.goto 4, 3) := by decide +kernel
theorem dX3_massAt_25 : decode cX3_massAt 25 = .ok (.iconst (-1), 1) := by decide +kernel
theorem dX3_massAt_26 : decode cX3_massAt 26 = .ok (.ireturn, 1) := by decide +kernel
theorem dX3_addRow_0 : decode cX3_addRow 0 = .ok (.aload_n 1, 1) := by decide +kernel
theorem dX3_addRow_1 : decode cX3_addRow 1 = .ok (.getfield 21, 3) := by decide +kernel
theorem dX3_addRow_4 : decode cX3_addRow 4 = .ok (.aload_n 0, 1) := by decide +kernel
theorem dX3_addRow_5 : decode cX3_addRow 5 = .ok (.getfield 21, 3) := by decide +kernel
theorem dX3_addRow_8 : decode cX3_addRow 8 = .ok (.if_icmp .eq 6, 3) := by decide +kernel
theorem dX3_addRow_11 : decode cX3_addRow 11 = .ok (.bipush (-3), 2) := by decide +kernel
theorem dX3_addRow_13 : decode cX3_addRow 13 = .ok (.ireturn, 1) := by decide +kernel
theorem dX3_addRow_14 : decode cX3_addRow 14 = .ok (.iconst 0, 1) := by decide +kernel
theorem dX3_addRow_15 : decode cX3_addRow 15 = .ok (.istore_n 2, 1) := by decide +kernel
theorem dX3_addRow_16 : decode cX3_addRow 16 = .ok (.iload_n 2, 1) := by decide +kernel
theorem dX3_addRow_17 : decode cX3_addRow 17 = .ok (.aload_n 0, 1) := by decide +kernel
theorem dX3_addRow_18 : decode cX3_addRow 18 = .ok (.getfield 21, 3) := by decide +kernel
theorem dX3_addRow_21 : decode cX3_addRow 21 = .ok (.if_icmp .ge 30, 3) := by decide +kernel
theorem dX3_addRow_24 : decode cX3_addRow 24 = .ok (.aload_n 0, 1) := by decide +kernel
theorem dX3_addRow_25 : decode cX3_addRow 25 = .ok (.getfield 11, 3) := by decide +kernel
theorem dX3_addRow_28 : decode cX3_addRow 28 = .ok (.iload_n 2, 1) := by decide +kernel
theorem dX3_addRow_29 : decode cX3_addRow 29 = .ok (.iaload, 1) := by decide +kernel
theorem dX3_addRow_30 : decode cX3_addRow 30 = .ok (.aload_n 1, 1) := by decide +kernel
theorem dX3_addRow_31 : decode cX3_addRow 31 = .ok (.getfield 11, 3) := by decide +kernel
theorem dX3_addRow_34 : decode cX3_addRow 34 = .ok (.iload_n 2, 1) := by decide +kernel
theorem dX3_addRow_35 : decode cX3_addRow 35 = .ok (.iaload, 1) := by decide +kernel
theorem dX3_addRow_36 : decode cX3_addRow 36 = .ok (.iadd, 1) := by decide +kernel
theorem dX3_addRow_37 : decode cX3_addRow 37 = .ok (.ldc 32, 2) := by decide +kernel
theorem dX3_addRow_39 : decode cX3_addRow 39 = .ok (.if_icmp .le 6, 3) := by decide +kernel
theorem dX3_addRow_42 : decode cX3_addRow 42 = .ok (.bipush (-6), 2) := by decide +kernel
theorem dX3_addRow_44 : decode cX3_addRow 44 = .ok (.ireturn, 1) := by decide +kernel
theorem dX3_addRow_45 : decode cX3_addRow 45 = .ok (.iinc 2 1, 3) := by decide +kernel
theorem dX3_addRow_48 : decode cX3_addRow 48 = .ok (.goto (-32), 3) := by decide +kernel
theorem dX3_addRow_51 : decode cX3_addRow 51 = .ok (.iconst 0, 1) := by decide +kernel
theorem dX3_addRow_52 : decode cX3_addRow 52 = .ok (.istore_n 2, 1) := by decide +kernel
theorem dX3_addRow_53 : decode cX3_addRow 53 = .ok (.iload_n 2, 1) := by decide +kernel
theorem dX3_addRow_54 : decode cX3_addRow 54 = .ok (.aload_n 0, 1) := by decide +kernel
theorem dX3_addRow_55 : decode cX3_addRow 55 = .ok (.getfield 21, 3) := by decide +kernel
theorem dX3_addRow_58 : decode cX3_addRow 58 = .ok (.if_icmp .ge 24, 3) := by decide +kernel
theorem dX3_addRow_61 : decode cX3_addRow 61 = .ok (.aload_n 0, 1) := by decide +kernel
theorem dX3_addRow_62 : decode cX3_addRow 62 = .ok (.getfield 11, 3) := by decide +kernel
theorem dX3_addRow_65 : decode cX3_addRow 65 = .ok (.iload_n 2, 1) := by decide +kernel
theorem dX3_addRow_66 : decode cX3_addRow 66 = .ok (.dup2, 1) := by decide +kernel
theorem dX3_addRow_67 : decode cX3_addRow 67 = .ok (.iaload, 1) := by decide +kernel
theorem dX3_addRow_68 : decode cX3_addRow 68 = .ok (.aload_n 1, 1) := by decide +kernel
theorem dX3_addRow_69 : decode cX3_addRow 69 = .ok (.getfield 11, 3) := by decide +kernel
theorem dX3_addRow_72 : decode cX3_addRow 72 = .ok (.iload_n 2, 1) := by decide +kernel
theorem dX3_addRow_73 : decode cX3_addRow 73 = .ok (.iaload, 1) := by decide +kernel
theorem dX3_addRow_74 : decode cX3_addRow 74 = .ok (.iadd, 1) := by decide +kernel
theorem dX3_addRow_75 : decode cX3_addRow 75 = .ok (.iastore, 1) := by decide +kernel
theorem dX3_addRow_76 : decode cX3_addRow 76 = .ok (.iinc 2 1, 3) := by decide +kernel
theorem dX3_addRow_79 : decode cX3_addRow 79 = .ok (.goto (-26), 3) := by decide +kernel
theorem dX3_addRow_82 : decode cX3_addRow 82 = .ok (.aload_n 0, 1) := by decide +kernel
theorem dX3_addRow_83 : decode cX3_addRow 83 = .ok (.getfield 21, 3) := by decide +kernel
theorem dX3_addRow_86 : decode cX3_addRow 86 = .ok (.ireturn, 1) := by decide +kernel
set_option maxRecDepth 20000 in
theorem ggX3_stretchBy_X5_within : GoodIn wsX3_stretchBy wsX5_within := goodIn_r _ [7] (by decide +kernel) (by decide +kernel)
set_option maxRecDepth 20000 in
theorem gX3_stretchBy_X5_within_n17 : GoodIn wsX3_stretchBy (wsX5_within) := ggX3_stretchBy_X5_within
theorem dX3_stretchBy_0 : decode cX3_stretchBy 0 = .ok (.iload_n 1, 1) := by decide +kernel
theorem dX3_stretchBy_1 : decode cX3_stretchBy 1 = .ok (.i2l, 1) := by decide +kernel
theorem dX3_stretchBy_2 : decode cX3_stretchBy 2 = .ok (.ldc2_w 33, 3) := by decide +kernel
theorem dX3_stretchBy_5 : decode cX3_stretchBy 5 = .ok (.ldc2_w 35, 3) := by decide +kernel
theorem dX3_stretchBy_8 : decode cX3_stretchBy 8 = .ok (.invokestatic 17, 3) := by decide +kernel
theorem dX3_stretchBy_11 : decode cX3_stretchBy 11 = .ok (.ifCond .ne 6, 3) := by decide +kernel
theorem dX3_stretchBy_14 : decode cX3_stretchBy 14 = .ok (.bipush (-2), 2) := by decide +kernel
theorem dX3_stretchBy_16 : decode cX3_stretchBy 16 = .ok (.ireturn, 1) := by decide +kernel
theorem dX3_stretchBy_17 : decode cX3_stretchBy 17 = .ok (.aload_n 0, 1) := by decide +kernel
theorem dX3_stretchBy_18 : decode cX3_stretchBy 18 = .ok (.getfield 21, 3) := by decide +kernel
theorem dX3_stretchBy_21 : decode cX3_stretchBy 21 = .ok (.iload_n 1, 1) := by decide +kernel
theorem dX3_stretchBy_22 : decode cX3_stretchBy 22 = .ok (.imul, 1) := by decide +kernel
theorem dX3_stretchBy_23 : decode cX3_stretchBy 23 = .ok (.sipush 400, 3) := by decide +kernel
theorem dX3_stretchBy_26 : decode cX3_stretchBy 26 = .ok (.if_icmp .le 6, 3) := by decide +kernel
theorem dX3_stretchBy_29 : decode cX3_stretchBy 29 = .ok (.bipush (-4), 2) := by decide +kernel
theorem dX3_stretchBy_31 : decode cX3_stretchBy 31 = .ok (.ireturn, 1) := by decide +kernel
theorem dX3_stretchBy_32 : decode cX3_stretchBy 32 = .ok (.aload_n 0, 1) := by decide +kernel
theorem dX3_stretchBy_33 : decode cX3_stretchBy 33 = .ok (.getfield 21, 3) := by decide +kernel
theorem dX3_stretchBy_36 : decode cX3_stretchBy 36 = .ok (.iconst 1, 1) := by decide +kernel
theorem dX3_stretchBy_37 : decode cX3_stretchBy 37 = .ok (.isub, 1) := by decide +kernel
theorem dX3_stretchBy_38 : decode cX3_stretchBy 38 = .ok (.istore_n 2, 1) := by decide +kernel
theorem dX3_stretchBy_39 : decode cX3_stretchBy 39 = .ok (.iload_n 2, 1) := by decide +kernel
theorem dX3_stretchBy_40 : decode cX3_stretchBy 40 = .ok (.ifCond .lt 68, 3) := by decide +kernel
theorem dX3_stretchBy_43 : decode cX3_stretchBy 43 = .ok (.aload_n 0, 1) := by decide +kernel
theorem dX3_stretchBy_44 : decode cX3_stretchBy 44 = .ok (.getfield 11, 3) := by decide +kernel
theorem dX3_stretchBy_47 : decode cX3_stretchBy 47 = .ok (.iload_n 2, 1) := by decide +kernel
theorem dX3_stretchBy_48 : decode cX3_stretchBy 48 = .ok (.iaload, 1) := by decide +kernel
theorem dX3_stretchBy_49 : decode cX3_stretchBy 49 = .ok (.iload_n 1, 1) := by decide +kernel
theorem dX3_stretchBy_50 : decode cX3_stretchBy 50 = .ok (.idiv, 1) := by decide +kernel
theorem dX3_stretchBy_51 : decode cX3_stretchBy 51 = .ok (.istore_n 3, 1) := by decide +kernel
theorem dX3_stretchBy_52 : decode cX3_stretchBy 52 = .ok (.aload_n 0, 1) := by decide +kernel
theorem dX3_stretchBy_53 : decode cX3_stretchBy 53 = .ok (.getfield 11, 3) := by decide +kernel
theorem dX3_stretchBy_56 : decode cX3_stretchBy 56 = .ok (.iload_n 2, 1) := by decide +kernel
theorem dX3_stretchBy_57 : decode cX3_stretchBy 57 = .ok (.iaload, 1) := by decide +kernel
theorem dX3_stretchBy_58 : decode cX3_stretchBy 58 = .ok (.iload_n 1, 1) := by decide +kernel
theorem dX3_stretchBy_59 : decode cX3_stretchBy 59 = .ok (.irem, 1) := by decide +kernel
theorem dX3_stretchBy_60 : decode cX3_stretchBy 60 = .ok (.istore 4, 2) := by decide +kernel
theorem dX3_stretchBy_62 : decode cX3_stretchBy 62 = .ok (.iconst 0, 1) := by decide +kernel
theorem dX3_stretchBy_63 : decode cX3_stretchBy 63 = .ok (.istore 5, 2) := by decide +kernel
theorem dX3_stretchBy_65 : decode cX3_stretchBy 65 = .ok (.iload 5, 2) := by decide +kernel
theorem dX3_stretchBy_67 : decode cX3_stretchBy 67 = .ok (.iload_n 1, 1) := by decide +kernel
theorem dX3_stretchBy_68 : decode cX3_stretchBy 68 = .ok (.if_icmp .ge 34, 3) := by decide +kernel
theorem dX3_stretchBy_71 : decode cX3_stretchBy 71 = .ok (.aload_n 0, 1) := by decide +kernel
theorem dX3_stretchBy_72 : decode cX3_stretchBy 72 = .ok (.getfield 11, 3) := by decide +kernel
theorem dX3_stretchBy_75 : decode cX3_stretchBy 75 = .ok (.iload_n 2, 1) := by decide +kernel
theorem dX3_stretchBy_76 : decode cX3_stretchBy 76 = .ok (.iload_n 1, 1) := by decide +kernel
theorem dX3_stretchBy_77 : decode cX3_stretchBy 77 = .ok (.imul, 1) := by decide +kernel
theorem dX3_stretchBy_78 : decode cX3_stretchBy 78 = .ok (.iload 5, 2) := by decide +kernel
theorem dX3_stretchBy_80 : decode cX3_stretchBy 80 = .ok (.iadd, 1) := by decide +kernel
theorem dX3_stretchBy_81 : decode cX3_stretchBy 81 = .ok (.iload 5, 2) := by decide +kernel
theorem dX3_stretchBy_83 : decode cX3_stretchBy 83 = .ok (.iload 4, 2) := by decide +kernel
theorem dX3_stretchBy_85 : decode cX3_stretchBy 85 = .ok (.if_icmp .ge 9, 3) := by decide +kernel
theorem dX3_stretchBy_88 : decode cX3_stretchBy 88 = .ok (.iload_n 3, 1) := by decide +kernel
theorem dX3_stretchBy_89 : decode cX3_stretchBy 89 = .ok (.iconst 1, 1) := by decide +kernel
theorem dX3_stretchBy_90 : decode cX3_stretchBy 90 = .ok (.iadd, 1) := by decide +kernel
theorem dX3_stretchBy_91 : decode cX3_stretchBy 91 = .ok (.goto 4, 3) := by decide +kernel
theorem dX3_stretchBy_94 : decode cX3_stretchBy 94 = .ok (.iload_n 3, 1) := by decide +kernel
theorem dX3_stretchBy_95 : decode cX3_stretchBy 95 = .ok (.iastore, 1) := by decide +kernel
theorem dX3_stretchBy_96 : decode cX3_stretchBy 96 = .ok (.iinc 5 1, 3) := by decide +kernel
theorem dX3_stretchBy_99 : decode cX3_stretchBy 99 = .ok (.goto (-34), 3) := by decide +kernel
theorem dX3_stretchBy_102 : decode cX3_stretchBy 102 = .ok (.iinc 2 (-1), 3) := by decide +kernel
theorem dX3_stretchBy_105 : decode cX3_stretchBy 105 = .ok (.goto (-66), 3) := by decide +kernel
theorem dX3_stretchBy_108 : decode cX3_stretchBy 108 = .ok (.aload_n 0, 1) := by decide +kernel
theorem dX3_stretchBy_109 : decode cX3_stretchBy 109 = .ok (.dup, 1) := by decide +kernel
theorem dX3_stretchBy_110 : decode cX3_stretchBy 110 = .ok (.getfield 21, 3) := by decide +kernel
theorem dX3_stretchBy_113 : decode cX3_stretchBy 113 = .ok (.iload_n 1, 1) := by decide +kernel
theorem dX3_stretchBy_114 : decode cX3_stretchBy 114 = .ok (.imul, 1) := by decide +kernel
theorem dX3_stretchBy_115 : decode cX3_stretchBy 115 = .ok (.putfield 21, 3) := by decide +kernel
theorem dX3_stretchBy_118 : decode cX3_stretchBy 118 = .ok (.aload_n 0, 1) := by decide +kernel
theorem dX3_stretchBy_119 : decode cX3_stretchBy 119 = .ok (.getfield 21, 3) := by decide +kernel
theorem dX3_stretchBy_122 : decode cX3_stretchBy 122 = .ok (.ireturn, 1) := by decide +kernel
set_option maxRecDepth 20000 in
theorem ggX3_gatherBy_X5_within : GoodIn wsX3_gatherBy wsX5_within := goodIn_r _ [8] (by decide +kernel) (by decide +kernel)
set_option maxRecDepth 20000 in
theorem gX3_gatherBy_X5_within_n17 : GoodIn wsX3_gatherBy (wsX5_within) := ggX3_gatherBy_X5_within
set_option maxRecDepth 20000 in
theorem ggX3_gatherBy_X3_sumOf : GoodIn wsX3_gatherBy wsX3_sumOf := goodIn_r _ [13, 3, 14, 15, 16, 17, 5, 18, 19] (by decide +kernel) (by decide +kernel)
set_option maxRecDepth 20000 in
theorem gX3_gatherBy_X3_sumOf : GoodIn wsX3_gatherBy (wsV RX3 39 RX3 yX3_sumOf wsX3_sumOf) := goodIn_app (goodIn_of _ (by decide +kernel)) ggX3_gatherBy_X3_sumOf
theorem dX3_gatherBy_0 : decode cX3_gatherBy 0 = .ok (.iload_n 1, 1) := by decide +kernel
theorem dX3_gatherBy_1 : decode cX3_gatherBy 1 = .ok (.i2l, 1) := by decide +kernel
theorem dX3_gatherBy_2 : decode cX3_gatherBy 2 = .ok (.ldc2_w 33, 3) := by decide +kernel
theorem dX3_gatherBy_5 : decode cX3_gatherBy 5 = .ok (.ldc2_w 37, 3) := by decide +kernel
theorem dX3_gatherBy_8 : decode cX3_gatherBy 8 = .ok (.invokestatic 17, 3) := by decide +kernel
theorem dX3_gatherBy_11 : decode cX3_gatherBy 11 = .ok (.ifCond .ne 6, 3) := by decide +kernel
theorem dX3_gatherBy_14 : decode cX3_gatherBy 14 = .ok (.bipush (-2), 2) := by decide +kernel
theorem dX3_gatherBy_16 : decode cX3_gatherBy 16 = .ok (.ireturn, 1) := by decide +kernel
theorem dX3_gatherBy_17 : decode cX3_gatherBy 17 = .ok (.iconst 0, 1) := by decide +kernel
theorem dX3_gatherBy_18 : decode cX3_gatherBy 18 = .ok (.istore_n 2, 1) := by decide +kernel
theorem dX3_gatherBy_19 : decode cX3_gatherBy 19 = .ok (.iload_n 2, 1) := by decide +kernel
theorem dX3_gatherBy_20 : decode cX3_gatherBy 20 = .ok (.aload_n 0, 1) := by decide +kernel
theorem dX3_gatherBy_21 : decode cX3_gatherBy 21 = .ok (.getfield 21, 3) := by decide +kernel
theorem dX3_gatherBy_24 : decode cX3_gatherBy 24 = .ok (.if_icmp .ge 24, 3) := by decide +kernel
theorem dX3_gatherBy_27 : decode cX3_gatherBy 27 = .ok (.aload_n 0, 1) := by decide +kernel
theorem dX3_gatherBy_28 : decode cX3_gatherBy 28 = .ok (.iload_n 2, 1) := by decide +kernel
theorem dX3_gatherBy_29 : decode cX3_gatherBy 29 = .ok (.iload_n 1, 1) := by decide +kernel
theorem dX3_gatherBy_30 : decode cX3_gatherBy 30 = .ok (.invokevirtual 39, 3) := by decide +kernel
theorem dX3_gatherBy_33 : decode cX3_gatherBy 33 = .ok (.ldc 32, 2) := by decide +kernel
theorem dX3_gatherBy_35 : decode cX3_gatherBy 35 = .ok (.if_icmp .le 6, 3) := by decide +kernel
theorem dX3_gatherBy_38 : decode cX3_gatherBy 38 = .ok (.bipush (-6), 2) := by decide +kernel
theorem dX3_gatherBy_40 : decode cX3_gatherBy 40 = .ok (.ireturn, 1) := by decide +kernel
theorem dX3_gatherBy_41 : decode cX3_gatherBy 41 = .ok (.iload_n 2, 1) := by decide +kernel
theorem dX3_gatherBy_42 : decode cX3_gatherBy 42 = .ok (.iload_n 1, 1) := by decide +kernel
theorem dX3_gatherBy_43 : decode cX3_gatherBy 43 = .ok (.iadd, 1) := by decide +kernel
theorem dX3_gatherBy_44 : decode cX3_gatherBy 44 = .ok (.istore_n 2, 1) := by decide +kernel
theorem dX3_gatherBy_45 : decode cX3_gatherBy 45 = .ok (.goto (-26), 3) := by decide +kernel
theorem dX3_gatherBy_48 : decode cX3_gatherBy 48 = .ok (.iconst 0, 1) := by decide +kernel
theorem dX3_gatherBy_49 : decode cX3_gatherBy 49 = .ok (.istore_n 2, 1) := by decide +kernel
theorem dX3_gatherBy_50 : decode cX3_gatherBy 50 = .ok (.iconst 0, 1) := by decide +kernel
theorem dX3_gatherBy_51 : decode cX3_gatherBy 51 = .ok (.istore_n 3, 1) := by decide +kernel
theorem dX3_gatherBy_52 : decode cX3_gatherBy 52 = .ok (.iload_n 3, 1) := by decide +kernel
theorem dX3_gatherBy_53 : decode cX3_gatherBy 53 = .ok (.aload_n 0, 1) := by decide +kernel
theorem dX3_gatherBy_54 : decode cX3_gatherBy 54 = .ok (.getfield 21, 3) := by decide +kernel
theorem dX3_gatherBy_57 : decode cX3_gatherBy 57 = .ok (.if_icmp .ge 25, 3) := by decide +kernel
theorem dX3_gatherBy_60 : decode cX3_gatherBy 60 = .ok (.aload_n 0, 1) := by decide +kernel
theorem dX3_gatherBy_61 : decode cX3_gatherBy 61 = .ok (.getfield 11, 3) := by decide +kernel
theorem dX3_gatherBy_64 : decode cX3_gatherBy 64 = .ok (.iload_n 2, 1) := by decide +kernel
theorem dX3_gatherBy_65 : decode cX3_gatherBy 65 = .ok (.aload_n 0, 1) := by decide +kernel
theorem dX3_gatherBy_66 : decode cX3_gatherBy 66 = .ok (.iload_n 3, 1) := by decide +kernel
theorem dX3_gatherBy_67 : decode cX3_gatherBy 67 = .ok (.iload_n 1, 1) := by decide +kernel
theorem dX3_gatherBy_68 : decode cX3_gatherBy 68 = .ok (.invokevirtual 39, 3) := by decide +kernel
theorem dX3_gatherBy_71 : decode cX3_gatherBy 71 = .ok (.iastore, 1) := by decide +kernel
theorem dX3_gatherBy_72 : decode cX3_gatherBy 72 = .ok (.iinc 2 1, 3) := by decide +kernel
theorem dX3_gatherBy_75 : decode cX3_gatherBy 75 = .ok (.iload_n 3, 1) := by decide +kernel
theorem dX3_gatherBy_76 : decode cX3_gatherBy 76 = .ok (.iload_n 1, 1) := by decide +kernel
theorem dX3_gatherBy_77 : decode cX3_gatherBy 77 = .ok (.iadd, 1) := by decide +kernel
theorem dX3_gatherBy_78 : decode cX3_gatherBy 78 = .ok (.istore_n 3, 1) := by decide +kernel
theorem dX3_gatherBy_79 : decode cX3_gatherBy 79 = .ok (.goto (-27), 3) := by decide +kernel
theorem dX3_gatherBy_82 : decode cX3_gatherBy 82 = .ok (.aload_n 0, 1) := by decide +kernel
theorem dX3_gatherBy_83 : decode cX3_gatherBy 83 = .ok (.iload_n 2, 1) := by decide +kernel
theorem dX3_gatherBy_84 : decode cX3_gatherBy 84 = .ok (.putfield 21, 3) := by decide +kernel
theorem dX3_gatherBy_87 : decode cX3_gatherBy 87 = .ok (.aload_n 0, 1) := by decide +kernel
theorem dX3_gatherBy_88 : decode cX3_gatherBy 88 = .ok (.getfield 21, 3) := by decide +kernel
theorem dX3_gatherBy_91 : decode cX3_gatherBy 91 = .ok (.ireturn, 1) := by decide +kernel
set_option maxRecDepth 20000 in
theorem ggX3_faultBy_X5_within : GoodIn wsX3_faultBy wsX5_within := goodIn_r _ [9] (by decide +kernel) (by decide +kernel)
set_option maxRecDepth 20000 in
theorem gX3_faultBy_X5_within_n17 : GoodIn wsX3_faultBy (wsX5_within) := ggX3_faultBy_X5_within
set_option maxRecDepth 20000 in
theorem ggX3_faultBy_X3_given : GoodIn wsX3_faultBy wsX3_given := goodIn_r _ [14, 5, 3, 15, 16] (by decide +kernel) (by decide +kernel)
set_option maxRecDepth 20000 in
theorem gX3_faultBy_X3_given : GoodIn wsX3_faultBy (wsV RX3 47 RX3 yX3_given wsX3_given) := goodIn_app (goodIn_of _ (by decide +kernel)) ggX3_faultBy_X3_given
theorem dX3_faultBy_0 : decode cX3_faultBy 0 = .ok (.iload_n 1, 1) := by decide +kernel
theorem dX3_faultBy_1 : decode cX3_faultBy 1 = .ok (.i2l, 1) := by decide +kernel
theorem dX3_faultBy_2 : decode cX3_faultBy 2 = .ok (.ldc2_w 33, 3) := by decide +kernel
theorem dX3_faultBy_5 : decode cX3_faultBy 5 = .ok (.ldc2_w 43, 3) := by decide +kernel
theorem dX3_faultBy_8 : decode cX3_faultBy 8 = .ok (.invokestatic 17, 3) := by decide +kernel
theorem dX3_faultBy_11 : decode cX3_faultBy 11 = .ok (.ifCond .eq 15, 3) := by decide +kernel
theorem dX3_faultBy_14 : decode cX3_faultBy 14 = .ok (.iload_n 2, 1) := by decide +kernel
theorem dX3_faultBy_15 : decode cX3_faultBy 15 = .ok (.i2l, 1) := by decide +kernel
theorem dX3_faultBy_16 : decode cX3_faultBy 16 = .ok (.lconst 0, 1) := by decide +kernel
theorem dX3_faultBy_17 : decode cX3_faultBy 17 = .ok (.ldc2_w 45, 3) := by decide +kernel
theorem dX3_faultBy_20 : decode cX3_faultBy 20 = .ok (.invokestatic 17, 3) := by decide +kernel
theorem dX3_faultBy_23 : decode cX3_faultBy 23 = .ok (.ifCond .ne 6, 3) := by decide +kernel
theorem dX3_faultBy_26 : decode cX3_faultBy 26 = .ok (.bipush (-2), 2) := by decide +kernel
theorem dX3_faultBy_28 : decode cX3_faultBy 28 = .ok (.ireturn, 1) := by decide +kernel
theorem dX3_faultBy_29 : decode cX3_faultBy 29 = .ok (.iload_n 1, 1) := by decide +kernel
theorem dX3_faultBy_30 : decode cX3_faultBy 30 = .ok (.iconst 2, 1) := by decide +kernel
theorem dX3_faultBy_31 : decode cX3_faultBy 31 = .ok (.idiv, 1) := by decide +kernel
theorem dX3_faultBy_32 : decode cX3_faultBy 32 = .ok (.istore_n 3, 1) := by decide +kernel
theorem dX3_faultBy_33 : decode cX3_faultBy 33 = .ok (.iconst 0, 1) := by decide +kernel
theorem dX3_faultBy_34 : decode cX3_faultBy 34 = .ok (.istore 4, 2) := by decide +kernel
theorem dX3_faultBy_36 : decode cX3_faultBy 36 = .ok (.iload 4, 2) := by decide +kernel
theorem dX3_faultBy_38 : decode cX3_faultBy 38 = .ok (.iload_n 1, 1) := by decide +kernel
theorem dX3_faultBy_39 : decode cX3_faultBy 39 = .ok (.iadd, 1) := by decide +kernel
theorem dX3_faultBy_40 : decode cX3_faultBy 40 = .ok (.aload_n 0, 1) := by decide +kernel
theorem dX3_faultBy_41 : decode cX3_faultBy 41 = .ok (.getfield 21, 3) := by decide +kernel
theorem dX3_faultBy_44 : decode cX3_faultBy 44 = .ok (.if_icmp .gt 56, 3) := by decide +kernel
theorem dX3_faultBy_47 : decode cX3_faultBy 47 = .ok (.iload 4, 2) := by decide +kernel
theorem dX3_faultBy_49 : decode cX3_faultBy 49 = .ok (.istore 5, 2) := by decide +kernel
theorem dX3_faultBy_51 : decode cX3_faultBy 51 = .ok (.iload 5, 2) := by decide +kernel
theorem dX3_faultBy_53 : decode cX3_faultBy 53 = .ok (.iload 4, 2) := by decide +kernel
theorem dX3_faultBy_55 : decode cX3_faultBy 55 = .ok (.iload_n 3, 1) := by decide +kernel
theorem dX3_faultBy_56 : decode cX3_faultBy 56 = .ok (.iadd, 1) := by decide +kernel
theorem dX3_faultBy_57 : decode cX3_faultBy 57 = .ok (.if_icmp .ge 34, 3) := by decide +kernel
theorem dX3_faultBy_60 : decode cX3_faultBy 60 = .ok (.aload_n 0, 1) := by decide +kernel
theorem dX3_faultBy_61 : decode cX3_faultBy 61 = .ok (.getfield 11, 3) := by decide +kernel
theorem dX3_faultBy_64 : decode cX3_faultBy 64 = .ok (.iload 5, 2) := by decide +kernel
theorem dX3_faultBy_66 : decode cX3_faultBy 66 = .ok (.iload_n 3, 1) := by decide +kernel
theorem dX3_faultBy_67 : decode cX3_faultBy 67 = .ok (.iadd, 1) := by decide +kernel
theorem dX3_faultBy_68 : decode cX3_faultBy 68 = .ok (.iaload, 1) := by decide +kernel
theorem dX3_faultBy_69 : decode cX3_faultBy 69 = .ok (.aload_n 0, 1) := by decide +kernel
theorem dX3_faultBy_70 : decode cX3_faultBy 70 = .ok (.iload 5, 2) := by decide +kernel
theorem dX3_faultBy_72 : decode cX3_faultBy 72 = .ok (.iload_n 2, 1) := by decide +kernel
theorem dX3_faultBy_73 : decode cX3_faultBy 73 = .ok (.invokevirtual 47, 3) := by decide +kernel
theorem dX3_faultBy_76 : decode cX3_faultBy 76 = .ok (.iadd, 1) := by decide +kernel
theorem dX3_faultBy_77 : decode cX3_faultBy 77 = .ok (.ldc 32, 2) := by decide +kernel
theorem dX3_faultBy_79 : decode cX3_faultBy 79 = .ok (.if_icmp .le 6, 3) := by decide +kernel
theorem dX3_faultBy_82 : decode cX3_faultBy 82 = .ok (.bipush (-6), 2) := by decide +kernel
theorem dX3_faultBy_84 : decode cX3_faultBy 84 = .ok (.ireturn, 1) := by decide +kernel
theorem dX3_faultBy_85 : decode cX3_faultBy 85 = .ok (.iinc 5 1, 3) := by decide +kernel
theorem dX3_faultBy_88 : decode cX3_faultBy 88 = .ok (.goto (-37), 3) := by decide +kernel
theorem dX3_faultBy_91 : decode cX3_faultBy 91 = .ok (.iload 4, 2) := by decide +kernel
theorem dX3_faultBy_93 : decode cX3_faultBy 93 = .ok (.iload_n 1, 1) := by decide +kernel
theorem dX3_faultBy_94 : decode cX3_faultBy 94 = .ok (.iadd, 1) := by decide +kernel
theorem dX3_faultBy_95 : decode cX3_faultBy 95 = .ok (.istore 4, 2) := by decide +kernel
theorem dX3_faultBy_97 : decode cX3_faultBy 97 = .ok (.goto (-61), 3) := by decide +kernel
theorem dX3_faultBy_100 : decode cX3_faultBy 100 = .ok (.iconst 0, 1) := by decide +kernel
theorem dX3_faultBy_101 : decode cX3_faultBy 101 = .ok (.istore 4, 2) := by decide +kernel
theorem dX3_faultBy_103 : decode cX3_faultBy 103 = .ok (.iconst 0, 1) := by decide +kernel
theorem dX3_faultBy_104 : decode cX3_faultBy 104 = .ok (.istore 5, 2) := by decide +kernel
theorem dX3_faultBy_106 : decode cX3_faultBy 106 = .ok (.iload 5, 2) := by decide +kernel
theorem dX3_faultBy_108 : decode cX3_faultBy 108 = .ok (.iload_n 1, 1) := by decide +kernel
theorem dX3_faultBy_109 : decode cX3_faultBy 109 = .ok (.iadd, 1) := by decide +kernel
theorem dX3_faultBy_110 : decode cX3_faultBy 110 = .ok (.aload_n 0, 1) := by decide +kernel
theorem dX3_faultBy_111 : decode cX3_faultBy 111 = .ok (.getfield 21, 3) := by decide +kernel
theorem dX3_faultBy_114 : decode cX3_faultBy 114 = .ok (.if_icmp .gt 73, 3) := by decide +kernel
theorem dX3_faultBy_117 : decode cX3_faultBy 117 = .ok (.iload 5, 2) := by decide +kernel
theorem dX3_faultBy_119 : decode cX3_faultBy 119 = .ok (.istore 6, 2) := by decide +kernel
theorem dX3_faultBy_121 : decode cX3_faultBy 121 = .ok (.iload 6, 2) := by decide +kernel
theorem dX3_faultBy_123 : decode cX3_faultBy 123 = .ok (.iload 5, 2) := by decide +kernel
theorem dX3_faultBy_125 : decode cX3_faultBy 125 = .ok (.iload_n 3, 1) := by decide +kernel
theorem dX3_faultBy_126 : decode cX3_faultBy 126 = .ok (.iadd, 1) := by decide +kernel
theorem dX3_faultBy_127 : decode cX3_faultBy 127 = .ok (.if_icmp .ge 51, 3) := by decide +kernel
theorem dX3_faultBy_130 : decode cX3_faultBy 130 = .ok (.aload_n 0, 1) := by decide +kernel
theorem dX3_faultBy_131 : decode cX3_faultBy 131 = .ok (.iload 6, 2) := by decide +kernel
theorem dX3_faultBy_133 : decode cX3_faultBy 133 = .ok (.iload_n 2, 1) := by decide +kernel
theorem dX3_faultBy_134 : decode cX3_faultBy 134 = .ok (.invokevirtual 47, 3) := by decide +kernel
theorem dX3_faultBy_137 : decode cX3_faultBy 137 = .ok (.istore 7, 2) := by decide +kernel
theorem dX3_faultBy_139 : decode cX3_faultBy 139 = .ok (.aload_n 0, 1) := by decide +kernel
theorem dX3_faultBy_140 : decode cX3_faultBy 140 = .ok (.getfield 11, 3) := by decide +kernel
theorem dX3_faultBy_143 : decode cX3_faultBy 143 = .ok (.iload 6, 2) := by decide +kernel
theorem dX3_faultBy_145 : decode cX3_faultBy 145 = .ok (.dup2, 1) := by decide +kernel
theorem dX3_faultBy_146 : decode cX3_faultBy 146 = .ok (.iaload, 1) := by decide +kernel
theorem dX3_faultBy_147 : decode cX3_faultBy 147 = .ok (.iload 7, 2) := by decide +kernel
theorem dX3_faultBy_149 : decode cX3_faultBy 149 = .ok (.isub, 1) := by decide +kernel
theorem dX3_faultBy_150 : decode cX3_faultBy 150 = .ok (.iastore, 1) := by decide +kernel
theorem dX3_faultBy_151 : decode cX3_faultBy 151 = .ok (.aload_n 0, 1) := by decide +kernel
theorem dX3_faultBy_152 : decode cX3_faultBy 152 = .ok (.getfield 11, 3) := by decide +kernel
theorem dX3_faultBy_155 : decode cX3_faultBy 155 = .ok (.iload 6, 2) := by decide +kernel
theorem dX3_faultBy_157 : decode cX3_faultBy 157 = .ok (.iload_n 3, 1) := by decide +kernel
theorem dX3_faultBy_158 : decode cX3_faultBy 158 = .ok (.iadd, 1) := by decide +kernel
theorem dX3_faultBy_159 : decode cX3_faultBy 159 = .ok (.dup2, 1) := by decide +kernel
theorem dX3_faultBy_160 : decode cX3_faultBy 160 = .ok (.iaload, 1) := by decide +kernel
theorem dX3_faultBy_161 : decode cX3_faultBy 161 = .ok (.iload 7, 2) := by decide +kernel
theorem dX3_faultBy_163 : decode cX3_faultBy 163 = .ok (.iadd, 1) := by decide +kernel
theorem dX3_faultBy_164 : decode cX3_faultBy 164 = .ok (.iastore, 1) := by decide +kernel
theorem dX3_faultBy_165 : decode cX3_faultBy 165 = .ok (.iload 4, 2) := by decide +kernel
theorem dX3_faultBy_167 : decode cX3_faultBy 167 = .ok (.iload 7, 2) := by decide +kernel
theorem dX3_faultBy_169 : decode cX3_faultBy 169 = .ok (.iadd, 1) := by decide +kernel
theorem dX3_faultBy_170 : decode cX3_faultBy 170 = .ok (.istore 4, 2) := by decide +kernel
theorem dX3_faultBy_172 : decode cX3_faultBy 172 = .ok (.iinc 6 1, 3) := by decide +kernel
theorem dX3_faultBy_175 : decode cX3_faultBy 175 = .ok (.goto (-54), 3) := by decide +kernel
theorem dX3_faultBy_178 : decode cX3_faultBy 178 = .ok (.iload 5, 2) := by decide +kernel
theorem dX3_faultBy_180 : decode cX3_faultBy 180 = .ok (.iload_n 1, 1) := by decide +kernel
theorem dX3_faultBy_181 : decode cX3_faultBy 181 = .ok (.iadd, 1) := by decide +kernel
theorem dX3_faultBy_182 : decode cX3_faultBy 182 = .ok (.istore 5, 2) := by decide +kernel
theorem dX3_faultBy_184 : decode cX3_faultBy 184 = .ok (.goto (-78), 3) := by decide +kernel
theorem dX3_faultBy_187 : decode cX3_faultBy 187 = .ok (.iload 4, 2) := by decide +kernel
theorem dX3_faultBy_189 : decode cX3_faultBy 189 = .ok (.ireturn, 1) := by decide +kernel
set_option maxRecDepth 20000 in
theorem ggX3_measure_X3_sumOf : GoodIn wsX3_measure wsX3_sumOf := goodIn_r _ [7, 1, 8, 9, 10, 11, 12, 17, 18] (by decide +kernel) (by decide +kernel)
set_option maxRecDepth 20000 in
theorem gX3_measure_X3_sumOf : GoodIn wsX3_measure (wsV RX3 39 RX3 yX3_sumOf wsX3_sumOf) := goodIn_app (goodIn_of _ (by decide +kernel)) ggX3_measure_X3_sumOf
set_option maxRecDepth 20000 in
theorem ggX3_measure_X3_unevenness : GoodIn wsX3_measure wsX3_unevenness := goodIn_r _ [16, 1, 12, 3, 4, 5, 6, 7, 8, 9, 10, 11, 17, 18] (by decide +kernel) (by decide +kernel)
set_option maxRecDepth 20000 in
theorem gX3_measure_X3_unevenness : GoodIn wsX3_measure (wsV RX3 50 RX3 yX3_unevenness wsX3_unevenness) := goodIn_app (goodIn_of _ (by decide +kernel)) ggX3_measure_X3_unevenness
theorem dX3_measure_0 : decode cX3_measure 0 = .ok (.iload_n 1, 1) := by decide +kernel
theorem dX3_measure_1 : decode cX3_measure 1 = .ok (.tableswitch 49 0 2 #[27, 33, 44], 27) := by decide +kernel
theorem dX3_measure_28 : decode cX3_measure 28 = .ok (.aload_n 0, 1) := by decide +kernel
theorem dX3_measure_29 : decode cX3_measure 29 = .ok (.getfield 21, 3) := by decide +kernel
theorem dX3_measure_32 : decode cX3_measure 32 = .ok (.i2l, 1) := by decide +kernel
theorem dX3_measure_33 : decode cX3_measure 33 = .ok (.lreturn, 1) := by decide +kernel
theorem dX3_measure_34 : decode cX3_measure 34 = .ok (.aload_n 0, 1) := by decide +kernel
theorem dX3_measure_35 : decode cX3_measure 35 = .ok (.iconst 0, 1) := by decide +kernel
theorem dX3_measure_36 : decode cX3_measure 36 = .ok (.aload_n 0, 1) := by decide +kernel
theorem dX3_measure_37 : decode cX3_measure 37 = .ok (.getfield 21, 3) := by decide +kernel
theorem dX3_measure_40 : decode cX3_measure 40 = .ok (.invokevirtual 39, 3) := by decide +kernel
theorem dX3_measure_43 : decode cX3_measure 43 = .ok (.i2l, 1) := by decide +kernel
theorem dX3_measure_44 : decode cX3_measure 44 = .ok (.lreturn, 1) := by decide +kernel
theorem dX3_measure_45 : decode cX3_measure 45 = .ok (.aload_n 0, 1) := by decide +kernel
theorem dX3_measure_46 : decode cX3_measure 46 = .ok (.invokevirtual 50, 3) := by decide +kernel
theorem dX3_measure_49 : decode cX3_measure 49 = .ok (.lreturn, 1) := by decide +kernel
theorem dX3_measure_50 : decode cX3_measure 50 = .ok (.ldc2_w 54, 3) := by decide +kernel
theorem dX3_measure_53 : decode cX3_measure 53 = .ok (.lreturn, 1) := by decide +kernel
set_option maxRecDepth 20000 in
theorem ggX3_waveAt_X5_within : GoodIn wsX3_waveAt wsX5_within := goodIn_r _ [8] (by decide +kernel) (by decide +kernel)
set_option maxRecDepth 20000 in
theorem gX3_waveAt_X5_within_n17 : GoodIn wsX3_waveAt (wsX5_within) := ggX3_waveAt_X5_within
theorem dX3_waveAt_0 : decode cX3_waveAt 0 = .ok (.iload_n 1, 1) := by decide +kernel
theorem dX3_waveAt_1 : decode cX3_waveAt 1 = .ok (.i2l, 1) := by decide +kernel
theorem dX3_waveAt_2 : decode cX3_waveAt 2 = .ok (.ldc2_w 33, 3) := by decide +kernel
theorem dX3_waveAt_5 : decode cX3_waveAt 5 = .ok (.ldc2_w 56, 3) := by decide +kernel
theorem dX3_waveAt_8 : decode cX3_waveAt 8 = .ok (.invokestatic 17, 3) := by decide +kernel
theorem dX3_waveAt_11 : decode cX3_waveAt 11 = .ok (.ifCond .ne 7, 3) := by decide +kernel
theorem dX3_waveAt_14 : decode cX3_waveAt 14 = .ok (.ldc2_w 54, 3) := by decide +kernel
theorem dX3_waveAt_17 : decode cX3_waveAt 17 = .ok (.lreturn, 1) := by decide +kernel
theorem dX3_waveAt_18 : decode cX3_waveAt 18 = .ok (.aload_n 0, 1) := by decide +kernel
theorem dX3_waveAt_19 : decode cX3_waveAt 19 = .ok (.getfield 21, 3) := by decide +kernel
theorem dX3_waveAt_22 : decode cX3_waveAt 22 = .ok (.iload_n 1, 1) := by decide +kernel
theorem dX3_waveAt_23 : decode cX3_waveAt 23 = .ok (.idiv, 1) := by decide +kernel
theorem dX3_waveAt_24 : decode cX3_waveAt 24 = .ok (.iload_n 1, 1) := by decide +kernel
theorem dX3_waveAt_25 : decode cX3_waveAt 25 = .ok (.imul, 1) := by decide +kernel
theorem dX3_waveAt_26 : decode cX3_waveAt 26 = .ok (.istore_n 2, 1) := by decide +kernel
theorem dX3_waveAt_27 : decode cX3_waveAt 27 = .ok (.lconst 0, 1) := by decide +kernel
theorem dX3_waveAt_28 : decode cX3_waveAt 28 = .ok (.lstore_n 3, 1) := by decide +kernel
theorem dX3_waveAt_29 : decode cX3_waveAt 29 = .ok (.lconst 0, 1) := by decide +kernel
theorem dX3_waveAt_30 : decode cX3_waveAt 30 = .ok (.lstore 5, 2) := by decide +kernel
theorem dX3_waveAt_32 : decode cX3_waveAt 32 = .ok (.iconst 0, 1) := by decide +kernel
theorem dX3_waveAt_33 : decode cX3_waveAt 33 = .ok (.istore 7, 2) := by decide +kernel
theorem dX3_waveAt_35 : decode cX3_waveAt 35 = .ok (.iload 7, 2) := by decide +kernel
theorem dX3_waveAt_37 : decode cX3_waveAt 37 = .ok (.iload_n 1, 1) := by decide +kernel
theorem dX3_waveAt_38 : decode cX3_waveAt 38 = .ok (.if_icmp .ge 59, 3) := by decide +kernel
theorem dX3_waveAt_41 : decode cX3_waveAt 41 = .ok (.lconst 0, 1) := by decide +kernel
theorem dX3_waveAt_42 : decode cX3_waveAt 42 = .ok (.lstore 8, 2) := by decide +kernel
theorem dX3_waveAt_44 : decode cX3_waveAt 44 = .ok (.iload 7, 2) := by decide +kernel
theorem dX3_waveAt_46 : decode cX3_waveAt 46 = .ok (.istore 10, 2) := by decide +kernel
theorem dX3_waveAt_48 : decode cX3_waveAt 48 = .ok (.iload 10, 2) := by decide +kernel
theorem dX3_waveAt_50 : decode cX3_waveAt 50 = .ok (.iload_n 2, 1) := by decide +kernel
theorem dX3_waveAt_51 : decode cX3_waveAt 51 = .ok (.if_icmp .ge 25, 3) := by decide +kernel
theorem dX3_waveAt_54 : decode cX3_waveAt 54 = .ok (.lload 8, 2) := by decide +kernel
theorem dX3_waveAt_56 : decode cX3_waveAt 56 = .ok (.aload_n 0, 1) := by decide +kernel
theorem dX3_waveAt_57 : decode cX3_waveAt 57 = .ok (.getfield 11, 3) := by decide +kernel
theorem dX3_waveAt_60 : decode cX3_waveAt 60 = .ok (.iload 10, 2) := by decide +kernel
theorem dX3_waveAt_62 : decode cX3_waveAt 62 = .ok (.iaload, 1) := by decide +kernel
theorem dX3_waveAt_63 : decode cX3_waveAt 63 = .ok (.i2l, 1) := by decide +kernel
theorem dX3_waveAt_64 : decode cX3_waveAt 64 = .ok (.ladd, 1) := by decide +kernel
theorem dX3_waveAt_65 : decode cX3_waveAt 65 = .ok (.lstore 8, 2) := by decide +kernel
theorem dX3_waveAt_67 : decode cX3_waveAt 67 = .ok (.iload 10, 2) := by decide +kernel
theorem dX3_waveAt_69 : decode cX3_waveAt 69 = .ok (.iload_n 1, 1) := by decide +kernel
theorem dX3_waveAt_70 : decode cX3_waveAt 70 = .ok (.iadd, 1) := by decide +kernel
theorem dX3_waveAt_71 : decode cX3_waveAt 71 = .ok (.istore 10, 2) := by decide +kernel
theorem dX3_waveAt_73 : decode cX3_waveAt 73 = .ok (.goto (-25), 3) := by decide +kernel
theorem dX3_waveAt_76 : decode cX3_waveAt 76 = .ok (.lload_n 3, 1) := by decide +kernel
theorem dX3_waveAt_77 : decode cX3_waveAt 77 = .ok (.lload 8, 2) := by decide +kernel
theorem dX3_waveAt_79 : decode cX3_waveAt 79 = .ok (.ladd, 1) := by decide +kernel
theorem dX3_waveAt_80 : decode cX3_waveAt 80 = .ok (.lstore_n 3, 1) := by decide +kernel
theorem dX3_waveAt_81 : decode cX3_waveAt 81 = .ok (.lload 5, 2) := by decide +kernel
theorem dX3_waveAt_83 : decode cX3_waveAt 83 = .ok (.lload 8, 2) := by decide +kernel
theorem dX3_waveAt_85 : decode cX3_waveAt 85 = .ok (.lload 8, 2) := by decide +kernel
theorem dX3_waveAt_87 : decode cX3_waveAt 87 = .ok (.lmul, 1) := by decide +kernel
theorem dX3_waveAt_88 : decode cX3_waveAt 88 = .ok (.ladd, 1) := by decide +kernel
theorem dX3_waveAt_89 : decode cX3_waveAt 89 = .ok (.lstore 5, 2) := by decide +kernel
theorem dX3_waveAt_91 : decode cX3_waveAt 91 = .ok (.iinc 7 1, 3) := by decide +kernel
theorem dX3_waveAt_94 : decode cX3_waveAt 94 = .ok (.goto (-59), 3) := by decide +kernel
theorem dX3_waveAt_97 : decode cX3_waveAt 97 = .ok (.iload_n 1, 1) := by decide +kernel
theorem dX3_waveAt_98 : decode cX3_waveAt 98 = .ok (.i2l, 1) := by decide +kernel
theorem dX3_waveAt_99 : decode cX3_waveAt 99 = .ok (.lload 5, 2) := by decide +kernel
theorem dX3_waveAt_101 : decode cX3_waveAt 101 = .ok (.lmul, 1) := by decide +kernel
theorem dX3_waveAt_102 : decode cX3_waveAt 102 = .ok (.lload_n 3, 1) := by decide +kernel
theorem dX3_waveAt_103 : decode cX3_waveAt 103 = .ok (.lload_n 3, 1) := by decide +kernel
theorem dX3_waveAt_104 : decode cX3_waveAt 104 = .ok (.lmul, 1) := by decide +kernel
theorem dX3_waveAt_105 : decode cX3_waveAt 105 = .ok (.lsub, 1) := by decide +kernel
theorem dX3_waveAt_106 : decode cX3_waveAt 106 = .ok (.lreturn, 1) := by decide +kernel
set_option maxRecDepth 20000 in
theorem ggX3_greatestUpTo_X5_within : GoodIn wsX3_greatestUpTo wsX5_within := goodIn_r _ [6] (by decide +kernel) (by decide +kernel)
set_option maxRecDepth 20000 in
theorem gX3_greatestUpTo_X5_within_n17 : GoodIn wsX3_greatestUpTo (wsX5_within) := ggX3_greatestUpTo_X5_within
set_option maxRecDepth 20000 in
theorem ggX3_greatestUpTo_X3_waveAt : GoodIn wsX3_greatestUpTo wsX3_waveAt := goodIn_r _ [11, 1, 2, 12, 3, 13, 4, 5, 6, 17, 18] (by decide +kernel) (by decide +kernel)
set_option maxRecDepth 20000 in
theorem gX3_greatestUpTo_X3_waveAt : GoodIn wsX3_greatestUpTo (wsV RX3 58 RX3 yX3_waveAt wsX3_waveAt) := goodIn_app (goodIn_of _ (by decide +kernel)) ggX3_greatestUpTo_X3_waveAt
set_option maxRecDepth 20000 in
theorem ggX3_greatestUpTo_X3_isGreater : GoodIn wsX3_greatestUpTo wsX3_isGreater := goodIn_r _ [16] (by decide +kernel) (by decide +kernel)
set_option maxRecDepth 20000 in
theorem gX3_greatestUpTo_X3_isGreater : GoodIn wsX3_greatestUpTo (va_wsS RX3 62 yX3_isGreater wsX3_isGreater) := goodIn_app (goodIn_of _ (by decide +kernel)) ggX3_greatestUpTo_X3_isGreater
theorem dX3_greatestUpTo_0 : decode cX3_greatestUpTo 0 = .ok (.iload_n 1, 1) := by decide +kernel
theorem dX3_greatestUpTo_1 : decode cX3_greatestUpTo 1 = .ok (.i2l, 1) := by decide +kernel
theorem dX3_greatestUpTo_2 : decode cX3_greatestUpTo 2 = .ok (.ldc2_w 33, 3) := by decide +kernel
theorem dX3_greatestUpTo_5 : decode cX3_greatestUpTo 5 = .ok (.ldc2_w 56, 3) := by decide +kernel
theorem dX3_greatestUpTo_8 : decode cX3_greatestUpTo 8 = .ok (.invokestatic 17, 3) := by decide +kernel
theorem dX3_greatestUpTo_11 : decode cX3_greatestUpTo 11 = .ok (.ifCond .ne 6, 3) := by decide +kernel
theorem dX3_greatestUpTo_14 : decode cX3_greatestUpTo 14 = .ok (.bipush (-2), 2) := by decide +kernel
theorem dX3_greatestUpTo_16 : decode cX3_greatestUpTo 16 = .ok (.ireturn, 1) := by decide +kernel
theorem dX3_greatestUpTo_17 : decode cX3_greatestUpTo 17 = .ok (.iconst (-1), 1) := by decide +kernel
theorem dX3_greatestUpTo_18 : decode cX3_greatestUpTo 18 = .ok (.istore_n 2, 1) := by decide +kernel
theorem dX3_greatestUpTo_19 : decode cX3_greatestUpTo 19 = .ok (.lconst 0, 1) := by decide +kernel
theorem dX3_greatestUpTo_20 : decode cX3_greatestUpTo 20 = .ok (.lstore_n 3, 1) := by decide +kernel
theorem dX3_greatestUpTo_21 : decode cX3_greatestUpTo 21 = .ok (.lconst 1, 1) := by decide +kernel
theorem dX3_greatestUpTo_22 : decode cX3_greatestUpTo 22 = .ok (.lstore 5, 2) := by decide +kernel
theorem dX3_greatestUpTo_24 : decode cX3_greatestUpTo 24 = .ok (.iconst 2, 1) := by decide +kernel
theorem dX3_greatestUpTo_25 : decode cX3_greatestUpTo 25 = .ok (.istore 7, 2) := by decide +kernel
theorem dX3_greatestUpTo_27 : decode cX3_greatestUpTo 27 = .ok (.iload 7, 2) := by decide +kernel
theorem dX3_greatestUpTo_29 : decode cX3_greatestUpTo 29 = .ok (.iload_n 1, 1) := by decide +kernel
theorem dX3_greatestUpTo_30 : decode cX3_greatestUpTo 30 = .ok (.if_icmp .gt 73, 3) := by decide +kernel
theorem dX3_greatestUpTo_33 : decode cX3_greatestUpTo 33 = .ok (.iconst 2, 1) := by decide +kernel
theorem dX3_greatestUpTo_34 : decode cX3_greatestUpTo 34 = .ok (.iload 7, 2) := by decide +kernel
theorem dX3_greatestUpTo_36 : decode cX3_greatestUpTo 36 = .ok (.imul, 1) := by decide +kernel
theorem dX3_greatestUpTo_37 : decode cX3_greatestUpTo 37 = .ok (.aload_n 0, 1) := by decide +kernel
theorem dX3_greatestUpTo_38 : decode cX3_greatestUpTo 38 = .ok (.getfield 21, 3) := by decide +kernel
theorem dX3_greatestUpTo_41 : decode cX3_greatestUpTo 41 = .ok (.if_icmp .gt 62, 3) := by decide +kernel
theorem dX3_greatestUpTo_44 : decode cX3_greatestUpTo 44 = .ok (.aload_n 0, 1) := by decide +kernel
theorem dX3_greatestUpTo_45 : decode cX3_greatestUpTo 45 = .ok (.iload 7, 2) := by decide +kernel
theorem dX3_greatestUpTo_47 : decode cX3_greatestUpTo 47 = .ok (.invokevirtual 58, 3) := by decide +kernel
theorem dX3_greatestUpTo_50 : decode cX3_greatestUpTo 50 = .ok (.lstore 8, 2) := by decide +kernel
theorem dX3_greatestUpTo_52 : decode cX3_greatestUpTo 52 = .ok (.aload_n 0, 1) := by decide +kernel
theorem dX3_greatestUpTo_53 : decode cX3_greatestUpTo 53 = .ok (.getfield 21, 3) := by decide +kernel
theorem dX3_greatestUpTo_56 : decode cX3_greatestUpTo 56 = .ok (.iload 7, 2) := by decide +kernel
theorem dX3_greatestUpTo_58 : decode cX3_greatestUpTo 58 = .ok (.idiv, 1) := by decide +kernel
theorem dX3_greatestUpTo_59 : decode cX3_greatestUpTo 59 = .ok (.iload 7, 2) := by decide +kernel
theorem dX3_greatestUpTo_61 : decode cX3_greatestUpTo 61 = .ok (.imul, 1) := by decide +kernel
theorem dX3_greatestUpTo_62 : decode cX3_greatestUpTo 62 = .ok (.i2l, 1) := by decide +kernel
theorem dX3_greatestUpTo_63 : decode cX3_greatestUpTo 63 = .ok (.iload 7, 2) := by decide +kernel
theorem dX3_greatestUpTo_65 : decode cX3_greatestUpTo 65 = .ok (.i2l, 1) := by decide +kernel
theorem dX3_greatestUpTo_66 : decode cX3_greatestUpTo 66 = .ok (.lmul, 1) := by decide +kernel
theorem dX3_greatestUpTo_67 : decode cX3_greatestUpTo 67 = .ok (.lstore 10, 2) := by decide +kernel
theorem dX3_greatestUpTo_69 : decode cX3_greatestUpTo 69 = .ok (.iload_n 2, 1) := by decide +kernel
theorem dX3_greatestUpTo_70 : decode cX3_greatestUpTo 70 = .ok (.iconst (-1), 1) := by decide +kernel
theorem dX3_greatestUpTo_71 : decode cX3_greatestUpTo 71 = .ok (.if_icmp .eq 16, 3) := by decide +kernel
theorem dX3_greatestUpTo_74 : decode cX3_greatestUpTo 74 = .ok (.lload 8, 2) := by decide +kernel
theorem dX3_greatestUpTo_76 : decode cX3_greatestUpTo 76 = .ok (.lload 10, 2) := by decide +kernel
theorem dX3_greatestUpTo_78 : decode cX3_greatestUpTo 78 = .ok (.lload_n 3, 1) := by decide +kernel
theorem dX3_greatestUpTo_79 : decode cX3_greatestUpTo 79 = .ok (.lload 5, 2) := by decide +kernel
theorem dX3_greatestUpTo_81 : decode cX3_greatestUpTo 81 = .ok (.invokestatic 62, 3) := by decide +kernel
theorem dX3_greatestUpTo_84 : decode cX3_greatestUpTo 84 = .ok (.ifCond .eq 13, 3) := by decide +kernel
theorem dX3_greatestUpTo_87 : decode cX3_greatestUpTo 87 = .ok (.iload 7, 2) := by decide +kernel
theorem dX3_greatestUpTo_89 : decode cX3_greatestUpTo 89 = .ok (.istore_n 2, 1) := by decide +kernel
theorem dX3_greatestUpTo_90 : decode cX3_greatestUpTo 90 = .ok (.lload 8, 2) := by decide +kernel
theorem dX3_greatestUpTo_92 : decode cX3_greatestUpTo 92 = .ok (.lstore_n 3, 1) := by decide +kernel
theorem dX3_greatestUpTo_93 : decode cX3_greatestUpTo 93 = .ok (.lload 10, 2) := by decide +kernel
theorem dX3_greatestUpTo_95 : decode cX3_greatestUpTo 95 = .ok (.lstore 5, 2) := by decide +kernel
theorem dX3_greatestUpTo_97 : decode cX3_greatestUpTo 97 = .ok (.iinc 7 1, 3) := by decide +kernel
theorem dX3_greatestUpTo_100 : decode cX3_greatestUpTo 100 = .ok (.goto (-73), 3) := by decide +kernel
theorem dX3_greatestUpTo_103 : decode cX3_greatestUpTo 103 = .ok (.iload_n 2, 1) := by decide +kernel
theorem dX3_greatestUpTo_104 : decode cX3_greatestUpTo 104 = .ok (.ireturn, 1) := by decide +kernel
set_option maxRecDepth 20000 in
theorem ggX3_countPlaces_X3_isLaw : GoodIn wsX3_countPlaces wsX3_isLaw := goodIn_r _ [9, 10, 11, 12, 13, 14, 15] (by decide +kernel) (by decide +kernel)
set_option maxRecDepth 20000 in
theorem gX3_countPlaces_X3_isLaw : GoodIn wsX3_countPlaces (va_wsS RX3 66 yX3_isLaw wsX3_isLaw) := goodIn_app (goodIn_of _ (by decide +kernel)) ggX3_countPlaces_X3_isLaw
set_option maxRecDepth 20000 in
theorem ggX3_countPlaces_X5_within : GoodIn wsX3_countPlaces wsX5_within := goodIn_r _ [15] (by decide +kernel) (by decide +kernel)
set_option maxRecDepth 20000 in
theorem gX3_countPlaces_X5_within_n17 : GoodIn wsX3_countPlaces (wsX5_within) := ggX3_countPlaces_X5_within
set_option maxRecDepth 20000 in
theorem ggX3_countPlaces_X3_mean : GoodIn wsX3_countPlaces wsX3_mean := goodIn_r _ [19, 1, 20, 21, 22, 8, 23, 24, 25, 4, 26, 27, 32, 33] (by decide +kernel) (by decide +kernel)
set_option maxRecDepth 20000 in
theorem gX3_countPlaces_X3_mean : GoodIn wsX3_countPlaces (wsV RX3 70 RX3 yX3_mean wsX3_mean) := goodIn_app (goodIn_of _ (by decide +kernel)) ggX3_countPlaces_X3_mean
set_option maxRecDepth 20000 in
theorem ggX3_countPlaces_X3_runFrom : GoodIn wsX3_countPlaces wsX3_runFrom := goodIn_r _ [31, 1, 27, 11, 32, 33] (by decide +kernel) (by decide +kernel)
set_option maxRecDepth 20000 in
theorem gX3_countPlaces_X3_runFrom : GoodIn wsX3_countPlaces (wsV RX3 73 RX3 yX3_runFrom wsX3_runFrom) := goodIn_app (goodIn_of _ (by decide +kernel)) ggX3_countPlaces_X3_runFrom
theorem dX3_countPlaces_0 : decode cX3_countPlaces 0 = .ok (.iload_n 1, 1) := by decide +kernel
theorem dX3_countPlaces_1 : decode cX3_countPlaces 1 = .ok (.iload_n 2, 1) := by decide +kernel
theorem dX3_countPlaces_2 : decode cX3_countPlaces 2 = .ok (.iload_n 3, 1) := by decide +kernel
theorem dX3_countPlaces_3 : decode cX3_countPlaces 3 = .ok (.invokestatic 66, 3) := by decide +kernel
theorem dX3_countPlaces_6 : decode cX3_countPlaces 6 = .ok (.ifCond .eq 14, 3) := by decide +kernel
theorem dX3_countPlaces_9 : decode cX3_countPlaces 9 = .ok (.iload 4, 2) := by decide +kernel
theorem dX3_countPlaces_11 : decode cX3_countPlaces 11 = .ok (.i2l, 1) := by decide +kernel
theorem dX3_countPlaces_12 : decode cX3_countPlaces 12 = .ok (.lconst 0, 1) := by decide +kernel
theorem dX3_countPlaces_13 : decode cX3_countPlaces 13 = .ok (.lconst 1, 1) := by decide +kernel
theorem dX3_countPlaces_14 : decode cX3_countPlaces 14 = .ok (.invokestatic 17, 3) := by decide +kernel
theorem dX3_countPlaces_17 : decode cX3_countPlaces 17 = .ok (.ifCond .ne 6, 3) := by decide +kernel
theorem dX3_countPlaces_20 : decode cX3_countPlaces 20 = .ok (.bipush (-2), 2) := by decide +kernel
theorem dX3_countPlaces_22 : decode cX3_countPlaces 22 = .ok (.ireturn, 1) := by decide +kernel
theorem dX3_countPlaces_23 : decode cX3_countPlaces 23 = .ok (.iload 4, 2) := by decide +kernel
theorem dX3_countPlaces_25 : decode cX3_countPlaces 25 = .ok (.ifCond .ne 7, 3) := by decide +kernel
theorem dX3_countPlaces_28 : decode cX3_countPlaces 28 = .ok (.iconst 1, 1) := by decide +kernel
theorem dX3_countPlaces_29 : decode cX3_countPlaces 29 = .ok (.goto 4, 3) := by decide +kernel
theorem dX3_countPlaces_32 : decode cX3_countPlaces 32 = .ok (.iconst 0, 1) := by decide +kernel
theorem dX3_countPlaces_33 : decode cX3_countPlaces 33 = .ok (.istore 5, 2) := by decide +kernel
theorem dX3_countPlaces_35 : decode cX3_countPlaces 35 = .ok (.aload_n 0, 1) := by decide +kernel
theorem dX3_countPlaces_36 : decode cX3_countPlaces 36 = .ok (.invokevirtual 70, 3) := by decide +kernel
theorem dX3_countPlaces_39 : decode cX3_countPlaces 39 = .ok (.iload 5, 2) := by decide +kernel
theorem dX3_countPlaces_41 : decode cX3_countPlaces 41 = .ok (.ifCond .eq 10, 3) := by decide +kernel
theorem dX3_countPlaces_44 : decode cX3_countPlaces 44 = .ok (.bipush 100, 2) := by decide +kernel
theorem dX3_countPlaces_46 : decode cX3_countPlaces 46 = .ok (.iload_n 1, 1) := by decide +kernel
theorem dX3_countPlaces_47 : decode cX3_countPlaces 47 = .ok (.iadd, 1) := by decide +kernel
theorem dX3_countPlaces_48 : decode cX3_countPlaces 48 = .ok (.goto 7, 3) := by decide +kernel
theorem dX3_countPlaces_51 : decode cX3_countPlaces 51 = .ok (.bipush 100, 2) := by decide +kernel
theorem dX3_countPlaces_53 : decode cX3_countPlaces 53 = .ok (.iload_n 2, 1) := by decide +kernel
theorem dX3_countPlaces_54 : decode cX3_countPlaces 54 = .ok (.isub, 1) := by decide +kernel
theorem dX3_countPlaces_55 : decode cX3_countPlaces 55 = .ok (.i2l, 1) := by decide +kernel
theorem dX3_countPlaces_56 : decode cX3_countPlaces 56 = .ok (.lmul, 1) := by decide +kernel
theorem dX3_countPlaces_57 : decode cX3_countPlaces 57 = .ok (.lstore 6, 2) := by decide +kernel
theorem dX3_countPlaces_59 : decode cX3_countPlaces 59 = .ok (.iconst 0, 1) := by decide +kernel
theorem dX3_countPlaces_60 : decode cX3_countPlaces 60 = .ok (.istore 8, 2) := by decide +kernel
theorem dX3_countPlaces_62 : decode cX3_countPlaces 62 = .ok (.iconst 0, 1) := by decide +kernel
theorem dX3_countPlaces_63 : decode cX3_countPlaces 63 = .ok (.istore 10, 2) := by decide +kernel
theorem dX3_countPlaces_65 : decode cX3_countPlaces 65 = .ok (.iload 10, 2) := by decide +kernel
theorem dX3_countPlaces_67 : decode cX3_countPlaces 67 = .ok (.aload_n 0, 1) := by decide +kernel
theorem dX3_countPlaces_68 : decode cX3_countPlaces 68 = .ok (.getfield 21, 3) := by decide +kernel
theorem dX3_countPlaces_71 : decode cX3_countPlaces 71 = .ok (.if_icmp .ge 38, 3) := by decide +kernel
theorem dX3_countPlaces_74 : decode cX3_countPlaces 74 = .ok (.aload_n 0, 1) := by decide +kernel
theorem dX3_countPlaces_75 : decode cX3_countPlaces 75 = .ok (.iload 10, 2) := by decide +kernel
theorem dX3_countPlaces_77 : decode cX3_countPlaces 77 = .ok (.lload 6, 2) := by decide +kernel
theorem dX3_countPlaces_79 : decode cX3_countPlaces 79 = .ok (.iload 5, 2) := by decide +kernel
theorem dX3_countPlaces_81 : decode cX3_countPlaces 81 = .ok (.invokevirtual 73, 3) := by decide +kernel
theorem dX3_countPlaces_84 : decode cX3_countPlaces 84 = .ok (.istore 9, 2) := by decide +kernel
theorem dX3_countPlaces_86 : decode cX3_countPlaces 86 = .ok (.iload 9, 2) := by decide +kernel
theorem dX3_countPlaces_88 : decode cX3_countPlaces 88 = .ok (.iload_n 3, 1) := by decide +kernel
theorem dX3_countPlaces_89 : decode cX3_countPlaces 89 = .ok (.if_icmp .lt 6, 3) := by decide +kernel
theorem dX3_countPlaces_92 : decode cX3_countPlaces 92 = .ok (.iinc 8 1, 3) := by decide +kernel
theorem dX3_countPlaces_95 : decode cX3_countPlaces 95 = .ok (.iload 10, 2) := by decide +kernel
theorem dX3_countPlaces_97 : decode cX3_countPlaces 97 = .ok (.iload 9, 2) := by decide +kernel
theorem dX3_countPlaces_99 : decode cX3_countPlaces 99 = .ok (.iconst 1, 1) := by decide +kernel
theorem dX3_countPlaces_100 : decode cX3_countPlaces 100 = .ok (.invokestatic 77, 3) := by decide +kernel
theorem dX3_countPlaces_103 : decode cX3_countPlaces 103 = .ok (.iadd, 1) := by decide +kernel
theorem dX3_countPlaces_104 : decode cX3_countPlaces 104 = .ok (.istore 10, 2) := by decide +kernel
theorem dX3_countPlaces_106 : decode cX3_countPlaces 106 = .ok (.goto (-41), 3) := by decide +kernel
theorem dX3_countPlaces_109 : decode cX3_countPlaces 109 = .ok (.iload 8, 2) := by decide +kernel
theorem dX3_countPlaces_111 : decode cX3_countPlaces 111 = .ok (.ireturn, 1) := by decide +kernel
set_option maxRecDepth 20000 in
theorem ggX3_removePlaces_X3_isLaw : GoodIn wsX3_removePlaces wsX3_isLaw := goodIn_r _ [10, 11, 12, 13, 14, 15, 16] (by decide +kernel) (by decide +kernel)
set_option maxRecDepth 20000 in
theorem gX3_removePlaces_X3_isLaw : GoodIn wsX3_removePlaces (va_wsS RX3 66 yX3_isLaw wsX3_isLaw) := goodIn_app (goodIn_of _ (by decide +kernel)) ggX3_removePlaces_X3_isLaw
set_option maxRecDepth 20000 in
theorem ggX3_removePlaces_X3_mean : GoodIn wsX3_removePlaces wsX3_mean := goodIn_r _ [20, 1, 21, 22, 23, 9, 24, 25, 26, 5, 27, 2, 36, 37] (by decide +kernel) (by decide +kernel)
set_option maxRecDepth 20000 in
theorem gX3_removePlaces_X3_mean : GoodIn wsX3_removePlaces (wsV RX3 70 RX3 yX3_mean wsX3_mean) := goodIn_app (goodIn_of _ (by decide +kernel)) ggX3_removePlaces_X3_mean
set_option maxRecDepth 20000 in
theorem ggX3_removePlaces_X3_placeFrom : GoodIn wsX3_removePlaces wsX3_placeFrom := goodIn_r _ [31, 32, 33, 34, 9, 35, 1, 2, 12, 36, 37] (by decide +kernel) (by decide +kernel)
set_option maxRecDepth 20000 in
theorem gX3_removePlaces_X3_placeFrom : GoodIn wsX3_removePlaces (wsV RX3 82 RX3 yX3_placeFrom wsX3_placeFrom) := goodIn_app (goodIn_of _ (by decide +kernel)) ggX3_removePlaces_X3_placeFrom
theorem dX3_removePlaces_0 : decode cX3_removePlaces 0 = .ok (.iload_n 1, 1) := by decide +kernel
theorem dX3_removePlaces_1 : decode cX3_removePlaces 1 = .ok (.iload_n 2, 1) := by decide +kernel
theorem dX3_removePlaces_2 : decode cX3_removePlaces 2 = .ok (.iload_n 3, 1) := by decide +kernel
theorem dX3_removePlaces_3 : decode cX3_removePlaces 3 = .ok (.invokestatic 66, 3) := by decide +kernel
theorem dX3_removePlaces_6 : decode cX3_removePlaces 6 = .ok (.ifCond .ne 6, 3) := by decide +kernel
theorem dX3_removePlaces_9 : decode cX3_removePlaces 9 = .ok (.bipush (-2), 2) := by decide +kernel
theorem dX3_removePlaces_11 : decode cX3_removePlaces 11 = .ok (.ireturn, 1) := by decide +kernel
theorem dX3_removePlaces_12 : decode cX3_removePlaces 12 = .ok (.aload_n 0, 1) := by decide +kernel
theorem dX3_removePlaces_13 : decode cX3_removePlaces 13 = .ok (.invokevirtual 70, 3) := by decide +kernel
theorem dX3_removePlaces_16 : decode cX3_removePlaces 16 = .ok (.bipush 100, 2) := by decide +kernel
theorem dX3_removePlaces_18 : decode cX3_removePlaces 18 = .ok (.iload_n 1, 1) := by decide +kernel
theorem dX3_removePlaces_19 : decode cX3_removePlaces 19 = .ok (.iadd, 1) := by decide +kernel
theorem dX3_removePlaces_20 : decode cX3_removePlaces 20 = .ok (.i2l, 1) := by decide +kernel
theorem dX3_removePlaces_21 : decode cX3_removePlaces 21 = .ok (.lmul, 1) := by decide +kernel
theorem dX3_removePlaces_22 : decode cX3_removePlaces 22 = .ok (.lstore 4, 2) := by decide +kernel
theorem dX3_removePlaces_24 : decode cX3_removePlaces 24 = .ok (.aload_n 0, 1) := by decide +kernel
theorem dX3_removePlaces_25 : decode cX3_removePlaces 25 = .ok (.invokevirtual 70, 3) := by decide +kernel
theorem dX3_removePlaces_28 : decode cX3_removePlaces 28 = .ok (.bipush 100, 2) := by decide +kernel
theorem dX3_removePlaces_30 : decode cX3_removePlaces 30 = .ok (.iload_n 2, 1) := by decide +kernel
theorem dX3_removePlaces_31 : decode cX3_removePlaces 31 = .ok (.isub, 1) := by decide +kernel
theorem dX3_removePlaces_32 : decode cX3_removePlaces 32 = .ok (.i2l, 1) := by decide +kernel
theorem dX3_removePlaces_33 : decode cX3_removePlaces 33 = .ok (.lmul, 1) := by decide +kernel
theorem dX3_removePlaces_34 : decode cX3_removePlaces 34 = .ok (.lstore 6, 2) := by decide +kernel
theorem dX3_removePlaces_36 : decode cX3_removePlaces 36 = .ok (.iconst 0, 1) := by decide +kernel
theorem dX3_removePlaces_37 : decode cX3_removePlaces 37 = .ok (.istore 8, 2) := by decide +kernel
theorem dX3_removePlaces_39 : decode cX3_removePlaces 39 = .ok (.iconst 0, 1) := by decide +kernel
theorem dX3_removePlaces_40 : decode cX3_removePlaces 40 = .ok (.istore 9, 2) := by decide +kernel
theorem dX3_removePlaces_42 : decode cX3_removePlaces 42 = .ok (.iconst 0, 1) := by decide +kernel
theorem dX3_removePlaces_43 : decode cX3_removePlaces 43 = .ok (.istore 10, 2) := by decide +kernel
theorem dX3_removePlaces_45 : decode cX3_removePlaces 45 = .ok (.iconst 0, 1) := by decide +kernel
theorem dX3_removePlaces_46 : decode cX3_removePlaces 46 = .ok (.istore 12, 2) := by decide +kernel
theorem dX3_removePlaces_48 : decode cX3_removePlaces 48 = .ok (.iload 12, 2) := by decide +kernel
theorem dX3_removePlaces_50 : decode cX3_removePlaces 50 = .ok (.aload_n 0, 1) := by decide +kernel
theorem dX3_removePlaces_51 : decode cX3_removePlaces 51 = .ok (.getfield 21, 3) := by decide +kernel
theorem dX3_removePlaces_54 : decode cX3_removePlaces 54 = .ok (.if_icmp .ge 84, 3) := by decide +kernel
theorem dX3_removePlaces_57 : decode cX3_removePlaces 57 = .ok (.aload_n 0, 1) := by decide +kernel
theorem dX3_removePlaces_58 : decode cX3_removePlaces 58 = .ok (.iload 12, 2) := by decide +kernel
theorem dX3_removePlaces_60 : decode cX3_removePlaces 60 = .ok (.lload 4, 2) := by decide +kernel
theorem dX3_removePlaces_62 : decode cX3_removePlaces 62 = .ok (.lload 6, 2) := by decide +kernel
theorem dX3_removePlaces_64 : decode cX3_removePlaces 64 = .ok (.iload_n 3, 1) := by decide +kernel
theorem dX3_removePlaces_65 : decode cX3_removePlaces 65 = .ok (.invokevirtual 82, 3) := by decide +kernel
theorem dX3_removePlaces_68 : decode cX3_removePlaces 68 = .ok (.istore 11, 2) := by decide +kernel
theorem dX3_removePlaces_70 : decode cX3_removePlaces 70 = .ok (.iload 11, 2) := by decide +kernel
theorem dX3_removePlaces_72 : decode cX3_removePlaces 72 = .ok (.ifCond .ne 40, 3) := by decide +kernel
theorem dX3_removePlaces_75 : decode cX3_removePlaces 75 = .ok (.iload 9, 2) := by decide +kernel
theorem dX3_removePlaces_77 : decode cX3_removePlaces 77 = .ok (.iload 10, 2) := by decide +kernel
theorem dX3_removePlaces_79 : decode cX3_removePlaces 79 = .ok (.ifCond .eq 12, 3) := by decide +kernel
theorem dX3_removePlaces_82 : decode cX3_removePlaces 82 = .ok (.iload 8, 2) := by decide +kernel
theorem dX3_removePlaces_84 : decode cX3_removePlaces 84 = .ok (.ifCond .le 7, 3) := by decide +kernel
theorem dX3_removePlaces_87 : decode cX3_removePlaces 87 = .ok (.iconst 1, 1) := by decide +kernel
theorem dX3_removePlaces_88 : decode cX3_removePlaces 88 = .ok (.goto 4, 3) := by decide +kernel
theorem dX3_removePlaces_91 : decode cX3_removePlaces 91 = .ok (.iconst 0, 1) := by decide +kernel
theorem dX3_removePlaces_92 : decode cX3_removePlaces 92 = .ok (.iadd, 1) := by decide +kernel
theorem dX3_removePlaces_93 : decode cX3_removePlaces 93 = .ok (.istore 9, 2) := by decide +kernel
theorem dX3_removePlaces_95 : decode cX3_removePlaces 95 = .ok (.aload_n 0, 1) := by decide +kernel
theorem dX3_removePlaces_96 : decode cX3_removePlaces 96 = .ok (.getfield 11, 3) := by decide +kernel
theorem dX3_removePlaces_99 : decode cX3_removePlaces 99 = .ok (.iload 8, 2) := by decide +kernel
theorem dX3_removePlaces_101 : decode cX3_removePlaces 101 = .ok (.aload_n 0, 1) := by decide +kernel
theorem dX3_removePlaces_102 : decode cX3_removePlaces 102 = .ok (.getfield 11, 3) := by decide +kernel
theorem dX3_removePlaces_105 : decode cX3_removePlaces 105 = .ok (.iload 12, 2) := by decide +kernel
theorem dX3_removePlaces_107 : decode cX3_removePlaces 107 = .ok (.iaload, 1) := by decide +kernel
theorem dX3_removePlaces_108 : decode cX3_removePlaces 108 = .ok (.iastore, 1) := by decide +kernel
theorem dX3_removePlaces_109 : decode cX3_removePlaces 109 = .ok (.iinc 8 1, 3) := by decide +kernel
theorem dX3_removePlaces_112 : decode cX3_removePlaces 112 = .ok (.iload 11, 2) := by decide +kernel
theorem dX3_removePlaces_114 : decode cX3_removePlaces 114 = .ok (.ifCond .le 7, 3) := by decide +kernel
theorem dX3_removePlaces_117 : decode cX3_removePlaces 117 = .ok (.iconst 1, 1) := by decide +kernel
theorem dX3_removePlaces_118 : decode cX3_removePlaces 118 = .ok (.goto 4, 3) := by decide +kernel
theorem dX3_removePlaces_121 : decode cX3_removePlaces 121 = .ok (.iconst 0, 1) := by decide +kernel
theorem dX3_removePlaces_122 : decode cX3_removePlaces 122 = .ok (.istore 10, 2) := by decide +kernel
theorem dX3_removePlaces_124 : decode cX3_removePlaces 124 = .ok (.iload 12, 2) := by decide +kernel
theorem dX3_removePlaces_126 : decode cX3_removePlaces 126 = .ok (.iload 11, 2) := by decide +kernel
theorem dX3_removePlaces_128 : decode cX3_removePlaces 128 = .ok (.iconst 1, 1) := by decide +kernel
theorem dX3_removePlaces_129 : decode cX3_removePlaces 129 = .ok (.invokestatic 77, 3) := by decide +kernel
theorem dX3_removePlaces_132 : decode cX3_removePlaces 132 = .ok (.iadd, 1) := by decide +kernel
theorem dX3_removePlaces_133 : decode cX3_removePlaces 133 = .ok (.istore 12, 2) := by decide +kernel
theorem dX3_removePlaces_135 : decode cX3_removePlaces 135 = .ok (.goto (-87), 3) := by decide +kernel
theorem dX3_removePlaces_138 : decode cX3_removePlaces 138 = .ok (.aload_n 0, 1) := by decide +kernel
theorem dX3_removePlaces_139 : decode cX3_removePlaces 139 = .ok (.iload 8, 2) := by decide +kernel
theorem dX3_removePlaces_141 : decode cX3_removePlaces 141 = .ok (.putfield 21, 3) := by decide +kernel
theorem dX3_removePlaces_144 : decode cX3_removePlaces 144 = .ok (.iload 9, 2) := by decide +kernel
theorem dX3_removePlaces_146 : decode cX3_removePlaces 146 = .ok (.ireturn, 1) := by decide +kernel
theorem dX3_mixInto_0 : decode cX3_mixInto 0 = .ok (.lload_n 1, 1) := by decide +kernel
theorem dX3_mixInto_1 : decode cX3_mixInto 1 = .ok (.lstore_n 3, 1) := by decide +kernel
theorem dX3_mixInto_2 : decode cX3_mixInto 2 = .ok (.iconst 0, 1) := by decide +kernel
theorem dX3_mixInto_3 : decode cX3_mixInto 3 = .ok (.istore 5, 2) := by decide +kernel
theorem dX3_mixInto_5 : decode cX3_mixInto 5 = .ok (.iload 5, 2) := by decide +kernel
theorem dX3_mixInto_7 : decode cX3_mixInto 7 = .ok (.aload_n 0, 1) := by decide +kernel
theorem dX3_mixInto_8 : decode cX3_mixInto 8 = .ok (.getfield 21, 3) := by decide +kernel
theorem dX3_mixInto_11 : decode cX3_mixInto 11 = .ok (.if_icmp .ge 24, 3) := by decide +kernel
theorem dX3_mixInto_14 : decode cX3_mixInto 14 = .ok (.ldc2_w 86, 3) := by decide +kernel
theorem dX3_mixInto_17 : decode cX3_mixInto 17 = .ok (.lload_n 3, 1) := by decide +kernel
theorem dX3_mixInto_18 : decode cX3_mixInto 18 = .ok (.lmul, 1) := by decide +kernel
theorem dX3_mixInto_19 : decode cX3_mixInto 19 = .ok (.aload_n 0, 1) := by decide +kernel
theorem dX3_mixInto_20 : decode cX3_mixInto 20 = .ok (.getfield 11, 3) := by decide +kernel
theorem dX3_mixInto_23 : decode cX3_mixInto 23 = .ok (.iload 5, 2) := by decide +kernel
theorem dX3_mixInto_25 : decode cX3_mixInto 25 = .ok (.iaload, 1) := by decide +kernel
theorem dX3_mixInto_26 : decode cX3_mixInto 26 = .ok (.i2l, 1) := by decide +kernel
theorem dX3_mixInto_27 : decode cX3_mixInto 27 = .ok (.ladd, 1) := by decide +kernel
theorem dX3_mixInto_28 : decode cX3_mixInto 28 = .ok (.lstore_n 3, 1) := by decide +kernel
theorem dX3_mixInto_29 : decode cX3_mixInto 29 = .ok (.iinc 5 1, 3) := by decide +kernel
theorem dX3_mixInto_32 : decode cX3_mixInto 32 = .ok (.goto (-27), 3) := by decide +kernel
theorem dX3_mixInto_35 : decode cX3_mixInto 35 = .ok (.lload_n 3, 1) := by decide +kernel
theorem dX3_mixInto_36 : decode cX3_mixInto 36 = .ok (.lreturn, 1) := by decide +kernel
theorem dX3_sumOf_0 : decode cX3_sumOf 0 = .ok (.iload_n 1, 1) := by decide +kernel
theorem dX3_sumOf_1 : decode cX3_sumOf 1 = .ok (.iload_n 2, 1) := by decide +kernel
theorem dX3_sumOf_2 : decode cX3_sumOf 2 = .ok (.iadd, 1) := by decide +kernel
theorem dX3_sumOf_3 : decode cX3_sumOf 3 = .ok (.aload_n 0, 1) := by decide +kernel
theorem dX3_sumOf_4 : decode cX3_sumOf 4 = .ok (.getfield 21, 3) := by decide +kernel
theorem dX3_sumOf_7 : decode cX3_sumOf 7 = .ok (.invokestatic 88, 3) := by decide +kernel
theorem dX3_sumOf_10 : decode cX3_sumOf 10 = .ok (.istore_n 3, 1) := by decide +kernel
theorem dX3_sumOf_11 : decode cX3_sumOf 11 = .ok (.iconst 0, 1) := by decide +kernel
theorem dX3_sumOf_12 : decode cX3_sumOf 12 = .ok (.istore 4, 2) := by decide +kernel
theorem dX3_sumOf_14 : decode cX3_sumOf 14 = .ok (.iload_n 1, 1) := by decide +kernel
theorem dX3_sumOf_15 : decode cX3_sumOf 15 = .ok (.istore 5, 2) := by decide +kernel
theorem dX3_sumOf_17 : decode cX3_sumOf 17 = .ok (.iload 5, 2) := by decide +kernel
theorem dX3_sumOf_19 : decode cX3_sumOf 19 = .ok (.iload_n 3, 1) := by decide +kernel
theorem dX3_sumOf_20 : decode cX3_sumOf 20 = .ok (.if_icmp .ge 21, 3) := by decide +kernel
theorem dX3_sumOf_23 : decode cX3_sumOf 23 = .ok (.iload 4, 2) := by decide +kernel
theorem dX3_sumOf_25 : decode cX3_sumOf 25 = .ok (.aload_n 0, 1) := by decide +kernel
theorem dX3_sumOf_26 : decode cX3_sumOf 26 = .ok (.getfield 11, 3) := by decide +kernel
theorem dX3_sumOf_29 : decode cX3_sumOf 29 = .ok (.iload 5, 2) := by decide +kernel
theorem dX3_sumOf_31 : decode cX3_sumOf 31 = .ok (.iaload, 1) := by decide +kernel
theorem dX3_sumOf_32 : decode cX3_sumOf 32 = .ok (.iadd, 1) := by decide +kernel
theorem dX3_sumOf_33 : decode cX3_sumOf 33 = .ok (.istore 4, 2) := by decide +kernel
theorem dX3_sumOf_35 : decode cX3_sumOf 35 = .ok (.iinc 5 1, 3) := by decide +kernel
theorem dX3_sumOf_38 : decode cX3_sumOf 38 = .ok (.goto (-21), 3) := by decide +kernel
theorem dX3_sumOf_41 : decode cX3_sumOf 41 = .ok (.iload 4, 2) := by decide +kernel
theorem dX3_sumOf_43 : decode cX3_sumOf 43 = .ok (.ireturn, 1) := by decide +kernel
theorem dX3_given_0 : decode cX3_given 0 = .ok (.aload_n 0, 1) := by decide +kernel
theorem dX3_given_1 : decode cX3_given 1 = .ok (.getfield 11, 3) := by decide +kernel
theorem dX3_given_4 : decode cX3_given 4 = .ok (.iload_n 1, 1) := by decide +kernel
theorem dX3_given_5 : decode cX3_given 5 = .ok (.iaload, 1) := by decide +kernel
theorem dX3_given_6 : decode cX3_given 6 = .ok (.i2l, 1) := by decide +kernel
theorem dX3_given_7 : decode cX3_given 7 = .ok (.iload_n 2, 1) := by decide +kernel
theorem dX3_given_8 : decode cX3_given 8 = .ok (.i2l, 1) := by decide +kernel
theorem dX3_given_9 : decode cX3_given 9 = .ok (.lmul, 1) := by decide +kernel
theorem dX3_given_10 : decode cX3_given 10 = .ok (.ldc2_w 45, 3) := by decide +kernel
theorem dX3_given_13 : decode cX3_given 13 = .ok (.ldiv, 1) := by decide +kernel
theorem dX3_given_14 : decode cX3_given 14 = .ok (.l2i, 1) := by decide +kernel
theorem dX3_given_15 : decode cX3_given 15 = .ok (.ireturn, 1) := by decide +kernel
set_option maxRecDepth 20000 in
theorem ggX3_unevenness_X3_sumOf : GoodIn wsX3_unevenness wsX3_sumOf := goodIn_r _ [7, 1, 8, 9, 10, 11, 2, 12, 13] (by decide +kernel) (by decide +kernel)
set_option maxRecDepth 20000 in
theorem gX3_unevenness_X3_sumOf : GoodIn wsX3_unevenness (wsV RX3 39 RX3 yX3_sumOf wsX3_sumOf) := goodIn_app (goodIn_of _ (by decide +kernel)) ggX3_unevenness_X3_sumOf
theorem dX3_unevenness_0 : decode cX3_unevenness 0 = .ok (.lconst 0, 1) := by decide +kernel
theorem dX3_unevenness_1 : decode cX3_unevenness 1 = .ok (.lstore_n 1, 1) := by decide +kernel
theorem dX3_unevenness_2 : decode cX3_unevenness 2 = .ok (.iconst 0, 1) := by decide +kernel
theorem dX3_unevenness_3 : decode cX3_unevenness 3 = .ok (.istore_n 3, 1) := by decide +kernel
theorem dX3_unevenness_4 : decode cX3_unevenness 4 = .ok (.iload_n 3, 1) := by decide +kernel
theorem dX3_unevenness_5 : decode cX3_unevenness 5 = .ok (.aload_n 0, 1) := by decide +kernel
theorem dX3_unevenness_6 : decode cX3_unevenness 6 = .ok (.getfield 21, 3) := by decide +kernel
theorem dX3_unevenness_9 : decode cX3_unevenness 9 = .ok (.if_icmp .ge 27, 3) := by decide +kernel
theorem dX3_unevenness_12 : decode cX3_unevenness 12 = .ok (.lload_n 1, 1) := by decide +kernel
theorem dX3_unevenness_13 : decode cX3_unevenness 13 = .ok (.aload_n 0, 1) := by decide +kernel
theorem dX3_unevenness_14 : decode cX3_unevenness 14 = .ok (.getfield 11, 3) := by decide +kernel
theorem dX3_unevenness_17 : decode cX3_unevenness 17 = .ok (.iload_n 3, 1) := by decide +kernel
theorem dX3_unevenness_18 : decode cX3_unevenness 18 = .ok (.iaload, 1) := by decide +kernel
theorem dX3_unevenness_19 : decode cX3_unevenness 19 = .ok (.i2l, 1) := by decide +kernel
theorem dX3_unevenness_20 : decode cX3_unevenness 20 = .ok (.aload_n 0, 1) := by decide +kernel
theorem dX3_unevenness_21 : decode cX3_unevenness 21 = .ok (.getfield 11, 3) := by decide +kernel
theorem dX3_unevenness_24 : decode cX3_unevenness 24 = .ok (.iload_n 3, 1) := by decide +kernel
theorem dX3_unevenness_25 : decode cX3_unevenness 25 = .ok (.iaload, 1) := by decide +kernel
theorem dX3_unevenness_26 : decode cX3_unevenness 26 = .ok (.i2l, 1) := by decide +kernel
theorem dX3_unevenness_27 : decode cX3_unevenness 27 = .ok (.lmul, 1) := by decide +kernel
theorem dX3_unevenness_28 : decode cX3_unevenness 28 = .ok (.ladd, 1) := by decide +kernel
theorem dX3_unevenness_29 : decode cX3_unevenness 29 = .ok (.lstore_n 1, 1) := by decide +kernel
theorem dX3_unevenness_30 : decode cX3_unevenness 30 = .ok (.iinc 3 1, 3) := by decide +kernel
theorem dX3_unevenness_33 : decode cX3_unevenness 33 = .ok (.goto (-29), 3) := by decide +kernel
theorem dX3_unevenness_36 : decode cX3_unevenness 36 = .ok (.aload_n 0, 1) := by decide +kernel
theorem dX3_unevenness_37 : decode cX3_unevenness 37 = .ok (.iconst 0, 1) := by decide +kernel
theorem dX3_unevenness_38 : decode cX3_unevenness 38 = .ok (.aload_n 0, 1) := by decide +kernel
theorem dX3_unevenness_39 : decode cX3_unevenness 39 = .ok (.getfield 21, 3) := by decide +kernel
theorem dX3_unevenness_42 : decode cX3_unevenness 42 = .ok (.invokevirtual 39, 3) := by decide +kernel
theorem dX3_unevenness_45 : decode cX3_unevenness 45 = .ok (.i2l, 1) := by decide +kernel
theorem dX3_unevenness_46 : decode cX3_unevenness 46 = .ok (.lstore_n 3, 1) := by decide +kernel
theorem dX3_unevenness_47 : decode cX3_unevenness 47 = .ok (.aload_n 0, 1) := by decide +kernel
theorem dX3_unevenness_48 : decode cX3_unevenness 48 = .ok (.getfield 21, 3) := by decide +kernel
theorem dX3_unevenness_51 : decode cX3_unevenness 51 = .ok (.i2l, 1) := by decide +kernel
theorem dX3_unevenness_52 : decode cX3_unevenness 52 = .ok (.lload_n 1, 1) := by decide +kernel
theorem dX3_unevenness_53 : decode cX3_unevenness 53 = .ok (.lmul, 1) := by decide +kernel
theorem dX3_unevenness_54 : decode cX3_unevenness 54 = .ok (.lload_n 3, 1) := by decide +kernel
theorem dX3_unevenness_55 : decode cX3_unevenness 55 = .ok (.lload_n 3, 1) := by decide +kernel
theorem dX3_unevenness_56 : decode cX3_unevenness 56 = .ok (.lmul, 1) := by decide +kernel
theorem dX3_unevenness_57 : decode cX3_unevenness 57 = .ok (.lsub, 1) := by decide +kernel
theorem dX3_unevenness_58 : decode cX3_unevenness 58 = .ok (.lreturn, 1) := by decide +kernel
theorem dX3_isGreater_0 : decode cX3_isGreater 0 = .ok (.lload_n 2, 1) := by decide +kernel
theorem dX3_isGreater_1 : decode cX3_isGreater 1 = .ok (.lconst 0, 1) := by decide +kernel
theorem dX3_isGreater_2 : decode cX3_isGreater 2 = .ok (.lcmp, 1) := by decide +kernel
theorem dX3_isGreater_3 : decode cX3_isGreater 3 = .ok (.ifCond .le 10, 3) := by decide +kernel
theorem dX3_isGreater_6 : decode cX3_isGreater 6 = .ok (.lload 6, 2) := by decide +kernel
theorem dX3_isGreater_8 : decode cX3_isGreater 8 = .ok (.lconst 0, 1) := by decide +kernel
theorem dX3_isGreater_9 : decode cX3_isGreater 9 = .ok (.lcmp, 1) := by decide +kernel
theorem dX3_isGreater_10 : decode cX3_isGreater 10 = .ok (.ifCond .gt 5, 3) := by decide +kernel
theorem dX3_isGreater_13 : decode cX3_isGreater 13 = .ok (.iconst 0, 1) := by decide +kernel
theorem dX3_isGreater_14 : decode cX3_isGreater 14 = .ok (.ireturn, 1) := by decide +kernel
theorem dX3_isGreater_15 : decode cX3_isGreater 15 = .ok (.lload_n 0, 1) := by decide +kernel
theorem dX3_isGreater_16 : decode cX3_isGreater 16 = .ok (.lload_n 2, 1) := by decide +kernel
theorem dX3_isGreater_17 : decode cX3_isGreater 17 = .ok (.ldiv, 1) := by decide +kernel
theorem dX3_isGreater_18 : decode cX3_isGreater 18 = .ok (.lload 4, 2) := by decide +kernel
theorem dX3_isGreater_20 : decode cX3_isGreater 20 = .ok (.lload 6, 2) := by decide +kernel
theorem dX3_isGreater_22 : decode cX3_isGreater 22 = .ok (.ldiv, 1) := by decide +kernel
theorem dX3_isGreater_23 : decode cX3_isGreater 23 = .ok (.lcmp, 1) := by decide +kernel
theorem dX3_isGreater_24 : decode cX3_isGreater 24 = .ok (.ifCond .eq 21, 3) := by decide +kernel
theorem dX3_isGreater_27 : decode cX3_isGreater 27 = .ok (.lload_n 0, 1) := by decide +kernel
theorem dX3_isGreater_28 : decode cX3_isGreater 28 = .ok (.lload_n 2, 1) := by decide +kernel
theorem dX3_isGreater_29 : decode cX3_isGreater 29 = .ok (.ldiv, 1) := by decide +kernel
theorem dX3_isGreater_30 : decode cX3_isGreater 30 = .ok (.lload 4, 2) := by decide +kernel
theorem dX3_isGreater_32 : decode cX3_isGreater 32 = .ok (.lload 6, 2) := by decide +kernel
theorem dX3_isGreater_34 : decode cX3_isGreater 34 = .ok (.ldiv, 1) := by decide +kernel
theorem dX3_isGreater_35 : decode cX3_isGreater 35 = .ok (.lcmp, 1) := by decide +kernel
theorem dX3_isGreater_36 : decode cX3_isGreater 36 = .ok (.ifCond .le 7, 3) := by decide +kernel
theorem dX3_isGreater_39 : decode cX3_isGreater 39 = .ok (.iconst 1, 1) := by decide +kernel
theorem dX3_isGreater_40 : decode cX3_isGreater 40 = .ok (.goto 4, 3) := by decide +kernel
theorem dX3_isGreater_43 : decode cX3_isGreater 43 = .ok (.iconst 0, 1) := by decide +kernel
theorem dX3_isGreater_44 : decode cX3_isGreater 44 = .ok (.ireturn, 1) := by decide +kernel
theorem dX3_isGreater_45 : decode cX3_isGreater 45 = .ok (.lload_n 0, 1) := by decide +kernel
theorem dX3_isGreater_46 : decode cX3_isGreater 46 = .ok (.lload_n 2, 1) := by decide +kernel
theorem dX3_isGreater_47 : decode cX3_isGreater 47 = .ok (.lrem, 1) := by decide +kernel
theorem dX3_isGreater_48 : decode cX3_isGreater 48 = .ok (.lload 6, 2) := by decide +kernel
theorem dX3_isGreater_50 : decode cX3_isGreater 50 = .ok (.lmul, 1) := by decide +kernel
theorem dX3_isGreater_51 : decode cX3_isGreater 51 = .ok (.lload 4, 2) := by decide +kernel
theorem dX3_isGreater_53 : decode cX3_isGreater 53 = .ok (.lload 6, 2) := by decide +kernel
theorem dX3_isGreater_55 : decode cX3_isGreater 55 = .ok (.lrem, 1) := by decide +kernel
theorem dX3_isGreater_56 : decode cX3_isGreater 56 = .ok (.lload_n 2, 1) := by decide +kernel
theorem dX3_isGreater_57 : decode cX3_isGreater 57 = .ok (.lmul, 1) := by decide +kernel
theorem dX3_isGreater_58 : decode cX3_isGreater 58 = .ok (.lcmp, 1) := by decide +kernel
theorem dX3_isGreater_59 : decode cX3_isGreater 59 = .ok (.ifCond .le 7, 3) := by decide +kernel
theorem dX3_isGreater_62 : decode cX3_isGreater 62 = .ok (.iconst 1, 1) := by decide +kernel
theorem dX3_isGreater_63 : decode cX3_isGreater 63 = .ok (.goto 4, 3) := by decide +kernel
theorem dX3_isGreater_66 : decode cX3_isGreater 66 = .ok (.iconst 0, 1) := by decide +kernel
theorem dX3_isGreater_67 : decode cX3_isGreater 67 = .ok (.ireturn, 1) := by decide +kernel
set_option maxRecDepth 20000 in
theorem ggX3_isLaw_X5_within : GoodIn wsX3_isLaw wsX5_within := goodIn_r _ [6] (by decide +kernel) (by decide +kernel)
set_option maxRecDepth 20000 in
theorem gX3_isLaw_X5_within_n17 : GoodIn wsX3_isLaw (wsX5_within) := ggX3_isLaw_X5_within
theorem dX3_isLaw_0 : decode cX3_isLaw 0 = .ok (.iload_n 0, 1) := by decide +kernel
theorem dX3_isLaw_1 : decode cX3_isLaw 1 = .ok (.i2l, 1) := by decide +kernel
theorem dX3_isLaw_2 : decode cX3_isLaw 2 = .ok (.lconst 1, 1) := by decide +kernel
theorem dX3_isLaw_3 : decode cX3_isLaw 3 = .ok (.ldc2_w 45, 3) := by decide +kernel
theorem dX3_isLaw_6 : decode cX3_isLaw 6 = .ok (.invokestatic 17, 3) := by decide +kernel
theorem dX3_isLaw_9 : decode cX3_isLaw 9 = .ok (.ifCond .eq 31, 3) := by decide +kernel
theorem dX3_isLaw_12 : decode cX3_isLaw 12 = .ok (.iload_n 1, 1) := by decide +kernel
theorem dX3_isLaw_13 : decode cX3_isLaw 13 = .ok (.i2l, 1) := by decide +kernel
theorem dX3_isLaw_14 : decode cX3_isLaw 14 = .ok (.lconst 0, 1) := by decide +kernel
theorem dX3_isLaw_15 : decode cX3_isLaw 15 = .ok (.ldc2_w 25, 3) := by decide +kernel
theorem dX3_isLaw_18 : decode cX3_isLaw 18 = .ok (.invokestatic 17, 3) := by decide +kernel
theorem dX3_isLaw_21 : decode cX3_isLaw 21 = .ok (.ifCond .eq 19, 3) := by decide +kernel
theorem dX3_isLaw_24 : decode cX3_isLaw 24 = .ok (.iload_n 2, 1) := by decide +kernel
theorem dX3_isLaw_25 : decode cX3_isLaw 25 = .ok (.i2l, 1) := by decide +kernel
theorem dX3_isLaw_26 : decode cX3_isLaw 26 = .ok (.lconst 1, 1) := by decide +kernel
theorem dX3_isLaw_27 : decode cX3_isLaw 27 = .ok (.ldc2_w 91, 3) := by decide +kernel
theorem dX3_isLaw_30 : decode cX3_isLaw 30 = .ok (.invokestatic 17, 3) := by decide +kernel
theorem dX3_isLaw_33 : decode cX3_isLaw 33 = .ok (.ifCond .eq 7, 3) := by decide +kernel
theorem dX3_isLaw_36 : decode cX3_isLaw 36 = .ok (.iconst 1, 1) := by decide +kernel
theorem dX3_isLaw_37 : decode cX3_isLaw 37 = .ok (.goto 4, 3) := by decide +kernel
theorem dX3_isLaw_40 : decode cX3_isLaw 40 = .ok (.iconst 0, 1) := by decide +kernel
theorem dX3_isLaw_41 : decode cX3_isLaw 41 = .ok (.ireturn, 1) := by decide +kernel
set_option maxRecDepth 20000 in
theorem ggX3_mean_X3_sumOf : GoodIn wsX3_mean wsX3_sumOf := goodIn_r _ [6, 1, 7, 8, 9, 10, 11, 12, 13] (by decide +kernel) (by decide +kernel)
set_option maxRecDepth 20000 in
theorem gX3_mean_X3_sumOf : GoodIn wsX3_mean (wsV RX3 39 RX3 yX3_sumOf wsX3_sumOf) := goodIn_app (goodIn_of _ (by decide +kernel)) ggX3_mean_X3_sumOf
theorem dX3_mean_0 : decode cX3_mean 0 = .ok (.aload_n 0, 1) := by decide +kernel
theorem dX3_mean_1 : decode cX3_mean 1 = .ok (.getfield 21, 3) := by decide +kernel
theorem dX3_mean_4 : decode cX3_mean 4 = .ok (.ifCond .le 21, 3) := by decide +kernel
theorem dX3_mean_7 : decode cX3_mean 7 = .ok (.aload_n 0, 1) := by decide +kernel
theorem dX3_mean_8 : decode cX3_mean 8 = .ok (.iconst 0, 1) := by decide +kernel
theorem dX3_mean_9 : decode cX3_mean 9 = .ok (.aload_n 0, 1) := by decide +kernel
theorem dX3_mean_10 : decode cX3_mean 10 = .ok (.getfield 21, 3) := by decide +kernel
theorem dX3_mean_13 : decode cX3_mean 13 = .ok (.invokevirtual 39, 3) := by decide +kernel
theorem dX3_mean_16 : decode cX3_mean 16 = .ok (.aload_n 0, 1) := by decide +kernel
theorem dX3_mean_17 : decode cX3_mean 17 = .ok (.getfield 21, 3) := by decide +kernel
theorem dX3_mean_20 : decode cX3_mean 20 = .ok (.idiv, 1) := by decide +kernel
theorem dX3_mean_21 : decode cX3_mean 21 = .ok (.i2l, 1) := by decide +kernel
theorem dX3_mean_22 : decode cX3_mean 22 = .ok (.goto 4, 3) := by decide +kernel
theorem dX3_mean_25 : decode cX3_mean 25 = .ok (.lconst 0, 1) := by decide +kernel
theorem dX3_mean_26 : decode cX3_mean 26 = .ok (.lreturn, 1) := by decide +kernel
set_option maxRecDepth 20000 in
theorem ggX3_placeFrom_X3_runFrom : GoodIn wsX3_placeFrom wsX3_runFrom := goodIn_r _ [5, 6, 7, 8, 9, 10] (by decide +kernel) (by decide +kernel)
set_option maxRecDepth 20000 in
theorem gX3_placeFrom_X3_runFrom : GoodIn wsX3_placeFrom (wsV RX3 73 RX3 yX3_runFrom wsX3_runFrom) := goodIn_app (goodIn_of _ (by decide +kernel)) ggX3_placeFrom_X3_runFrom
theorem dX3_placeFrom_0 : decode cX3_placeFrom 0 = .ok (.aload_n 0, 1) := by decide +kernel
theorem dX3_placeFrom_1 : decode cX3_placeFrom 1 = .ok (.iload_n 1, 1) := by decide +kernel
theorem dX3_placeFrom_2 : decode cX3_placeFrom 2 = .ok (.lload_n 2, 1) := by decide +kernel
theorem dX3_placeFrom_3 : decode cX3_placeFrom 3 = .ok (.iconst 1, 1) := by decide +kernel
theorem dX3_placeFrom_4 : decode cX3_placeFrom 4 = .ok (.invokevirtual 73, 3) := by decide +kernel
theorem dX3_placeFrom_7 : decode cX3_placeFrom 7 = .ok (.istore 7, 2) := by decide +kernel
theorem dX3_placeFrom_9 : decode cX3_placeFrom 9 = .ok (.iload 7, 2) := by decide +kernel
theorem dX3_placeFrom_11 : decode cX3_placeFrom 11 = .ok (.iload 6, 2) := by decide +kernel
theorem dX3_placeFrom_13 : decode cX3_placeFrom 13 = .ok (.if_icmp .lt 6, 3) := by decide +kernel
theorem dX3_placeFrom_16 : decode cX3_placeFrom 16 = .ok (.iload 7, 2) := by decide +kernel
theorem dX3_placeFrom_18 : decode cX3_placeFrom 18 = .ok (.ireturn, 1) := by decide +kernel
theorem dX3_placeFrom_19 : decode cX3_placeFrom 19 = .ok (.aload_n 0, 1) := by decide +kernel
theorem dX3_placeFrom_20 : decode cX3_placeFrom 20 = .ok (.iload_n 1, 1) := by decide +kernel
theorem dX3_placeFrom_21 : decode cX3_placeFrom 21 = .ok (.lload 4, 2) := by decide +kernel
theorem dX3_placeFrom_23 : decode cX3_placeFrom 23 = .ok (.iconst 0, 1) := by decide +kernel
theorem dX3_placeFrom_24 : decode cX3_placeFrom 24 = .ok (.invokevirtual 73, 3) := by decide +kernel
theorem dX3_placeFrom_27 : decode cX3_placeFrom 27 = .ok (.istore 8, 2) := by decide +kernel
theorem dX3_placeFrom_29 : decode cX3_placeFrom 29 = .ok (.iload 8, 2) := by decide +kernel
theorem dX3_placeFrom_31 : decode cX3_placeFrom 31 = .ok (.iload 6, 2) := by decide +kernel
theorem dX3_placeFrom_33 : decode cX3_placeFrom 33 = .ok (.if_icmp .lt 8, 3) := by decide +kernel
theorem dX3_placeFrom_36 : decode cX3_placeFrom 36 = .ok (.iload 8, 2) := by decide +kernel
theorem dX3_placeFrom_38 : decode cX3_placeFrom 38 = .ok (.goto 4, 3) := by decide +kernel
theorem dX3_placeFrom_41 : decode cX3_placeFrom 41 = .ok (.iconst 0, 1) := by decide +kernel
theorem dX3_placeFrom_42 : decode cX3_placeFrom 42 = .ok (.ireturn, 1) := by decide +kernel
theorem dX3_runFrom_0 : decode cX3_runFrom 0 = .ok (.iload_n 1, 1) := by decide +kernel
theorem dX3_runFrom_1 : decode cX3_runFrom 1 = .ok (.istore 5, 2) := by decide +kernel
theorem dX3_runFrom_3 : decode cX3_runFrom 3 = .ok (.iload 5, 2) := by decide +kernel
theorem dX3_runFrom_5 : decode cX3_runFrom 5 = .ok (.aload_n 0, 1) := by decide +kernel
theorem dX3_runFrom_6 : decode cX3_runFrom 6 = .ok (.getfield 21, 3) := by decide +kernel
theorem dX3_runFrom_9 : decode cX3_runFrom 9 = .ok (.if_icmp .ge 51, 3) := by decide +kernel
theorem dX3_runFrom_12 : decode cX3_runFrom 12 = .ok (.iload 4, 2) := by decide +kernel
theorem dX3_runFrom_14 : decode cX3_runFrom 14 = .ok (.ifCond .eq 23, 3) := by decide +kernel
theorem dX3_runFrom_17 : decode cX3_runFrom 17 = .ok (.aload_n 0, 1) := by decide +kernel
theorem dX3_runFrom_18 : decode cX3_runFrom 18 = .ok (.getfield 11, 3) := by decide +kernel
theorem dX3_runFrom_21 : decode cX3_runFrom 21 = .ok (.iload 5, 2) := by decide +kernel
theorem dX3_runFrom_23 : decode cX3_runFrom 23 = .ok (.iaload, 1) := by decide +kernel
theorem dX3_runFrom_24 : decode cX3_runFrom 24 = .ok (.i2l, 1) := by decide +kernel
theorem dX3_runFrom_25 : decode cX3_runFrom 25 = .ok (.ldc2_w 25, 3) := by decide +kernel
theorem dX3_runFrom_28 : decode cX3_runFrom 28 = .ok (.lmul, 1) := by decide +kernel
theorem dX3_runFrom_29 : decode cX3_runFrom 29 = .ok (.lload_n 2, 1) := by decide +kernel
theorem dX3_runFrom_30 : decode cX3_runFrom 30 = .ok (.lcmp, 1) := by decide +kernel
theorem dX3_runFrom_31 : decode cX3_runFrom 31 = .ok (.ifCond .lt 29, 3) := by decide +kernel
theorem dX3_runFrom_34 : decode cX3_runFrom 34 = .ok (.goto 20, 3) := by decide +kernel
theorem dX3_runFrom_37 : decode cX3_runFrom 37 = .ok (.aload_n 0, 1) := by decide +kernel
theorem dX3_runFrom_38 : decode cX3_runFrom 38 = .ok (.getfield 11, 3) := by decide +kernel
theorem dX3_runFrom_41 : decode cX3_runFrom 41 = .ok (.iload 5, 2) := by decide +kernel
theorem dX3_runFrom_43 : decode cX3_runFrom 43 = .ok (.iaload, 1) := by decide +kernel
theorem dX3_runFrom_44 : decode cX3_runFrom 44 = .ok (.i2l, 1) := by decide +kernel
theorem dX3_runFrom_45 : decode cX3_runFrom 45 = .ok (.ldc2_w 25, 3) := by decide +kernel
theorem dX3_runFrom_48 : decode cX3_runFrom 48 = .ok (.lmul, 1) := by decide +kernel
theorem dX3_runFrom_49 : decode cX3_runFrom 49 = .ok (.lload_n 2, 1) := by decide +kernel
theorem dX3_runFrom_50 : decode cX3_runFrom 50 = .ok (.lcmp, 1) := by decide +kernel
theorem dX3_runFrom_51 : decode cX3_runFrom 51 = .ok (.ifCond .gt 9, 3) := by decide +kernel
theorem dX3_runFrom_54 : decode cX3_runFrom 54 = .ok (.iinc 5 1, 3) := by decide +kernel
theorem dX3_runFrom_57 : decode cX3_runFrom 57 = .ok (.goto (-54), 3) := by decide +kernel
theorem dX3_runFrom_60 : decode cX3_runFrom 60 = .ok (.iload 5, 2) := by decide +kernel
theorem dX3_runFrom_62 : decode cX3_runFrom 62 = .ok (.iload_n 1, 1) := by decide +kernel
theorem dX3_runFrom_63 : decode cX3_runFrom 63 = .ok (.isub, 1) := by decide +kernel
theorem dX3_runFrom_64 : decode cX3_runFrom 64 = .ok (.ireturn, 1) := by decide +kernel
end
section
theorem dX4_init_0 : decode cX4_init 0 = .ok (.aload_n 0, 1) := by decide +kernel
theorem dX4_init_1 : decode cX4_init 1 = .ok (.invokespecial 3, 3) := by decide +kernel
theorem dX4_init_4 : decode cX4_init 4 = .ok (.aload_n 0, 1) := by decide +kernel
theorem dX4_init_5 : decode cX4_init 5 = .ok (.iconst 1, 1) := by decide +kernel
theorem dX4_init_6 : decode cX4_init 6 = .ok (.putfield 9, 3) := by decide +kernel
theorem dX4_init_9 : decode cX4_init 9 = .ok (.aload_n 0, 1) := by decide +kernel
theorem dX4_init_10 : decode cX4_init 10 = .ok (.bipush 12, 2) := by decide +kernel
theorem dX4_init_12 : decode cX4_init 12 = .ok (.newarray .int, 2) := by decide +kernel
theorem dX4_init_14 : decode cX4_init 14 = .ok (.putfield 15, 3) := by decide +kernel
theorem dX4_init_17 : decode cX4_init 17 = .ok (.aload_n 0, 1) := by decide +kernel
theorem dX4_init_18 : decode cX4_init 18 = .ok (.bipush 12, 2) := by decide +kernel
theorem dX4_init_20 : decode cX4_init 20 = .ok (.newarray .int, 2) := by decide +kernel
theorem dX4_init_22 : decode cX4_init 22 = .ok (.putfield 19, 3) := by decide +kernel
theorem dX4_init_25 : decode cX4_init 25 = .ok (.return_, 1) := by decide +kernel
set_option maxRecDepth 20000 in
theorem ggX4_addBale_X5_within : GoodIn wsX4_addBale wsX5_within := goodIn_r _ [7] (by decide +kernel) (by decide +kernel)
set_option maxRecDepth 20000 in
theorem gX4_addBale_X5_within_n24 : GoodIn wsX4_addBale (wsX5_within) := ggX4_addBale_X5_within
theorem dX4_addBale_0 : decode cX4_addBale 0 = .ok (.iload_n 1, 1) := by decide +kernel
theorem dX4_addBale_1 : decode cX4_addBale 1 = .ok (.i2l, 1) := by decide +kernel
theorem dX4_addBale_2 : decode cX4_addBale 2 = .ok (.lconst 0, 1) := by decide +kernel
theorem dX4_addBale_3 : decode cX4_addBale 3 = .ok (.ldc2_w 22, 3) := by decide +kernel
theorem dX4_addBale_6 : decode cX4_addBale 6 = .ok (.invokestatic 24, 3) := by decide +kernel
theorem dX4_addBale_9 : decode cX4_addBale 9 = .ok (.ifCond .ne 6, 3) := by decide +kernel
theorem dX4_addBale_12 : decode cX4_addBale 12 = .ok (.bipush (-2), 2) := by decide +kernel
theorem dX4_addBale_14 : decode cX4_addBale 14 = .ok (.ireturn, 1) := by decide +kernel
theorem dX4_addBale_15 : decode cX4_addBale 15 = .ok (.aload_n 0, 1) := by decide +kernel
theorem dX4_addBale_16 : decode cX4_addBale 16 = .ok (.getfield 28, 3) := by decide +kernel
theorem dX4_addBale_19 : decode cX4_addBale 19 = .ok (.bipush 12, 2) := by decide +kernel
theorem dX4_addBale_21 : decode cX4_addBale 21 = .ok (.if_icmp .lt 6, 3) := by decide +kernel
theorem dX4_addBale_24 : decode cX4_addBale 24 = .ok (.bipush (-4), 2) := by decide +kernel
theorem dX4_addBale_26 : decode cX4_addBale 26 = .ok (.ireturn, 1) := by decide +kernel
theorem dX4_addBale_27 : decode cX4_addBale 27 = .ok (.aload_n 0, 1) := by decide +kernel
theorem dX4_addBale_28 : decode cX4_addBale 28 = .ok (.iconst 0, 1) := by decide +kernel
theorem dX4_addBale_29 : decode cX4_addBale 29 = .ok (.putfield 31, 3) := by decide +kernel
theorem dX4_addBale_32 : decode cX4_addBale 32 = .ok (.aload_n 0, 1) := by decide +kernel
theorem dX4_addBale_33 : decode cX4_addBale 33 = .ok (.getfield 15, 3) := by decide +kernel
theorem dX4_addBale_36 : decode cX4_addBale 36 = .ok (.aload_n 0, 1) := by decide +kernel
theorem dX4_addBale_37 : decode cX4_addBale 37 = .ok (.getfield 28, 3) := by decide +kernel
theorem dX4_addBale_40 : decode cX4_addBale 40 = .ok (.iload_n 1, 1) := by decide +kernel
theorem dX4_addBale_41 : decode cX4_addBale 41 = .ok (.iastore, 1) := by decide +kernel
theorem dX4_addBale_42 : decode cX4_addBale 42 = .ok (.aload_n 0, 1) := by decide +kernel
theorem dX4_addBale_43 : decode cX4_addBale 43 = .ok (.dup, 1) := by decide +kernel
theorem dX4_addBale_44 : decode cX4_addBale 44 = .ok (.getfield 28, 3) := by decide +kernel
theorem dX4_addBale_47 : decode cX4_addBale 47 = .ok (.iconst 1, 1) := by decide +kernel
theorem dX4_addBale_48 : decode cX4_addBale 48 = .ok (.iadd, 1) := by decide +kernel
theorem dX4_addBale_49 : decode cX4_addBale 49 = .ok (.putfield 28, 3) := by decide +kernel
theorem dX4_addBale_52 : decode cX4_addBale 52 = .ok (.aload_n 0, 1) := by decide +kernel
theorem dX4_addBale_53 : decode cX4_addBale 53 = .ok (.getfield 28, 3) := by decide +kernel
theorem dX4_addBale_56 : decode cX4_addBale 56 = .ok (.iconst 1, 1) := by decide +kernel
theorem dX4_addBale_57 : decode cX4_addBale 57 = .ok (.isub, 1) := by decide +kernel
theorem dX4_addBale_58 : decode cX4_addBale 58 = .ok (.ireturn, 1) := by decide +kernel
theorem dX4_removeAll_0 : decode cX4_removeAll 0 = .ok (.aload_n 0, 1) := by decide +kernel
theorem dX4_removeAll_1 : decode cX4_removeAll 1 = .ok (.getfield 28, 3) := by decide +kernel
theorem dX4_removeAll_4 : decode cX4_removeAll 4 = .ok (.istore_n 1, 1) := by decide +kernel
theorem dX4_removeAll_5 : decode cX4_removeAll 5 = .ok (.aload_n 0, 1) := by decide +kernel
theorem dX4_removeAll_6 : decode cX4_removeAll 6 = .ok (.iconst 0, 1) := by decide +kernel
theorem dX4_removeAll_7 : decode cX4_removeAll 7 = .ok (.putfield 28, 3) := by decide +kernel
theorem dX4_removeAll_10 : decode cX4_removeAll 10 = .ok (.aload_n 0, 1) := by decide +kernel
theorem dX4_removeAll_11 : decode cX4_removeAll 11 = .ok (.iconst 0, 1) := by decide +kernel
theorem dX4_removeAll_12 : decode cX4_removeAll 12 = .ok (.putfield 31, 3) := by decide +kernel
theorem dX4_removeAll_15 : decode cX4_removeAll 15 = .ok (.iload_n 1, 1) := by decide +kernel
theorem dX4_removeAll_16 : decode cX4_removeAll 16 = .ok (.ireturn, 1) := by decide +kernel
set_option maxRecDepth 20000 in
theorem ggX4_makePlan_X5_within : GoodIn wsX4_makePlan wsX5_within := goodIn_r _ [12] (by decide +kernel) (by decide +kernel)
set_option maxRecDepth 20000 in
theorem gX4_makePlan_X5_within_n24 : GoodIn wsX4_makePlan (wsX5_within) := ggX4_makePlan_X5_within
set_option maxRecDepth 20000 in
theorem ggX4_makePlan_X4_openLaydown : GoodIn wsX4_makePlan wsX4_openLaydown := goodIn_r _ [17, 4, 18, 5, 19, 20, 21, 22, 16, 23, 6, 7, 9, 10, 11, 12, 13, 14, 15, 24, 25, 26, 27, 8, 28, 29, 30, 31, 32, 33, 34, 35, 36, 37] (by decide +kernel) (by decide +kernel)
set_option maxRecDepth 20000 in
theorem gX4_makePlan_X4_openLaydown : GoodIn wsX4_makePlan (wsV RX4 49 RX4 yX4_openLaydown wsX4_openLaydown) := goodIn_app (goodIn_of _ (by decide +kernel)) ggX4_makePlan_X4_openLaydown
theorem dX4_makePlan_0 : decode cX4_makePlan 0 = .ok (.iload_n 1, 1) := by decide +kernel
theorem dX4_makePlan_1 : decode cX4_makePlan 1 = .ok (.i2l, 1) := by decide +kernel
theorem dX4_makePlan_2 : decode cX4_makePlan 2 = .ok (.lconst 1, 1) := by decide +kernel
theorem dX4_makePlan_3 : decode cX4_makePlan 3 = .ok (.ldc2_w 34, 3) := by decide +kernel
theorem dX4_makePlan_6 : decode cX4_makePlan 6 = .ok (.invokestatic 24, 3) := by decide +kernel
theorem dX4_makePlan_9 : decode cX4_makePlan 9 = .ok (.ifCond .eq 28, 3) := by decide +kernel
theorem dX4_makePlan_12 : decode cX4_makePlan 12 = .ok (.iload_n 2, 1) := by decide +kernel
theorem dX4_makePlan_13 : decode cX4_makePlan 13 = .ok (.i2l, 1) := by decide +kernel
theorem dX4_makePlan_14 : decode cX4_makePlan 14 = .ok (.lconst 0, 1) := by decide +kernel
theorem dX4_makePlan_15 : decode cX4_makePlan 15 = .ok (.ldc2_w 22, 3) := by decide +kernel
theorem dX4_makePlan_18 : decode cX4_makePlan 18 = .ok (.invokestatic 24, 3) := by decide +kernel
theorem dX4_makePlan_21 : decode cX4_makePlan 21 = .ok (.ifCond .eq 16, 3) := by decide +kernel
theorem dX4_makePlan_24 : decode cX4_makePlan 24 = .ok (.iload_n 3, 1) := by decide +kernel
theorem dX4_makePlan_25 : decode cX4_makePlan 25 = .ok (.i2l, 1) := by decide +kernel
theorem dX4_makePlan_26 : decode cX4_makePlan 26 = .ok (.iload_n 2, 1) := by decide +kernel
theorem dX4_makePlan_27 : decode cX4_makePlan 27 = .ok (.i2l, 1) := by decide +kernel
theorem dX4_makePlan_28 : decode cX4_makePlan 28 = .ok (.ldc2_w 22, 3) := by decide +kernel
theorem dX4_makePlan_31 : decode cX4_makePlan 31 = .ok (.invokestatic 24, 3) := by decide +kernel
theorem dX4_makePlan_34 : decode cX4_makePlan 34 = .ok (.ifCond .ne 6, 3) := by decide +kernel
theorem dX4_makePlan_37 : decode cX4_makePlan 37 = .ok (.bipush (-2), 2) := by decide +kernel
theorem dX4_makePlan_39 : decode cX4_makePlan 39 = .ok (.ireturn, 1) := by decide +kernel
theorem dX4_makePlan_40 : decode cX4_makePlan 40 = .ok (.aload_n 0, 1) := by decide +kernel
theorem dX4_makePlan_41 : decode cX4_makePlan 41 = .ok (.iconst 0, 1) := by decide +kernel
theorem dX4_makePlan_42 : decode cX4_makePlan 42 = .ok (.putfield 31, 3) := by decide +kernel
theorem dX4_makePlan_45 : decode cX4_makePlan 45 = .ok (.aload_n 0, 1) := by decide +kernel
theorem dX4_makePlan_46 : decode cX4_makePlan 46 = .ok (.getfield 28, 3) := by decide +kernel
theorem dX4_makePlan_49 : decode cX4_makePlan 49 = .ok (.iload_n 1, 1) := by decide +kernel
theorem dX4_makePlan_50 : decode cX4_makePlan 50 = .ok (.irem, 1) := by decide +kernel
theorem dX4_makePlan_51 : decode cX4_makePlan 51 = .ok (.ifCond .eq 6, 3) := by decide +kernel
theorem dX4_makePlan_54 : decode cX4_makePlan 54 = .ok (.bipush (-3), 2) := by decide +kernel
theorem dX4_makePlan_56 : decode cX4_makePlan 56 = .ok (.ireturn, 1) := by decide +kernel
theorem dX4_makePlan_57 : decode cX4_makePlan 57 = .ok (.aload_n 0, 1) := by decide +kernel
theorem dX4_makePlan_58 : decode cX4_makePlan 58 = .ok (.iload_n 1, 1) := by decide +kernel
theorem dX4_makePlan_59 : decode cX4_makePlan 59 = .ok (.putfield 9, 3) := by decide +kernel
theorem dX4_makePlan_62 : decode cX4_makePlan 62 = .ok (.aload_n 0, 1) := by decide +kernel
theorem dX4_makePlan_63 : decode cX4_makePlan 63 = .ok (.iload_n 1, 1) := by decide +kernel
theorem dX4_makePlan_64 : decode cX4_makePlan 64 = .ok (.iload_n 2, 1) := by decide +kernel
theorem dX4_makePlan_65 : decode cX4_makePlan 65 = .ok (.imul, 1) := by decide +kernel
theorem dX4_makePlan_66 : decode cX4_makePlan 66 = .ok (.putfield 36, 3) := by decide +kernel
theorem dX4_makePlan_69 : decode cX4_makePlan 69 = .ok (.aload_n 0, 1) := by decide +kernel
theorem dX4_makePlan_70 : decode cX4_makePlan 70 = .ok (.iload_n 1, 1) := by decide +kernel
theorem dX4_makePlan_71 : decode cX4_makePlan 71 = .ok (.iload_n 3, 1) := by decide +kernel
theorem dX4_makePlan_72 : decode cX4_makePlan 72 = .ok (.imul, 1) := by decide +kernel
theorem dX4_makePlan_73 : decode cX4_makePlan 73 = .ok (.putfield 39, 3) := by decide +kernel
theorem dX4_makePlan_76 : decode cX4_makePlan 76 = .ok (.aload_n 0, 1) := by decide +kernel
theorem dX4_makePlan_77 : decode cX4_makePlan 77 = .ok (.iconst 0, 1) := by decide +kernel
theorem dX4_makePlan_78 : decode cX4_makePlan 78 = .ok (.putfield 42, 3) := by decide +kernel
theorem dX4_makePlan_81 : decode cX4_makePlan 81 = .ok (.aload_n 0, 1) := by decide +kernel
theorem dX4_makePlan_82 : decode cX4_makePlan 82 = .ok (.iconst 0, 1) := by decide +kernel
theorem dX4_makePlan_83 : decode cX4_makePlan 83 = .ok (.putfield 45, 3) := by decide +kernel
theorem dX4_makePlan_86 : decode cX4_makePlan 86 = .ok (.aload_n 0, 1) := by decide +kernel
theorem dX4_makePlan_87 : decode cX4_makePlan 87 = .ok (.iconst 0, 1) := by decide +kernel
theorem dX4_makePlan_88 : decode cX4_makePlan 88 = .ok (.iconst 0, 1) := by decide +kernel
theorem dX4_makePlan_89 : decode cX4_makePlan 89 = .ok (.invokevirtual 49, 3) := by decide +kernel
theorem dX4_makePlan_92 : decode cX4_makePlan 92 = .ok (.ifCond .ne 17, 3) := by decide +kernel
theorem dX4_makePlan_95 : decode cX4_makePlan 95 = .ok (.aload_n 0, 1) := by decide +kernel
theorem dX4_makePlan_96 : decode cX4_makePlan 96 = .ok (.getfield 45, 3) := by decide +kernel
theorem dX4_makePlan_99 : decode cX4_makePlan 99 = .ok (.ifCond .eq 8, 3) := by decide +kernel
theorem dX4_makePlan_102 : decode cX4_makePlan 102 = .ok (.bipush (-5), 2) := by decide +kernel
theorem dX4_makePlan_104 : decode cX4_makePlan 104 = .ok (.goto 4, 3) := by decide +kernel
theorem dX4_makePlan_107 : decode cX4_makePlan 107 = .ok (.iconst (-1), 1) := by decide +kernel
theorem dX4_makePlan_108 : decode cX4_makePlan 108 = .ok (.ireturn, 1) := by decide +kernel
theorem dX4_makePlan_109 : decode cX4_makePlan 109 = .ok (.aload_n 0, 1) := by decide +kernel
theorem dX4_makePlan_110 : decode cX4_makePlan 110 = .ok (.aload_n 0, 1) := by decide +kernel
theorem dX4_makePlan_111 : decode cX4_makePlan 111 = .ok (.getfield 28, 3) := by decide +kernel
theorem dX4_makePlan_114 : decode cX4_makePlan 114 = .ok (.iload_n 1, 1) := by decide +kernel
theorem dX4_makePlan_115 : decode cX4_makePlan 115 = .ok (.idiv, 1) := by decide +kernel
theorem dX4_makePlan_116 : decode cX4_makePlan 116 = .ok (.putfield 31, 3) := by decide +kernel
theorem dX4_makePlan_119 : decode cX4_makePlan 119 = .ok (.aload_n 0, 1) := by decide +kernel
theorem dX4_makePlan_120 : decode cX4_makePlan 120 = .ok (.getfield 31, 3) := by decide +kernel
theorem dX4_makePlan_123 : decode cX4_makePlan 123 = .ok (.ireturn, 1) := by decide +kernel
set_option maxRecDepth 20000 in
theorem ggX4_planned_X5_within : GoodIn wsX4_planned wsX5_within := goodIn_r _ [6] (by decide +kernel) (by decide +kernel)
set_option maxRecDepth 20000 in
theorem gX4_planned_X5_within_n24 : GoodIn wsX4_planned (wsX5_within) := ggX4_planned_X5_within
theorem dX4_planned_0 : decode cX4_planned 0 = .ok (.iload_n 1, 1) := by decide +kernel
theorem dX4_planned_1 : decode cX4_planned 1 = .ok (.i2l, 1) := by decide +kernel
theorem dX4_planned_2 : decode cX4_planned 2 = .ok (.lconst 0, 1) := by decide +kernel
theorem dX4_planned_3 : decode cX4_planned 3 = .ok (.aload_n 0, 1) := by decide +kernel
theorem dX4_planned_4 : decode cX4_planned 4 = .ok (.getfield 31, 3) := by decide +kernel
theorem dX4_planned_7 : decode cX4_planned 7 = .ok (.iconst 1, 1) := by decide +kernel
theorem dX4_planned_8 : decode cX4_planned 8 = .ok (.isub, 1) := by decide +kernel
theorem dX4_planned_9 : decode cX4_planned 9 = .ok (.i2l, 1) := by decide +kernel
theorem dX4_planned_10 : decode cX4_planned 10 = .ok (.invokestatic 24, 3) := by decide +kernel
theorem dX4_planned_13 : decode cX4_planned 13 = .ok (.ifCond .eq 35, 3) := by decide +kernel
theorem dX4_planned_16 : decode cX4_planned 16 = .ok (.iload_n 2, 1) := by decide +kernel
theorem dX4_planned_17 : decode cX4_planned 17 = .ok (.i2l, 1) := by decide +kernel
theorem dX4_planned_18 : decode cX4_planned 18 = .ok (.lconst 0, 1) := by decide +kernel
theorem dX4_planned_19 : decode cX4_planned 19 = .ok (.aload_n 0, 1) := by decide +kernel
theorem dX4_planned_20 : decode cX4_planned 20 = .ok (.getfield 9, 3) := by decide +kernel
theorem dX4_planned_23 : decode cX4_planned 23 = .ok (.iconst 1, 1) := by decide +kernel
theorem dX4_planned_24 : decode cX4_planned 24 = .ok (.isub, 1) := by decide +kernel
theorem dX4_planned_25 : decode cX4_planned 25 = .ok (.i2l, 1) := by decide +kernel
theorem dX4_planned_26 : decode cX4_planned 26 = .ok (.invokestatic 24, 3) := by decide +kernel
theorem dX4_planned_29 : decode cX4_planned 29 = .ok (.ifCond .eq 19, 3) := by decide +kernel
theorem dX4_planned_32 : decode cX4_planned 32 = .ok (.aload_n 0, 1) := by decide +kernel
theorem dX4_planned_33 : decode cX4_planned 33 = .ok (.getfield 19, 3) := by decide +kernel
theorem dX4_planned_36 : decode cX4_planned 36 = .ok (.iload_n 1, 1) := by decide +kernel
theorem dX4_planned_37 : decode cX4_planned 37 = .ok (.aload_n 0, 1) := by decide +kernel
theorem dX4_planned_38 : decode cX4_planned 38 = .ok (.getfield 9, 3) := by decide +kernel
theorem dX4_planned_41 : decode cX4_planned 41 = .ok (.imul, 1) := by decide +kernel
theorem dX4_planned_42 : decode cX4_planned 42 = .ok (.iload_n 2, 1) := by decide +kernel
theorem dX4_planned_43 : decode cX4_planned 43 = .ok (.iadd, 1) := by decide +kernel
theorem dX4_planned_44 : decode cX4_planned 44 = .ok (.iaload, 1) := by decide +kernel
theorem dX4_planned_45 : decode cX4_planned 45 = .ok (.goto 4, 3) := by decide +kernel
theorem dX4_planned_48 : decode cX4_planned 48 = .ok (.iconst (-1), 1) := by decide +kernel
theorem dX4_planned_49 : decode cX4_planned 49 = .ok (.ireturn, 1) := by decide +kernel
theorem dX4_mixInto_0 : decode cX4_mixInto 0 = .ok (.lload_n 1, 1) := by decide +kernel
theorem dX4_mixInto_1 : decode cX4_mixInto 1 = .ok (.lstore_n 3, 1) := by decide +kernel
theorem dX4_mixInto_2 : decode cX4_mixInto 2 = .ok (.iconst 0, 1) := by decide +kernel
theorem dX4_mixInto_3 : decode cX4_mixInto 3 = .ok (.istore 5, 2) := by decide +kernel
theorem dX4_mixInto_5 : decode cX4_mixInto 5 = .ok (.iload 5, 2) := by decide +kernel
theorem dX4_mixInto_7 : decode cX4_mixInto 7 = .ok (.aload_n 0, 1) := by decide +kernel
theorem dX4_mixInto_8 : decode cX4_mixInto 8 = .ok (.getfield 31, 3) := by decide +kernel
theorem dX4_mixInto_11 : decode cX4_mixInto 11 = .ok (.aload_n 0, 1) := by decide +kernel
theorem dX4_mixInto_12 : decode cX4_mixInto 12 = .ok (.getfield 9, 3) := by decide +kernel
theorem dX4_mixInto_15 : decode cX4_mixInto 15 = .ok (.imul, 1) := by decide +kernel
theorem dX4_mixInto_16 : decode cX4_mixInto 16 = .ok (.if_icmp .ge 24, 3) := by decide +kernel
theorem dX4_mixInto_19 : decode cX4_mixInto 19 = .ok (.ldc2_w 53, 3) := by decide +kernel
theorem dX4_mixInto_22 : decode cX4_mixInto 22 = .ok (.lload_n 3, 1) := by decide +kernel
theorem dX4_mixInto_23 : decode cX4_mixInto 23 = .ok (.lmul, 1) := by decide +kernel
theorem dX4_mixInto_24 : decode cX4_mixInto 24 = .ok (.aload_n 0, 1) := by decide +kernel
theorem dX4_mixInto_25 : decode cX4_mixInto 25 = .ok (.getfield 19, 3) := by decide +kernel
theorem dX4_mixInto_28 : decode cX4_mixInto 28 = .ok (.iload 5, 2) := by decide +kernel
theorem dX4_mixInto_30 : decode cX4_mixInto 30 = .ok (.iaload, 1) := by decide +kernel
theorem dX4_mixInto_31 : decode cX4_mixInto 31 = .ok (.i2l, 1) := by decide +kernel
theorem dX4_mixInto_32 : decode cX4_mixInto 32 = .ok (.ladd, 1) := by decide +kernel
theorem dX4_mixInto_33 : decode cX4_mixInto 33 = .ok (.lstore_n 3, 1) := by decide +kernel
theorem dX4_mixInto_34 : decode cX4_mixInto 34 = .ok (.iinc 5 1, 3) := by decide +kernel
theorem dX4_mixInto_37 : decode cX4_mixInto 37 = .ok (.goto (-32), 3) := by decide +kernel
theorem dX4_mixInto_40 : decode cX4_mixInto 40 = .ok (.lload_n 3, 1) := by decide +kernel
theorem dX4_mixInto_41 : decode cX4_mixInto 41 = .ok (.lreturn, 1) := by decide +kernel
set_option maxRecDepth 20000 in
theorem ggX4_openLaydown_X4_fillLaydown : GoodIn wsX4_openLaydown wsX4_fillLaydown := goodIn_r _ [9, 10, 11, 1, 2, 4, 12, 13, 14, 15, 16, 17, 18, 8, 19, 20, 21, 22, 23, 24, 5, 6, 7, 0, 3, 25, 26, 27, 28, 29, 30, 31, 32, 33] (by decide +kernel) (by decide +kernel)
set_option maxRecDepth 20000 in
theorem gX4_openLaydown_X4_fillLaydown : GoodIn wsX4_openLaydown (wsV RX4 55 RX4 yX4_fillLaydown wsX4_fillLaydown) := goodIn_app (goodIn_of _ (by decide +kernel)) ggX4_openLaydown_X4_fillLaydown
theorem dX4_openLaydown_0 : decode cX4_openLaydown 0 = .ok (.iload_n 1, 1) := by decide +kernel
theorem dX4_openLaydown_1 : decode cX4_openLaydown 1 = .ok (.aload_n 0, 1) := by decide +kernel
theorem dX4_openLaydown_2 : decode cX4_openLaydown 2 = .ok (.getfield 28, 3) := by decide +kernel
theorem dX4_openLaydown_5 : decode cX4_openLaydown 5 = .ok (.if_icmp .lt 5, 3) := by decide +kernel
theorem dX4_openLaydown_8 : decode cX4_openLaydown 8 = .ok (.iconst 1, 1) := by decide +kernel
theorem dX4_openLaydown_9 : decode cX4_openLaydown 9 = .ok (.ireturn, 1) := by decide +kernel
theorem dX4_openLaydown_10 : decode cX4_openLaydown 10 = .ok (.iconst 0, 1) := by decide +kernel
theorem dX4_openLaydown_11 : decode cX4_openLaydown 11 = .ok (.istore_n 3, 1) := by decide +kernel
theorem dX4_openLaydown_12 : decode cX4_openLaydown 12 = .ok (.iload_n 3, 1) := by decide +kernel
theorem dX4_openLaydown_13 : decode cX4_openLaydown 13 = .ok (.aload_n 0, 1) := by decide +kernel
theorem dX4_openLaydown_14 : decode cX4_openLaydown 14 = .ok (.getfield 28, 3) := by decide +kernel
theorem dX4_openLaydown_17 : decode cX4_openLaydown 17 = .ok (.iconst 1, 1) := by decide +kernel
theorem dX4_openLaydown_18 : decode cX4_openLaydown 18 = .ok (.isub, 1) := by decide +kernel
theorem dX4_openLaydown_19 : decode cX4_openLaydown 19 = .ok (.if_icmp .ge 17, 3) := by decide +kernel
theorem dX4_openLaydown_22 : decode cX4_openLaydown 22 = .ok (.iload_n 2, 1) := by decide +kernel
theorem dX4_openLaydown_23 : decode cX4_openLaydown 23 = .ok (.iload_n 3, 1) := by decide +kernel
theorem dX4_openLaydown_24 : decode cX4_openLaydown 24 = .ok (.ishr, 1) := by decide +kernel
theorem dX4_openLaydown_25 : decode cX4_openLaydown 25 = .ok (.iconst 1, 1) := by decide +kernel
theorem dX4_openLaydown_26 : decode cX4_openLaydown 26 = .ok (.iand, 1) := by decide +kernel
theorem dX4_openLaydown_27 : decode cX4_openLaydown 27 = .ok (.ifCond .eq 9, 3) := by decide +kernel
theorem dX4_openLaydown_30 : decode cX4_openLaydown 30 = .ok (.iinc 3 1, 3) := by decide +kernel
theorem dX4_openLaydown_33 : decode cX4_openLaydown 33 = .ok (.goto (-21), 3) := by decide +kernel
theorem dX4_openLaydown_36 : decode cX4_openLaydown 36 = .ok (.aload_n 0, 1) := by decide +kernel
theorem dX4_openLaydown_37 : decode cX4_openLaydown 37 = .ok (.getfield 19, 3) := by decide +kernel
theorem dX4_openLaydown_40 : decode cX4_openLaydown 40 = .ok (.iload_n 1, 1) := by decide +kernel
theorem dX4_openLaydown_41 : decode cX4_openLaydown 41 = .ok (.iload_n 3, 1) := by decide +kernel
theorem dX4_openLaydown_42 : decode cX4_openLaydown 42 = .ok (.iastore, 1) := by decide +kernel
theorem dX4_openLaydown_43 : decode cX4_openLaydown 43 = .ok (.aload_n 0, 1) := by decide +kernel
theorem dX4_openLaydown_44 : decode cX4_openLaydown 44 = .ok (.iload_n 1, 1) := by decide +kernel
theorem dX4_openLaydown_45 : decode cX4_openLaydown 45 = .ok (.iconst 1, 1) := by decide +kernel
theorem dX4_openLaydown_46 : decode cX4_openLaydown 46 = .ok (.iadd, 1) := by decide +kernel
theorem dX4_openLaydown_47 : decode cX4_openLaydown 47 = .ok (.aload_n 0, 1) := by decide +kernel
theorem dX4_openLaydown_48 : decode cX4_openLaydown 48 = .ok (.getfield 9, 3) := by decide +kernel
theorem dX4_openLaydown_51 : decode cX4_openLaydown 51 = .ok (.iconst 1, 1) := by decide +kernel
theorem dX4_openLaydown_52 : decode cX4_openLaydown 52 = .ok (.isub, 1) := by decide +kernel
theorem dX4_openLaydown_53 : decode cX4_openLaydown 53 = .ok (.iload_n 2, 1) := by decide +kernel
theorem dX4_openLaydown_54 : decode cX4_openLaydown 54 = .ok (.iconst 1, 1) := by decide +kernel
theorem dX4_openLaydown_55 : decode cX4_openLaydown 55 = .ok (.iload_n 3, 1) := by decide +kernel
theorem dX4_openLaydown_56 : decode cX4_openLaydown 56 = .ok (.ishl, 1) := by decide +kernel
theorem dX4_openLaydown_57 : decode cX4_openLaydown 57 = .ok (.ior, 1) := by decide +kernel
theorem dX4_openLaydown_58 : decode cX4_openLaydown 58 = .ok (.aload_n 0, 1) := by decide +kernel
theorem dX4_openLaydown_59 : decode cX4_openLaydown 59 = .ok (.getfield 15, 3) := by decide +kernel
theorem dX4_openLaydown_62 : decode cX4_openLaydown 62 = .ok (.iload_n 3, 1) := by decide +kernel
theorem dX4_openLaydown_63 : decode cX4_openLaydown 63 = .ok (.iaload, 1) := by decide +kernel
theorem dX4_openLaydown_64 : decode cX4_openLaydown 64 = .ok (.invokevirtual 55, 3) := by decide +kernel
theorem dX4_openLaydown_67 : decode cX4_openLaydown 67 = .ok (.ireturn, 1) := by decide +kernel
set_option maxRecDepth 20000 in
theorem ggX4_fillLaydown_X5_within : GoodIn wsX4_fillLaydown wsX5_within := goodIn_r _ [9] (by decide +kernel) (by decide +kernel)
set_option maxRecDepth 20000 in
theorem gX4_fillLaydown_X5_within_n24 : GoodIn wsX4_fillLaydown (wsX5_within) := ggX4_fillLaydown_X5_within
set_option maxRecDepth 20000 in
theorem ggX4_fillLaydown_X4_openLaydown : GoodIn wsX4_fillLaydown wsX4_openLaydown := goodIn_r _ [23, 3, 4, 24, 5, 20, 21, 22, 13, 0, 1, 2, 6, 7, 8, 9, 10, 11, 12, 14, 15, 16, 17, 18, 19, 25, 26, 27, 28, 29, 30, 31, 32, 33] (by decide +kernel) (by decide +kernel)
set_option maxRecDepth 20000 in
theorem gX4_fillLaydown_X4_openLaydown : GoodIn wsX4_fillLaydown (wsV RX4 49 RX4 yX4_openLaydown wsX4_openLaydown) := goodIn_app (goodIn_of _ (by decide +kernel)) ggX4_fillLaydown_X4_openLaydown
set_option maxRecDepth 20000 in
theorem ggX4_fillLaydown_X4_countTry : GoodIn wsX4_fillLaydown wsX4_countTry := goodIn_r _ [17, 18, 19, 6, 25, 26, 27, 28, 29, 30, 31, 32, 33] (by decide +kernel) (by decide +kernel)
set_option maxRecDepth 20000 in
theorem gX4_fillLaydown_X4_countTry : GoodIn wsX4_fillLaydown (wsV RX4 59 RX4 yX4_countTry wsX4_countTry) := goodIn_app (goodIn_of _ (by decide +kernel)) ggX4_fillLaydown_X4_countTry
set_option maxRecDepth 20000 in
theorem ggX4_fillLaydown_X4_fillLaydown : GoodIn wsX4_fillLaydown wsX4_fillLaydown := goodIn_r _ [0, 1, 2, 3, 4, 5, 6, 7, 8, 9, 10, 11, 12, 13, 14, 15, 16, 17, 18, 19, 20, 21, 22, 23, 24, 25, 26, 27, 28, 29, 30, 31, 32, 33] (by decide +kernel) (by decide +kernel)
set_option maxRecDepth 20000 in
theorem gX4_fillLaydown_X4_fillLaydown : GoodIn wsX4_fillLaydown (wsV RX4 55 RX4 yX4_fillLaydown wsX4_fillLaydown) := goodIn_app (goodIn_of _ (by decide +kernel)) ggX4_fillLaydown_X4_fillLaydown
theorem dX4_fillLaydown_0 : decode cX4_fillLaydown 0 = .ok (.iload_n 2, 1) := by decide +kernel
theorem dX4_fillLaydown_1 : decode cX4_fillLaydown 1 = .ok (.ifCond .gt 37, 3) := by decide +kernel
theorem dX4_fillLaydown_4 : decode cX4_fillLaydown 4 = .ok (.iload 4, 2) := by decide +kernel
theorem dX4_fillLaydown_6 : decode cX4_fillLaydown 6 = .ok (.i2l, 1) := by decide +kernel
theorem dX4_fillLaydown_7 : decode cX4_fillLaydown 7 = .ok (.aload_n 0, 1) := by decide +kernel
theorem dX4_fillLaydown_8 : decode cX4_fillLaydown 8 = .ok (.getfield 36, 3) := by decide +kernel
theorem dX4_fillLaydown_11 : decode cX4_fillLaydown 11 = .ok (.i2l, 1) := by decide +kernel
theorem dX4_fillLaydown_12 : decode cX4_fillLaydown 12 = .ok (.aload_n 0, 1) := by decide +kernel
theorem dX4_fillLaydown_13 : decode cX4_fillLaydown 13 = .ok (.getfield 39, 3) := by decide +kernel
theorem dX4_fillLaydown_16 : decode cX4_fillLaydown 16 = .ok (.i2l, 1) := by decide +kernel
theorem dX4_fillLaydown_17 : decode cX4_fillLaydown 17 = .ok (.invokestatic 24, 3) := by decide +kernel
theorem dX4_fillLaydown_20 : decode cX4_fillLaydown 20 = .ok (.ifCond .eq 16, 3) := by decide +kernel
theorem dX4_fillLaydown_23 : decode cX4_fillLaydown 23 = .ok (.aload_n 0, 1) := by decide +kernel
theorem dX4_fillLaydown_24 : decode cX4_fillLaydown 24 = .ok (.iload_n 1, 1) := by decide +kernel
theorem dX4_fillLaydown_25 : decode cX4_fillLaydown 25 = .ok (.iload_n 3, 1) := by decide +kernel
theorem dX4_fillLaydown_26 : decode cX4_fillLaydown 26 = .ok (.invokevirtual 49, 3) := by decide +kernel
theorem dX4_fillLaydown_29 : decode cX4_fillLaydown 29 = .ok (.ifCond .eq 7, 3) := by decide +kernel
theorem dX4_fillLaydown_32 : decode cX4_fillLaydown 32 = .ok (.iconst 1, 1) := by decide +kernel
theorem dX4_fillLaydown_33 : decode cX4_fillLaydown 33 = .ok (.goto 4, 3) := by decide +kernel
theorem dX4_fillLaydown_36 : decode cX4_fillLaydown 36 = .ok (.iconst 0, 1) := by decide +kernel
theorem dX4_fillLaydown_37 : decode cX4_fillLaydown 37 = .ok (.ireturn, 1) := by decide +kernel
theorem dX4_fillLaydown_38 : decode cX4_fillLaydown 38 = .ok (.iload_n 1, 1) := by decide +kernel
theorem dX4_fillLaydown_39 : decode cX4_fillLaydown 39 = .ok (.iconst 1, 1) := by decide +kernel
theorem dX4_fillLaydown_40 : decode cX4_fillLaydown 40 = .ok (.if_icmp .lt 11, 3) := by decide +kernel
theorem dX4_fillLaydown_43 : decode cX4_fillLaydown 43 = .ok (.iload_n 1, 1) := by decide +kernel
theorem dX4_fillLaydown_44 : decode cX4_fillLaydown 44 = .ok (.aload_n 0, 1) := by decide +kernel
theorem dX4_fillLaydown_45 : decode cX4_fillLaydown 45 = .ok (.getfield 28, 3) := by decide +kernel
theorem dX4_fillLaydown_48 : decode cX4_fillLaydown 48 = .ok (.if_icmp .lt 5, 3) := by decide +kernel
theorem dX4_fillLaydown_51 : decode cX4_fillLaydown 51 = .ok (.iconst 0, 1) := by decide +kernel
theorem dX4_fillLaydown_52 : decode cX4_fillLaydown 52 = .ok (.ireturn, 1) := by decide +kernel
theorem dX4_fillLaydown_53 : decode cX4_fillLaydown 53 = .ok (.aload_n 0, 1) := by decide +kernel
theorem dX4_fillLaydown_54 : decode cX4_fillLaydown 54 = .ok (.getfield 19, 3) := by decide +kernel
theorem dX4_fillLaydown_57 : decode cX4_fillLaydown 57 = .ok (.iload_n 1, 1) := by decide +kernel
theorem dX4_fillLaydown_58 : decode cX4_fillLaydown 58 = .ok (.iconst 1, 1) := by decide +kernel
theorem dX4_fillLaydown_59 : decode cX4_fillLaydown 59 = .ok (.isub, 1) := by decide +kernel
theorem dX4_fillLaydown_60 : decode cX4_fillLaydown 60 = .ok (.iaload, 1) := by decide +kernel
theorem dX4_fillLaydown_61 : decode cX4_fillLaydown 61 = .ok (.iconst 1, 1) := by decide +kernel
theorem dX4_fillLaydown_62 : decode cX4_fillLaydown 62 = .ok (.iadd, 1) := by decide +kernel
theorem dX4_fillLaydown_63 : decode cX4_fillLaydown 63 = .ok (.istore 5, 2) := by decide +kernel
theorem dX4_fillLaydown_65 : decode cX4_fillLaydown 65 = .ok (.iload 5, 2) := by decide +kernel
theorem dX4_fillLaydown_67 : decode cX4_fillLaydown 67 = .ok (.aload_n 0, 1) := by decide +kernel
theorem dX4_fillLaydown_68 : decode cX4_fillLaydown 68 = .ok (.getfield 28, 3) := by decide +kernel
theorem dX4_fillLaydown_71 : decode cX4_fillLaydown 71 = .ok (.if_icmp .ge 78, 3) := by decide +kernel
theorem dX4_fillLaydown_74 : decode cX4_fillLaydown 74 = .ok (.iload_n 3, 1) := by decide +kernel
theorem dX4_fillLaydown_75 : decode cX4_fillLaydown 75 = .ok (.iload 5, 2) := by decide +kernel
theorem dX4_fillLaydown_77 : decode cX4_fillLaydown 77 = .ok (.ishr, 1) := by decide +kernel
theorem dX4_fillLaydown_78 : decode cX4_fillLaydown 78 = .ok (.iconst 1, 1) := by decide +kernel
theorem dX4_fillLaydown_79 : decode cX4_fillLaydown 79 = .ok (.iand, 1) := by decide +kernel
theorem dX4_fillLaydown_80 : decode cX4_fillLaydown 80 = .ok (.ifCond .eq 6, 3) := by decide +kernel
theorem dX4_fillLaydown_83 : decode cX4_fillLaydown 83 = .ok (.goto 60, 3) := by decide +kernel
theorem dX4_fillLaydown_86 : decode cX4_fillLaydown 86 = .ok (.aload_n 0, 1) := by decide +kernel
theorem dX4_fillLaydown_87 : decode cX4_fillLaydown 87 = .ok (.invokevirtual 59, 3) := by decide +kernel
theorem dX4_fillLaydown_90 : decode cX4_fillLaydown 90 = .ok (.ifCond .ne 5, 3) := by decide +kernel
theorem dX4_fillLaydown_93 : decode cX4_fillLaydown 93 = .ok (.iconst 0, 1) := by decide +kernel
theorem dX4_fillLaydown_94 : decode cX4_fillLaydown 94 = .ok (.ireturn, 1) := by decide +kernel
theorem dX4_fillLaydown_95 : decode cX4_fillLaydown 95 = .ok (.aload_n 0, 1) := by decide +kernel
theorem dX4_fillLaydown_96 : decode cX4_fillLaydown 96 = .ok (.getfield 19, 3) := by decide +kernel
theorem dX4_fillLaydown_99 : decode cX4_fillLaydown 99 = .ok (.iload_n 1, 1) := by decide +kernel
theorem dX4_fillLaydown_100 : decode cX4_fillLaydown 100 = .ok (.iload 5, 2) := by decide +kernel
theorem dX4_fillLaydown_102 : decode cX4_fillLaydown 102 = .ok (.iastore, 1) := by decide +kernel
theorem dX4_fillLaydown_103 : decode cX4_fillLaydown 103 = .ok (.aload_n 0, 1) := by decide +kernel
theorem dX4_fillLaydown_104 : decode cX4_fillLaydown 104 = .ok (.iload_n 1, 1) := by decide +kernel
theorem dX4_fillLaydown_105 : decode cX4_fillLaydown 105 = .ok (.iconst 1, 1) := by decide +kernel
theorem dX4_fillLaydown_106 : decode cX4_fillLaydown 106 = .ok (.iadd, 1) := by decide +kernel
theorem dX4_fillLaydown_107 : decode cX4_fillLaydown 107 = .ok (.iload_n 2, 1) := by decide +kernel
theorem dX4_fillLaydown_108 : decode cX4_fillLaydown 108 = .ok (.iconst 1, 1) := by decide +kernel
theorem dX4_fillLaydown_109 : decode cX4_fillLaydown 109 = .ok (.isub, 1) := by decide +kernel
theorem dX4_fillLaydown_110 : decode cX4_fillLaydown 110 = .ok (.iload_n 3, 1) := by decide +kernel
theorem dX4_fillLaydown_111 : decode cX4_fillLaydown 111 = .ok (.iconst 1, 1) := by decide +kernel
theorem dX4_fillLaydown_112 : decode cX4_fillLaydown 112 = .ok (.iload 5, 2) := by decide +kernel
theorem dX4_fillLaydown_114 : decode cX4_fillLaydown 114 = .ok (.ishl, 1) := by decide +kernel
theorem dX4_fillLaydown_115 : decode cX4_fillLaydown 115 = .ok (.ior, 1) := by decide +kernel
theorem dX4_fillLaydown_116 : decode cX4_fillLaydown 116 = .ok (.iload 4, 2) := by decide +kernel
theorem dX4_fillLaydown_118 : decode cX4_fillLaydown 118 = .ok (.aload_n 0, 1) := by decide +kernel
theorem dX4_fillLaydown_119 : decode cX4_fillLaydown 119 = .ok (.getfield 15, 3) := by decide +kernel
theorem dX4_fillLaydown_122 : decode cX4_fillLaydown 122 = .ok (.iload 5, 2) := by decide +kernel
theorem dX4_fillLaydown_124 : decode cX4_fillLaydown 124 = .ok (.iaload, 1) := by decide +kernel
theorem dX4_fillLaydown_125 : decode cX4_fillLaydown 125 = .ok (.iadd, 1) := by decide +kernel
theorem dX4_fillLaydown_126 : decode cX4_fillLaydown 126 = .ok (.invokevirtual 55, 3) := by decide +kernel
theorem dX4_fillLaydown_129 : decode cX4_fillLaydown 129 = .ok (.ifCond .eq 5, 3) := by decide +kernel
theorem dX4_fillLaydown_132 : decode cX4_fillLaydown 132 = .ok (.iconst 1, 1) := by decide +kernel
theorem dX4_fillLaydown_133 : decode cX4_fillLaydown 133 = .ok (.ireturn, 1) := by decide +kernel
theorem dX4_fillLaydown_134 : decode cX4_fillLaydown 134 = .ok (.aload_n 0, 1) := by decide +kernel
theorem dX4_fillLaydown_135 : decode cX4_fillLaydown 135 = .ok (.getfield 45, 3) := by decide +kernel
theorem dX4_fillLaydown_138 : decode cX4_fillLaydown 138 = .ok (.ifCond .eq 5, 3) := by decide +kernel
theorem dX4_fillLaydown_141 : decode cX4_fillLaydown 141 = .ok (.iconst 0, 1) := by decide +kernel
theorem dX4_fillLaydown_142 : decode cX4_fillLaydown 142 = .ok (.ireturn, 1) := by decide +kernel
theorem dX4_fillLaydown_143 : decode cX4_fillLaydown 143 = .ok (.iinc 5 1, 3) := by decide +kernel
theorem dX4_fillLaydown_146 : decode cX4_fillLaydown 146 = .ok (.goto (-81), 3) := by decide +kernel
theorem dX4_fillLaydown_149 : decode cX4_fillLaydown 149 = .ok (.iconst 0, 1) := by decide +kernel
theorem dX4_fillLaydown_150 : decode cX4_fillLaydown 150 = .ok (.ireturn, 1) := by decide +kernel
theorem dX4_countTry_0 : decode cX4_countTry 0 = .ok (.aload_n 0, 1) := by decide +kernel
theorem dX4_countTry_1 : decode cX4_countTry 1 = .ok (.getfield 42, 3) := by decide +kernel
theorem dX4_countTry_4 : decode cX4_countTry 4 = .ok (.ldc 63, 2) := by decide +kernel
theorem dX4_countTry_6 : decode cX4_countTry 6 = .ok (.if_icmp .lt 10, 3) := by decide +kernel
theorem dX4_countTry_9 : decode cX4_countTry 9 = .ok (.aload_n 0, 1) := by decide +kernel
theorem dX4_countTry_10 : decode cX4_countTry 10 = .ok (.iconst 1, 1) := by decide +kernel
theorem dX4_countTry_11 : decode cX4_countTry 11 = .ok (.putfield 45, 3) := by decide +kernel
theorem dX4_countTry_14 : decode cX4_countTry 14 = .ok (.iconst 0, 1) := by decide +kernel
theorem dX4_countTry_15 : decode cX4_countTry 15 = .ok (.ireturn, 1) := by decide +kernel
theorem dX4_countTry_16 : decode cX4_countTry 16 = .ok (.aload_n 0, 1) := by decide +kernel
theorem dX4_countTry_17 : decode cX4_countTry 17 = .ok (.dup, 1) := by decide +kernel
theorem dX4_countTry_18 : decode cX4_countTry 18 = .ok (.getfield 42, 3) := by decide +kernel
theorem dX4_countTry_21 : decode cX4_countTry 21 = .ok (.iconst 1, 1) := by decide +kernel
theorem dX4_countTry_22 : decode cX4_countTry 22 = .ok (.iadd, 1) := by decide +kernel
theorem dX4_countTry_23 : decode cX4_countTry 23 = .ok (.putfield 42, 3) := by decide +kernel
theorem dX4_countTry_26 : decode cX4_countTry 26 = .ok (.iconst 1, 1) := by decide +kernel
theorem dX4_countTry_27 : decode cX4_countTry 27 = .ok (.ireturn, 1) := by decide +kernel
end
section
set_option maxRecDepth 20000 in
theorem ggX5_init_X1_init : GoodIn wsX5_init wsX1_init := goodIn_r _ [18, 19, 2, 3, 20, 21, 22, 23, 24, 25, 26, 27, 28, 29, 30, 31, 32, 33, 34, 35, 36, 37, 38, 39, 50, 51, 52, 53, 54, 69, 70, 71, 72, 73, 74, 75, 76] (by decide +kernel) (by decide +kernel)
set_option maxRecDepth 20000 in
theorem gX5_init_X1_init : GoodIn wsX5_init (wsX1_init) := ggX5_init_X1_init
set_option maxRecDepth 20000 in
theorem ggX5_init_X3_init : GoodIn wsX5_init wsX3_init := goodIn_r _ [41, 42, 2, 3, 38, 43, 58, 59] (by decide +kernel) (by decide +kernel)
set_option maxRecDepth 20000 in
theorem gX5_init_X3_init_n22 : GoodIn wsX5_init (wsX3_init) := ggX5_init_X3_init
set_option maxRecDepth 20000 in
theorem ggX5_init_X4_init : GoodIn wsX5_init wsX4_init := goodIn_r _ [45, 46, 2, 3, 47, 38, 48, 49, 60, 61, 62, 63, 64, 65, 66, 67, 68] (by decide +kernel) (by decide +kernel)
set_option maxRecDepth 20000 in
theorem gX5_init_X4_init_n25 : GoodIn wsX5_init (wsX4_init) := ggX5_init_X4_init
theorem dX5_init_0 : decode cX5_init 0 = .ok (.aload_n 0, 1) := by decide +kernel
theorem dX5_init_1 : decode cX5_init 1 = .ok (.invokespecial 1, 3) := by decide +kernel
theorem dX5_init_4 : decode cX5_init 4 = .ok (.aload_n 0, 1) := by decide +kernel
theorem dX5_init_5 : decode cX5_init 5 = .ok (.new 7, 3) := by decide +kernel
theorem dX5_init_8 : decode cX5_init 8 = .ok (.dup, 1) := by decide +kernel
theorem dX5_init_9 : decode cX5_init 9 = .ok (.invokespecial 9, 3) := by decide +kernel
theorem dX5_init_12 : decode cX5_init 12 = .ok (.putfield 10, 3) := by decide +kernel
theorem dX5_init_15 : decode cX5_init 15 = .ok (.aload_n 0, 1) := by decide +kernel
theorem dX5_init_16 : decode cX5_init 16 = .ok (.bipush 8, 2) := by decide +kernel
theorem dX5_init_18 : decode cX5_init 18 = .ok (.anewarray 16, 3) := by decide +kernel
theorem dX5_init_21 : decode cX5_init 21 = .ok (.putfield 18, 3) := by decide +kernel
theorem dX5_init_24 : decode cX5_init 24 = .ok (.iconst 0, 1) := by decide +kernel
theorem dX5_init_25 : decode cX5_init 25 = .ok (.istore_n 1, 1) := by decide +kernel
theorem dX5_init_26 : decode cX5_init 26 = .ok (.iload_n 1, 1) := by decide +kernel
theorem dX5_init_27 : decode cX5_init 27 = .ok (.bipush 8, 2) := by decide +kernel
theorem dX5_init_29 : decode cX5_init 29 = .ok (.if_icmp .ge 22, 3) := by decide +kernel
theorem dX5_init_32 : decode cX5_init 32 = .ok (.aload_n 0, 1) := by decide +kernel
theorem dX5_init_33 : decode cX5_init 33 = .ok (.getfield 18, 3) := by decide +kernel
theorem dX5_init_36 : decode cX5_init 36 = .ok (.iload_n 1, 1) := by decide +kernel
theorem dX5_init_37 : decode cX5_init 37 = .ok (.new 16, 3) := by decide +kernel
theorem dX5_init_40 : decode cX5_init 40 = .ok (.dup, 1) := by decide +kernel
theorem dX5_init_41 : decode cX5_init 41 = .ok (.invokespecial 22, 3) := by decide +kernel
theorem dX5_init_44 : decode cX5_init 44 = .ok (.aastore, 1) := by decide +kernel
theorem dX5_init_45 : decode cX5_init 45 = .ok (.iinc 1 1, 3) := by decide +kernel
theorem dX5_init_48 : decode cX5_init 48 = .ok (.goto (-22), 3) := by decide +kernel
theorem dX5_init_51 : decode cX5_init 51 = .ok (.aload_n 0, 1) := by decide +kernel
theorem dX5_init_52 : decode cX5_init 52 = .ok (.new 23, 3) := by decide +kernel
theorem dX5_init_55 : decode cX5_init 55 = .ok (.dup, 1) := by decide +kernel
theorem dX5_init_56 : decode cX5_init 56 = .ok (.invokespecial 25, 3) := by decide +kernel
theorem dX5_init_59 : decode cX5_init 59 = .ok (.putfield 26, 3) := by decide +kernel
theorem dX5_init_62 : decode cX5_init 62 = .ok (.return_, 1) := by decide +kernel
set_option maxRecDepth 20000 in
theorem ggX5_count_X1_setFirst : GoodIn wsX5_count wsX1_setFirst := goodIn_r _ [6, 7, 8, 9, 10, 11, 12, 16, 17, 18, 19, 20] (by decide +kernel) (by decide +kernel)
set_option maxRecDepth 20000 in
theorem gX5_count_X1_setFirst : GoodIn wsX5_count (wsV RX5 30 RX1 yX1_setFirst wsX1_setFirst) := goodIn_app (goodIn_of _ (by decide +kernel)) ggX5_count_X1_setFirst
theorem dX5_count_0 : decode cX5_count 0 = .ok (.aload_n 0, 1) := by decide +kernel
theorem dX5_count_1 : decode cX5_count 1 = .ok (.getfield 10, 3) := by decide +kernel
theorem dX5_count_4 : decode cX5_count 4 = .ok (.iload_n 1, 1) := by decide +kernel
theorem dX5_count_5 : decode cX5_count 5 = .ok (.iload_n 2, 1) := by decide +kernel
theorem dX5_count_6 : decode cX5_count 6 = .ok (.invokevirtual 30, 3) := by decide +kernel
theorem dX5_count_9 : decode cX5_count 9 = .ok (.ireturn, 1) := by decide +kernel
set_option maxRecDepth 20000 in
theorem ggX5_machine_X1_addMachine : GoodIn wsX5_machine wsX1_addMachine := goodIn_r _ [6, 7, 8, 9, 10, 11, 12, 13, 14, 15, 16, 17, 18, 19, 20, 24, 25, 26, 27, 28, 29, 30, 31, 32, 33, 34] (by decide +kernel) (by decide +kernel)
set_option maxRecDepth 20000 in
theorem gX5_machine_X1_addMachine : GoodIn wsX5_machine (wsV RX5 34 RX1 yX1_addMachine wsX1_addMachine) := goodIn_app (goodIn_of _ (by decide +kernel)) ggX5_machine_X1_addMachine
theorem dX5_machine_0 : decode cX5_machine 0 = .ok (.aload_n 0, 1) := by decide +kernel
theorem dX5_machine_1 : decode cX5_machine 1 = .ok (.getfield 10, 3) := by decide +kernel
theorem dX5_machine_4 : decode cX5_machine 4 = .ok (.iload_n 1, 1) := by decide +kernel
theorem dX5_machine_5 : decode cX5_machine 5 = .ok (.iload_n 2, 1) := by decide +kernel
theorem dX5_machine_6 : decode cX5_machine 6 = .ok (.iload_n 3, 1) := by decide +kernel
theorem dX5_machine_7 : decode cX5_machine 7 = .ok (.iload 4, 2) := by decide +kernel
theorem dX5_machine_9 : decode cX5_machine 9 = .ok (.invokevirtual 34, 3) := by decide +kernel
theorem dX5_machine_12 : decode cX5_machine 12 = .ok (.ireturn, 1) := by decide +kernel
set_option maxRecDepth 20000 in
theorem ggX5_roller_X1_addRoller : GoodIn wsX5_roller wsX1_addRoller := goodIn_r _ [6, 7, 8, 9, 10, 11, 12, 13, 14, 18, 19, 20, 21, 22, 23, 24, 25, 26, 27, 28] (by decide +kernel) (by decide +kernel)
set_option maxRecDepth 20000 in
theorem gX5_roller_X1_addRoller : GoodIn wsX5_roller (wsV RX5 38 RX1 yX1_addRoller wsX1_addRoller) := goodIn_app (goodIn_of _ (by decide +kernel)) ggX5_roller_X1_addRoller
theorem dX5_roller_0 : decode cX5_roller 0 = .ok (.aload_n 0, 1) := by decide +kernel
theorem dX5_roller_1 : decode cX5_roller 1 = .ok (.getfield 10, 3) := by decide +kernel
theorem dX5_roller_4 : decode cX5_roller 4 = .ok (.iload_n 1, 1) := by decide +kernel
theorem dX5_roller_5 : decode cX5_roller 5 = .ok (.iload_n 2, 1) := by decide +kernel
theorem dX5_roller_6 : decode cX5_roller 6 = .ok (.invokevirtual 38, 3) := by decide +kernel
theorem dX5_roller_9 : decode cX5_roller 9 = .ok (.ireturn, 1) := by decide +kernel
set_option maxRecDepth 20000 in
theorem ggX5_clear_X1_removeAll : GoodIn wsX5_clear wsX1_removeAll := goodIn_r _ [6, 7, 11, 12, 13, 14, 15] (by decide +kernel) (by decide +kernel)
set_option maxRecDepth 20000 in
theorem gX5_clear_X1_removeAll : GoodIn wsX5_clear (wsV RX5 41 RX1 yX1_removeAll wsX1_removeAll) := goodIn_app (goodIn_of _ (by decide +kernel)) ggX5_clear_X1_removeAll
theorem dX5_clear_0 : decode cX5_clear 0 = .ok (.aload_n 0, 1) := by decide +kernel
theorem dX5_clear_1 : decode cX5_clear 1 = .ok (.getfield 10, 3) := by decide +kernel
theorem dX5_clear_4 : decode cX5_clear 4 = .ok (.invokevirtual 41, 3) := by decide +kernel
theorem dX5_clear_7 : decode cX5_clear 7 = .ok (.ireturn, 1) := by decide +kernel
set_option maxRecDepth 20000 in
theorem ggX5_countAt_X1_tellCount : GoodIn wsX5_countAt wsX1_tellCount := goodIn_r _ [6, 7, 8, 9, 10, 11, 12, 13, 14, 15, 5, 16, 17, 18, 19, 20, 21, 22, 23, 24, 25, 26, 27, 28, 29, 30, 31, 32, 33, 34, 35, 36, 37, 38, 39, 40, 41, 42, 43, 44, 45, 46, 47, 48, 49, 50, 51, 55, 56, 57, 58, 59, 60, 61, 62, 63, 64, 65, 66, 67] (by decide +kernel) (by decide +kernel)
set_option maxRecDepth 20000 in
theorem gX5_countAt_X1_tellCount : GoodIn wsX5_countAt (wsV RX5 45 RX1 yX1_tellCount wsX1_tellCount) := goodIn_app (goodIn_of _ (by decide +kernel)) ggX5_countAt_X1_tellCount
theorem dX5_countAt_0 : decode cX5_countAt 0 = .ok (.aload_n 0, 1) := by decide +kernel
theorem dX5_countAt_1 : decode cX5_countAt 1 = .ok (.getfield 10, 3) := by decide +kernel
theorem dX5_countAt_4 : decode cX5_countAt 4 = .ok (.iload_n 1, 1) := by decide +kernel
theorem dX5_countAt_5 : decode cX5_countAt 5 = .ok (.iload_n 2, 1) := by decide +kernel
theorem dX5_countAt_6 : decode cX5_countAt 6 = .ok (.invokevirtual 45, 3) := by decide +kernel
theorem dX5_countAt_9 : decode cX5_countAt 9 = .ok (.lreturn, 1) := by decide +kernel
set_option maxRecDepth 20000 in
theorem ggX5_period_X1_tellPeriod : GoodIn wsX5_period wsX1_tellPeriod := goodIn_r _ [6, 7, 8, 9, 10, 11, 12, 13, 14, 15, 16, 5, 17, 18, 19, 20, 21, 22, 23, 24, 25, 26, 27, 28, 29, 30, 31, 32, 33, 34, 35, 36, 37, 38, 39, 40, 41, 42, 43, 44, 45, 46, 50, 51, 52, 53, 54, 55, 56, 57, 58, 59, 60, 61, 62] (by decide +kernel) (by decide +kernel)
set_option maxRecDepth 20000 in
theorem gX5_period_X1_tellPeriod : GoodIn wsX5_period (wsV RX5 49 RX1 yX1_tellPeriod wsX1_tellPeriod) := goodIn_app (goodIn_of _ (by decide +kernel)) ggX5_period_X1_tellPeriod
theorem dX5_period_0 : decode cX5_period 0 = .ok (.aload_n 0, 1) := by decide +kernel
theorem dX5_period_1 : decode cX5_period 1 = .ok (.getfield 10, 3) := by decide +kernel
theorem dX5_period_4 : decode cX5_period 4 = .ok (.iload_n 1, 1) := by decide +kernel
theorem dX5_period_5 : decode cX5_period 5 = .ok (.iload_n 2, 1) := by decide +kernel
theorem dX5_period_6 : decode cX5_period 6 = .ok (.iload_n 3, 1) := by decide +kernel
theorem dX5_period_7 : decode cX5_period 7 = .ok (.invokevirtual 49, 3) := by decide +kernel
theorem dX5_period_10 : decode cX5_period 10 = .ok (.lreturn, 1) := by decide +kernel
set_option maxRecDepth 20000 in
theorem ggX5_names_X1_findNear : GoodIn wsX5_names wsX1_findNear := goodIn_r _ [6, 7, 8, 9, 10, 11, 12, 13, 14, 15, 16, 17, 5, 18, 19, 20, 21, 22, 23, 24, 25, 26, 27, 28, 29, 30, 31, 32, 33, 34, 35, 36, 37, 38, 39, 40, 41, 42, 43, 44, 45, 46, 47, 48, 52, 53, 54, 55, 56, 57, 58, 59, 60, 61, 62, 63, 64] (by decide +kernel) (by decide +kernel)
set_option maxRecDepth 20000 in
theorem gX5_names_X1_findNear : GoodIn wsX5_names (wsV RX5 53 RX1 yX1_findNear wsX1_findNear) := goodIn_app (goodIn_of _ (by decide +kernel)) ggX5_names_X1_findNear
theorem dX5_names_0 : decode cX5_names 0 = .ok (.aload_n 0, 1) := by decide +kernel
theorem dX5_names_1 : decode cX5_names 1 = .ok (.getfield 10, 3) := by decide +kernel
theorem dX5_names_4 : decode cX5_names 4 = .ok (.iload_n 1, 1) := by decide +kernel
theorem dX5_names_5 : decode cX5_names 5 = .ok (.iload_n 2, 1) := by decide +kernel
theorem dX5_names_6 : decode cX5_names 6 = .ok (.iload_n 3, 1) := by decide +kernel
theorem dX5_names_7 : decode cX5_names 7 = .ok (.invokevirtual 53, 3) := by decide +kernel
theorem dX5_names_10 : decode cX5_names 10 = .ok (.ireturn, 1) := by decide +kernel
set_option maxRecDepth 20000 in
theorem ggX5_cell_X5_rowOrNull : GoodIn wsX5_cell wsX5_rowOrNull := goodIn_r _ [5, 6, 7, 8, 9, 4, 10, 19, 20, 21] (by decide +kernel) (by decide +kernel)
set_option maxRecDepth 20000 in
theorem gX5_cell_X5_rowOrNull : GoodIn wsX5_cell (wsV RX5 57 RX5 yX5_rowOrNull wsX5_rowOrNull) := goodIn_app (goodIn_of _ (by decide +kernel)) ggX5_cell_X5_rowOrNull
set_option maxRecDepth 20000 in
theorem ggX5_cell_X3_addCell : GoodIn wsX5_cell wsX3_addCell := goodIn_r _ [15, 16, 17, 18, 9, 4, 10, 22, 23] (by decide +kernel) (by decide +kernel)
set_option maxRecDepth 20000 in
theorem gX5_cell_X3_addCell : GoodIn wsX5_cell (wsV RX5 61 RX3 yX3_addCell wsX3_addCell) := goodIn_app (goodIn_of _ (by decide +kernel)) ggX5_cell_X3_addCell
theorem dX5_cell_0 : decode cX5_cell 0 = .ok (.aload_n 0, 1) := by decide +kernel
theorem dX5_cell_1 : decode cX5_cell 1 = .ok (.iload_n 1, 1) := by decide +kernel
theorem dX5_cell_2 : decode cX5_cell 2 = .ok (.invokevirtual 57, 3) := by decide +kernel
theorem dX5_cell_5 : decode cX5_cell 5 = .ok (.astore_n 3, 1) := by decide +kernel
theorem dX5_cell_6 : decode cX5_cell 6 = .ok (.aload_n 3, 1) := by decide +kernel
theorem dX5_cell_7 : decode cX5_cell 7 = .ok (.ifnonnull 8, 3) := by decide +kernel
theorem dX5_cell_10 : decode cX5_cell 10 = .ok (.bipush (-2), 2) := by decide +kernel
theorem dX5_cell_12 : decode cX5_cell 12 = .ok (.goto 8, 3) := by decide +kernel
theorem dX5_cell_15 : decode cX5_cell 15 = .ok (.aload_n 3, 1) := by decide +kernel
theorem dX5_cell_16 : decode cX5_cell 16 = .ok (.iload_n 2, 1) := by decide +kernel
theorem dX5_cell_17 : decode cX5_cell 17 = .ok (.invokevirtual 61, 3) := by decide +kernel
theorem dX5_cell_20 : decode cX5_cell 20 = .ok (.ireturn, 1) := by decide +kernel
set_option maxRecDepth 20000 in
theorem ggX5_draw_X5_rowOrNull : GoodIn wsX5_draw wsX5_rowOrNull := goodIn_r _ [5, 6, 7, 8, 9, 4, 10, 23, 24, 25] (by decide +kernel) (by decide +kernel)
set_option maxRecDepth 20000 in
theorem gX5_draw_X5_rowOrNull : GoodIn wsX5_draw (wsV RX5 57 RX5 yX5_rowOrNull wsX5_rowOrNull) := goodIn_app (goodIn_of _ (by decide +kernel)) ggX5_draw_X5_rowOrNull
set_option maxRecDepth 20000 in
theorem ggX5_draw_X3_addDrawn : GoodIn wsX5_draw wsX3_addDrawn := goodIn_r _ [15, 16, 17, 18, 19, 20, 21, 22, 9, 4, 10, 26, 27] (by decide +kernel) (by decide +kernel)
set_option maxRecDepth 20000 in
theorem gX5_draw_X3_addDrawn : GoodIn wsX5_draw (wsV RX5 65 RX3 yX3_addDrawn wsX3_addDrawn) := goodIn_app (goodIn_of _ (by decide +kernel)) ggX5_draw_X3_addDrawn
theorem dX5_draw_0 : decode cX5_draw 0 = .ok (.aload_n 0, 1) := by decide +kernel
theorem dX5_draw_1 : decode cX5_draw 1 = .ok (.iload_n 1, 1) := by decide +kernel
theorem dX5_draw_2 : decode cX5_draw 2 = .ok (.invokevirtual 57, 3) := by decide +kernel
theorem dX5_draw_5 : decode cX5_draw 5 = .ok (.astore 6, 2) := by decide +kernel
theorem dX5_draw_7 : decode cX5_draw 7 = .ok (.aload 6, 2) := by decide +kernel
theorem dX5_draw_9 : decode cX5_draw 9 = .ok (.ifnonnull 8, 3) := by decide +kernel
theorem dX5_draw_12 : decode cX5_draw 12 = .ok (.bipush (-2), 2) := by decide +kernel
theorem dX5_draw_14 : decode cX5_draw 14 = .ok (.goto 14, 3) := by decide +kernel
theorem dX5_draw_17 : decode cX5_draw 17 = .ok (.aload 6, 2) := by decide +kernel
theorem dX5_draw_19 : decode cX5_draw 19 = .ok (.iload_n 2, 1) := by decide +kernel
theorem dX5_draw_20 : decode cX5_draw 20 = .ok (.iload_n 3, 1) := by decide +kernel
theorem dX5_draw_21 : decode cX5_draw 21 = .ok (.iload 4, 2) := by decide +kernel
theorem dX5_draw_23 : decode cX5_draw 23 = .ok (.iload 5, 2) := by decide +kernel
theorem dX5_draw_25 : decode cX5_draw 25 = .ok (.invokevirtual 65, 3) := by decide +kernel
theorem dX5_draw_28 : decode cX5_draw 28 = .ok (.ireturn, 1) := by decide +kernel
set_option maxRecDepth 20000 in
theorem ggX5_empty_X5_rowOrNull : GoodIn wsX5_empty wsX5_rowOrNull := goodIn_r _ [5, 6, 7, 8, 9, 4, 10, 17, 18, 19] (by decide +kernel) (by decide +kernel)
set_option maxRecDepth 20000 in
theorem gX5_empty_X5_rowOrNull : GoodIn wsX5_empty (wsV RX5 57 RX5 yX5_rowOrNull wsX5_rowOrNull) := goodIn_app (goodIn_of _ (by decide +kernel)) ggX5_empty_X5_rowOrNull
set_option maxRecDepth 20000 in
theorem ggX5_empty_X3_removeAll : GoodIn wsX5_empty wsX3_removeAll := goodIn_r _ [15, 16, 20, 21] (by decide +kernel) (by decide +kernel)
set_option maxRecDepth 20000 in
theorem gX5_empty_X3_removeAll : GoodIn wsX5_empty (wsV RX5 68 RX3 yX3_removeAll wsX3_removeAll) := goodIn_app (goodIn_of _ (by decide +kernel)) ggX5_empty_X3_removeAll
theorem dX5_empty_0 : decode cX5_empty 0 = .ok (.aload_n 0, 1) := by decide +kernel
theorem dX5_empty_1 : decode cX5_empty 1 = .ok (.iload_n 1, 1) := by decide +kernel
theorem dX5_empty_2 : decode cX5_empty 2 = .ok (.invokevirtual 57, 3) := by decide +kernel
theorem dX5_empty_5 : decode cX5_empty 5 = .ok (.astore_n 2, 1) := by decide +kernel
theorem dX5_empty_6 : decode cX5_empty 6 = .ok (.aload_n 2, 1) := by decide +kernel
theorem dX5_empty_7 : decode cX5_empty 7 = .ok (.ifnonnull 8, 3) := by decide +kernel
theorem dX5_empty_10 : decode cX5_empty 10 = .ok (.bipush (-2), 2) := by decide +kernel
theorem dX5_empty_12 : decode cX5_empty 12 = .ok (.goto 7, 3) := by decide +kernel
theorem dX5_empty_15 : decode cX5_empty 15 = .ok (.aload_n 2, 1) := by decide +kernel
theorem dX5_empty_16 : decode cX5_empty 16 = .ok (.invokevirtual 68, 3) := by decide +kernel
theorem dX5_empty_19 : decode cX5_empty 19 = .ok (.ireturn, 1) := by decide +kernel
set_option maxRecDepth 20000 in
theorem ggX5_at_X5_rowOrNull : GoodIn wsX5_at wsX5_rowOrNull := goodIn_r _ [5, 6, 7, 8, 9, 4, 10, 18, 19, 20] (by decide +kernel) (by decide +kernel)
set_option maxRecDepth 20000 in
theorem gX5_at_X5_rowOrNull : GoodIn wsX5_at (wsV RX5 57 RX5 yX5_rowOrNull wsX5_rowOrNull) := goodIn_app (goodIn_of _ (by decide +kernel)) ggX5_at_X5_rowOrNull
set_option maxRecDepth 20000 in
theorem ggX5_at_X3_massAt : GoodIn wsX5_at wsX3_massAt := goodIn_r _ [15, 16, 17, 9, 4, 10, 21, 22] (by decide +kernel) (by decide +kernel)
set_option maxRecDepth 20000 in
theorem gX5_at_X3_massAt : GoodIn wsX5_at (wsV RX5 69 RX3 yX3_massAt wsX3_massAt) := goodIn_app (goodIn_of _ (by decide +kernel)) ggX5_at_X3_massAt
theorem dX5_at_0 : decode cX5_at 0 = .ok (.aload_n 0, 1) := by decide +kernel
theorem dX5_at_1 : decode cX5_at 1 = .ok (.iload_n 1, 1) := by decide +kernel
theorem dX5_at_2 : decode cX5_at 2 = .ok (.invokevirtual 57, 3) := by decide +kernel
theorem dX5_at_5 : decode cX5_at 5 = .ok (.astore_n 3, 1) := by decide +kernel
theorem dX5_at_6 : decode cX5_at 6 = .ok (.aload_n 3, 1) := by decide +kernel
theorem dX5_at_7 : decode cX5_at 7 = .ok (.ifnonnull 8, 3) := by decide +kernel
theorem dX5_at_10 : decode cX5_at 10 = .ok (.bipush (-2), 2) := by decide +kernel
theorem dX5_at_12 : decode cX5_at 12 = .ok (.goto 8, 3) := by decide +kernel
theorem dX5_at_15 : decode cX5_at 15 = .ok (.aload_n 3, 1) := by decide +kernel
theorem dX5_at_16 : decode cX5_at 16 = .ok (.iload_n 2, 1) := by decide +kernel
theorem dX5_at_17 : decode cX5_at 17 = .ok (.invokevirtual 69, 3) := by decide +kernel
theorem dX5_at_20 : decode cX5_at 20 = .ok (.ireturn, 1) := by decide +kernel
set_option maxRecDepth 20000 in
theorem ggX5_join_X5_rowOrNull : GoodIn wsX5_join wsX5_rowOrNull := goodIn_r _ [5, 6, 7, 8, 9, 4, 10, 19, 20, 21] (by decide +kernel) (by decide +kernel)
set_option maxRecDepth 20000 in
theorem gX5_join_X5_rowOrNull : GoodIn wsX5_join (wsV RX5 57 RX5 yX5_rowOrNull wsX5_rowOrNull) := goodIn_app (goodIn_of _ (by decide +kernel)) ggX5_join_X5_rowOrNull
set_option maxRecDepth 20000 in
theorem ggX5_join_X3_addRow : GoodIn wsX5_join wsX3_addRow := goodIn_r _ [15, 16, 17, 18, 22, 23] (by decide +kernel) (by decide +kernel)
set_option maxRecDepth 20000 in
theorem gX5_join_X3_addRow : GoodIn wsX5_join (wsV RX5 72 RX3 yX3_addRow wsX3_addRow) := goodIn_app (goodIn_of _ (by decide +kernel)) ggX5_join_X3_addRow
theorem dX5_join_0 : decode cX5_join 0 = .ok (.aload_n 0, 1) := by decide +kernel
theorem dX5_join_1 : decode cX5_join 1 = .ok (.iload_n 1, 1) := by decide +kernel
theorem dX5_join_2 : decode cX5_join 2 = .ok (.invokevirtual 57, 3) := by decide +kernel
theorem dX5_join_5 : decode cX5_join 5 = .ok (.astore_n 3, 1) := by decide +kernel
theorem dX5_join_6 : decode cX5_join 6 = .ok (.aload_n 0, 1) := by decide +kernel
theorem dX5_join_7 : decode cX5_join 7 = .ok (.iload_n 2, 1) := by decide +kernel
theorem dX5_join_8 : decode cX5_join 8 = .ok (.invokevirtual 57, 3) := by decide +kernel
theorem dX5_join_11 : decode cX5_join 11 = .ok (.astore 4, 2) := by decide +kernel
theorem dX5_join_13 : decode cX5_join 13 = .ok (.aload_n 3, 1) := by decide +kernel
theorem dX5_join_14 : decode cX5_join 14 = .ok (.ifnull 8, 3) := by decide +kernel
theorem dX5_join_17 : decode cX5_join 17 = .ok (.aload 4, 2) := by decide +kernel
theorem dX5_join_19 : decode cX5_join 19 = .ok (.ifnonnull 6, 3) := by decide +kernel
theorem dX5_join_22 : decode cX5_join 22 = .ok (.bipush (-2), 2) := by decide +kernel
theorem dX5_join_24 : decode cX5_join 24 = .ok (.ireturn, 1) := by decide +kernel
theorem dX5_join_25 : decode cX5_join 25 = .ok (.iload_n 1, 1) := by decide +kernel
theorem dX5_join_26 : decode cX5_join 26 = .ok (.iload_n 2, 1) := by decide +kernel
theorem dX5_join_27 : decode cX5_join 27 = .ok (.if_icmp .ne 8, 3) := by decide +kernel
theorem dX5_join_30 : decode cX5_join 30 = .ok (.bipush (-3), 2) := by decide +kernel
theorem dX5_join_32 : decode cX5_join 32 = .ok (.goto 9, 3) := by decide +kernel
theorem dX5_join_35 : decode cX5_join 35 = .ok (.aload_n 3, 1) := by decide +kernel
theorem dX5_join_36 : decode cX5_join 36 = .ok (.aload 4, 2) := by decide +kernel
theorem dX5_join_38 : decode cX5_join 38 = .ok (.invokevirtual 72, 3) := by decide +kernel
theorem dX5_join_41 : decode cX5_join 41 = .ok (.ireturn, 1) := by decide +kernel
set_option maxRecDepth 20000 in
theorem ggX5_stretch_X5_rowOrNull : GoodIn wsX5_stretch wsX5_rowOrNull := goodIn_r _ [5, 6, 7, 8, 9, 4, 10, 20, 21, 22] (by decide +kernel) (by decide +kernel)
set_option maxRecDepth 20000 in
theorem gX5_stretch_X5_rowOrNull : GoodIn wsX5_stretch (wsV RX5 57 RX5 yX5_rowOrNull wsX5_rowOrNull) := goodIn_app (goodIn_of _ (by decide +kernel)) ggX5_stretch_X5_rowOrNull
set_option maxRecDepth 20000 in
theorem ggX5_stretch_X3_stretchBy : GoodIn wsX5_stretch wsX3_stretchBy := goodIn_r _ [15, 16, 17, 18, 19, 9, 4, 10, 23, 24] (by decide +kernel) (by decide +kernel)
set_option maxRecDepth 20000 in
theorem gX5_stretch_X3_stretchBy : GoodIn wsX5_stretch (wsV RX5 76 RX3 yX3_stretchBy wsX3_stretchBy) := goodIn_app (goodIn_of _ (by decide +kernel)) ggX5_stretch_X3_stretchBy
theorem dX5_stretch_0 : decode cX5_stretch 0 = .ok (.aload_n 0, 1) := by decide +kernel
theorem dX5_stretch_1 : decode cX5_stretch 1 = .ok (.iload_n 1, 1) := by decide +kernel
theorem dX5_stretch_2 : decode cX5_stretch 2 = .ok (.invokevirtual 57, 3) := by decide +kernel
theorem dX5_stretch_5 : decode cX5_stretch 5 = .ok (.astore_n 3, 1) := by decide +kernel
theorem dX5_stretch_6 : decode cX5_stretch 6 = .ok (.aload_n 3, 1) := by decide +kernel
theorem dX5_stretch_7 : decode cX5_stretch 7 = .ok (.ifnonnull 8, 3) := by decide +kernel
theorem dX5_stretch_10 : decode cX5_stretch 10 = .ok (.bipush (-2), 2) := by decide +kernel
theorem dX5_stretch_12 : decode cX5_stretch 12 = .ok (.goto 8, 3) := by decide +kernel
theorem dX5_stretch_15 : decode cX5_stretch 15 = .ok (.aload_n 3, 1) := by decide +kernel
theorem dX5_stretch_16 : decode cX5_stretch 16 = .ok (.iload_n 2, 1) := by decide +kernel
theorem dX5_stretch_17 : decode cX5_stretch 17 = .ok (.invokevirtual 76, 3) := by decide +kernel
theorem dX5_stretch_20 : decode cX5_stretch 20 = .ok (.ireturn, 1) := by decide +kernel
set_option maxRecDepth 20000 in
theorem ggX5_gather_X5_rowOrNull : GoodIn wsX5_gather wsX5_rowOrNull := goodIn_r _ [5, 6, 7, 8, 9, 4, 10, 29, 30, 31] (by decide +kernel) (by decide +kernel)
set_option maxRecDepth 20000 in
theorem gX5_gather_X5_rowOrNull : GoodIn wsX5_gather (wsV RX5 57 RX5 yX5_rowOrNull wsX5_rowOrNull) := goodIn_app (goodIn_of _ (by decide +kernel)) ggX5_gather_X5_rowOrNull
set_option maxRecDepth 20000 in
theorem ggX5_gather_X3_gatherBy : GoodIn wsX5_gather wsX3_gatherBy := goodIn_r _ [15, 16, 17, 18, 19, 20, 9, 4, 10, 21, 22, 23, 14, 24, 25, 26, 27, 28, 32, 33] (by decide +kernel) (by decide +kernel)
set_option maxRecDepth 20000 in
theorem gX5_gather_X3_gatherBy : GoodIn wsX5_gather (wsV RX5 79 RX3 yX3_gatherBy wsX3_gatherBy) := goodIn_app (goodIn_of _ (by decide +kernel)) ggX5_gather_X3_gatherBy
theorem dX5_gather_0 : decode cX5_gather 0 = .ok (.aload_n 0, 1) := by decide +kernel
theorem dX5_gather_1 : decode cX5_gather 1 = .ok (.iload_n 1, 1) := by decide +kernel
theorem dX5_gather_2 : decode cX5_gather 2 = .ok (.invokevirtual 57, 3) := by decide +kernel
theorem dX5_gather_5 : decode cX5_gather 5 = .ok (.astore_n 3, 1) := by decide +kernel
theorem dX5_gather_6 : decode cX5_gather 6 = .ok (.aload_n 3, 1) := by decide +kernel
theorem dX5_gather_7 : decode cX5_gather 7 = .ok (.ifnonnull 8, 3) := by decide +kernel
theorem dX5_gather_10 : decode cX5_gather 10 = .ok (.bipush (-2), 2) := by decide +kernel
theorem dX5_gather_12 : decode cX5_gather 12 = .ok (.goto 8, 3) := by decide +kernel
theorem dX5_gather_15 : decode cX5_gather 15 = .ok (.aload_n 3, 1) := by decide +kernel
theorem dX5_gather_16 : decode cX5_gather 16 = .ok (.iload_n 2, 1) := by decide +kernel
theorem dX5_gather_17 : decode cX5_gather 17 = .ok (.invokevirtual 79, 3) := by decide +kernel
theorem dX5_gather_20 : decode cX5_gather 20 = .ok (.ireturn, 1) := by decide +kernel
set_option maxRecDepth 20000 in
theorem ggX5_fault_X5_rowOrNull : GoodIn wsX5_fault wsX5_rowOrNull := goodIn_r _ [5, 6, 7, 8, 9, 4, 10, 26, 27, 28] (by decide +kernel) (by decide +kernel)
set_option maxRecDepth 20000 in
theorem gX5_fault_X5_rowOrNull : GoodIn wsX5_fault (wsV RX5 57 RX5 yX5_rowOrNull wsX5_rowOrNull) := goodIn_app (goodIn_of _ (by decide +kernel)) ggX5_fault_X5_rowOrNull
set_option maxRecDepth 20000 in
theorem ggX5_fault_X3_faultBy : GoodIn wsX5_fault wsX3_faultBy := goodIn_r _ [15, 16, 17, 18, 19, 20, 21, 9, 4, 10, 22, 23, 24, 14, 25, 29, 30] (by decide +kernel) (by decide +kernel)
set_option maxRecDepth 20000 in
theorem gX5_fault_X3_faultBy : GoodIn wsX5_fault (wsV RX5 82 RX3 yX3_faultBy wsX3_faultBy) := goodIn_app (goodIn_of _ (by decide +kernel)) ggX5_fault_X3_faultBy
theorem dX5_fault_0 : decode cX5_fault 0 = .ok (.aload_n 0, 1) := by decide +kernel
theorem dX5_fault_1 : decode cX5_fault 1 = .ok (.iload_n 1, 1) := by decide +kernel
theorem dX5_fault_2 : decode cX5_fault 2 = .ok (.invokevirtual 57, 3) := by decide +kernel
theorem dX5_fault_5 : decode cX5_fault 5 = .ok (.astore 4, 2) := by decide +kernel
theorem dX5_fault_7 : decode cX5_fault 7 = .ok (.aload 4, 2) := by decide +kernel
theorem dX5_fault_9 : decode cX5_fault 9 = .ok (.ifnonnull 8, 3) := by decide +kernel
theorem dX5_fault_12 : decode cX5_fault 12 = .ok (.bipush (-2), 2) := by decide +kernel
theorem dX5_fault_14 : decode cX5_fault 14 = .ok (.goto 10, 3) := by decide +kernel
theorem dX5_fault_17 : decode cX5_fault 17 = .ok (.aload 4, 2) := by decide +kernel
theorem dX5_fault_19 : decode cX5_fault 19 = .ok (.iload_n 2, 1) := by decide +kernel
theorem dX5_fault_20 : decode cX5_fault 20 = .ok (.iload_n 3, 1) := by decide +kernel
theorem dX5_fault_21 : decode cX5_fault 21 = .ok (.invokevirtual 82, 3) := by decide +kernel
theorem dX5_fault_24 : decode cX5_fault 24 = .ok (.ireturn, 1) := by decide +kernel
set_option maxRecDepth 20000 in
theorem ggX5_about_X5_rowOrNull : GoodIn wsX5_about wsX5_rowOrNull := goodIn_r _ [6, 7, 8, 9, 10, 5, 11, 32, 33, 34] (by decide +kernel) (by decide +kernel)
set_option maxRecDepth 20000 in
theorem gX5_about_X5_rowOrNull : GoodIn wsX5_about (wsV RX5 57 RX5 yX5_rowOrNull wsX5_rowOrNull) := goodIn_app (goodIn_of _ (by decide +kernel)) ggX5_about_X5_rowOrNull
set_option maxRecDepth 20000 in
theorem ggX5_about_X3_measure : GoodIn wsX5_about wsX3_measure := goodIn_r _ [16, 17, 18, 19, 20, 21, 15, 22, 23, 24, 25, 26, 27, 28, 29, 30, 31, 35, 36] (by decide +kernel) (by decide +kernel)
set_option maxRecDepth 20000 in
theorem gX5_about_X3_measure : GoodIn wsX5_about (wsV RX5 87 RX3 yX3_measure wsX3_measure) := goodIn_app (goodIn_of _ (by decide +kernel)) ggX5_about_X3_measure
theorem dX5_about_0 : decode cX5_about 0 = .ok (.aload_n 0, 1) := by decide +kernel
theorem dX5_about_1 : decode cX5_about 1 = .ok (.iload_n 1, 1) := by decide +kernel
theorem dX5_about_2 : decode cX5_about 2 = .ok (.invokevirtual 57, 3) := by decide +kernel
theorem dX5_about_5 : decode cX5_about 5 = .ok (.astore_n 3, 1) := by decide +kernel
theorem dX5_about_6 : decode cX5_about 6 = .ok (.aload_n 3, 1) := by decide +kernel
theorem dX5_about_7 : decode cX5_about 7 = .ok (.ifnonnull 9, 3) := by decide +kernel
theorem dX5_about_10 : decode cX5_about 10 = .ok (.ldc2_w 85, 3) := by decide +kernel
theorem dX5_about_13 : decode cX5_about 13 = .ok (.goto 8, 3) := by decide +kernel
theorem dX5_about_16 : decode cX5_about 16 = .ok (.aload_n 3, 1) := by decide +kernel
theorem dX5_about_17 : decode cX5_about 17 = .ok (.iload_n 2, 1) := by decide +kernel
theorem dX5_about_18 : decode cX5_about 18 = .ok (.invokevirtual 87, 3) := by decide +kernel
theorem dX5_about_21 : decode cX5_about 21 = .ok (.lreturn, 1) := by decide +kernel
set_option maxRecDepth 20000 in
theorem ggX5_wave_X5_rowOrNull : GoodIn wsX5_wave wsX5_rowOrNull := goodIn_r _ [6, 7, 8, 9, 10, 5, 11, 22, 23, 24] (by decide +kernel) (by decide +kernel)
set_option maxRecDepth 20000 in
theorem gX5_wave_X5_rowOrNull : GoodIn wsX5_wave (wsV RX5 57 RX5 yX5_rowOrNull wsX5_rowOrNull) := goodIn_app (goodIn_of _ (by decide +kernel)) ggX5_wave_X5_rowOrNull
set_option maxRecDepth 20000 in
theorem ggX5_wave_X3_waveAt : GoodIn wsX5_wave wsX3_waveAt := goodIn_r _ [16, 17, 18, 19, 20, 21, 10, 5, 11, 25, 26] (by decide +kernel) (by decide +kernel)
set_option maxRecDepth 20000 in
theorem gX5_wave_X3_waveAt : GoodIn wsX5_wave (wsV RX5 91 RX3 yX3_waveAt wsX3_waveAt) := goodIn_app (goodIn_of _ (by decide +kernel)) ggX5_wave_X3_waveAt
theorem dX5_wave_0 : decode cX5_wave 0 = .ok (.aload_n 0, 1) := by decide +kernel
theorem dX5_wave_1 : decode cX5_wave 1 = .ok (.iload_n 1, 1) := by decide +kernel
theorem dX5_wave_2 : decode cX5_wave 2 = .ok (.invokevirtual 57, 3) := by decide +kernel
theorem dX5_wave_5 : decode cX5_wave 5 = .ok (.astore_n 3, 1) := by decide +kernel
theorem dX5_wave_6 : decode cX5_wave 6 = .ok (.aload_n 3, 1) := by decide +kernel
theorem dX5_wave_7 : decode cX5_wave 7 = .ok (.ifnonnull 9, 3) := by decide +kernel
theorem dX5_wave_10 : decode cX5_wave 10 = .ok (.ldc2_w 85, 3) := by decide +kernel
theorem dX5_wave_13 : decode cX5_wave 13 = .ok (.goto 8, 3) := by decide +kernel
theorem dX5_wave_16 : decode cX5_wave 16 = .ok (.aload_n 3, 1) := by decide +kernel
theorem dX5_wave_17 : decode cX5_wave 17 = .ok (.iload_n 2, 1) := by decide +kernel
theorem dX5_wave_18 : decode cX5_wave 18 = .ok (.invokevirtual 91, 3) := by decide +kernel
theorem dX5_wave_21 : decode cX5_wave 21 = .ok (.lreturn, 1) := by decide +kernel
set_option maxRecDepth 20000 in
theorem ggX5_greatest_X5_rowOrNull : GoodIn wsX5_greatest wsX5_rowOrNull := goodIn_r _ [5, 6, 7, 8, 9, 4, 10, 28, 29, 30] (by decide +kernel) (by decide +kernel)
set_option maxRecDepth 20000 in
theorem gX5_greatest_X5_rowOrNull : GoodIn wsX5_greatest (wsV RX5 57 RX5 yX5_rowOrNull wsX5_rowOrNull) := goodIn_app (goodIn_of _ (by decide +kernel)) ggX5_greatest_X5_rowOrNull
set_option maxRecDepth 20000 in
theorem ggX5_greatest_X3_greatestUpTo : GoodIn wsX5_greatest wsX3_greatestUpTo := goodIn_r _ [15, 16, 17, 18, 9, 4, 10, 19, 20, 21, 14, 22, 23, 24, 25, 26, 27, 31, 32] (by decide +kernel) (by decide +kernel)
set_option maxRecDepth 20000 in
theorem gX5_greatest_X3_greatestUpTo : GoodIn wsX5_greatest (wsV RX5 94 RX3 yX3_greatestUpTo wsX3_greatestUpTo) := goodIn_app (goodIn_of _ (by decide +kernel)) ggX5_greatest_X3_greatestUpTo
theorem dX5_greatest_0 : decode cX5_greatest 0 = .ok (.aload_n 0, 1) := by decide +kernel
theorem dX5_greatest_1 : decode cX5_greatest 1 = .ok (.iload_n 1, 1) := by decide +kernel
theorem dX5_greatest_2 : decode cX5_greatest 2 = .ok (.invokevirtual 57, 3) := by decide +kernel
theorem dX5_greatest_5 : decode cX5_greatest 5 = .ok (.astore_n 3, 1) := by decide +kernel
theorem dX5_greatest_6 : decode cX5_greatest 6 = .ok (.aload_n 3, 1) := by decide +kernel
theorem dX5_greatest_7 : decode cX5_greatest 7 = .ok (.ifnonnull 8, 3) := by decide +kernel
theorem dX5_greatest_10 : decode cX5_greatest 10 = .ok (.bipush (-2), 2) := by decide +kernel
theorem dX5_greatest_12 : decode cX5_greatest 12 = .ok (.goto 8, 3) := by decide +kernel
theorem dX5_greatest_15 : decode cX5_greatest 15 = .ok (.aload_n 3, 1) := by decide +kernel
theorem dX5_greatest_16 : decode cX5_greatest 16 = .ok (.iload_n 2, 1) := by decide +kernel
theorem dX5_greatest_17 : decode cX5_greatest 17 = .ok (.invokevirtual 94, 3) := by decide +kernel
theorem dX5_greatest_20 : decode cX5_greatest 20 = .ok (.ireturn, 1) := by decide +kernel
set_option maxRecDepth 20000 in
theorem ggX5_places_X5_rowOrNull : GoodIn wsX5_places wsX5_rowOrNull := goodIn_r _ [5, 6, 7, 8, 9, 4, 10, 43, 44, 45] (by decide +kernel) (by decide +kernel)
set_option maxRecDepth 20000 in
theorem gX5_places_X5_rowOrNull : GoodIn wsX5_places (wsV RX5 57 RX5 yX5_rowOrNull wsX5_rowOrNull) := goodIn_app (goodIn_of _ (by decide +kernel)) ggX5_places_X5_rowOrNull
set_option maxRecDepth 20000 in
theorem ggX5_places_X3_countPlaces : GoodIn wsX5_places wsX3_countPlaces := goodIn_r _ [15, 16, 17, 18, 19, 20, 21, 22, 14, 23, 24, 25, 26, 9, 4, 10, 27, 28, 29, 30, 31, 32, 33, 34, 35, 36, 37, 38, 39, 40, 41, 42, 46, 47] (by decide +kernel) (by decide +kernel)
set_option maxRecDepth 20000 in
theorem gX5_places_X3_countPlaces : GoodIn wsX5_places (wsV RX5 97 RX3 yX3_countPlaces wsX3_countPlaces) := goodIn_app (goodIn_of _ (by decide +kernel)) ggX5_places_X3_countPlaces
theorem dX5_places_0 : decode cX5_places 0 = .ok (.aload_n 0, 1) := by decide +kernel
theorem dX5_places_1 : decode cX5_places 1 = .ok (.iload_n 1, 1) := by decide +kernel
theorem dX5_places_2 : decode cX5_places 2 = .ok (.invokevirtual 57, 3) := by decide +kernel
theorem dX5_places_5 : decode cX5_places 5 = .ok (.astore 6, 2) := by decide +kernel
theorem dX5_places_7 : decode cX5_places 7 = .ok (.aload 6, 2) := by decide +kernel
theorem dX5_places_9 : decode cX5_places 9 = .ok (.ifnonnull 8, 3) := by decide +kernel
theorem dX5_places_12 : decode cX5_places 12 = .ok (.bipush (-2), 2) := by decide +kernel
theorem dX5_places_14 : decode cX5_places 14 = .ok (.goto 14, 3) := by decide +kernel
theorem dX5_places_17 : decode cX5_places 17 = .ok (.aload 6, 2) := by decide +kernel
theorem dX5_places_19 : decode cX5_places 19 = .ok (.iload_n 2, 1) := by decide +kernel
theorem dX5_places_20 : decode cX5_places 20 = .ok (.iload_n 3, 1) := by decide +kernel
theorem dX5_places_21 : decode cX5_places 21 = .ok (.iload 4, 2) := by decide +kernel
theorem dX5_places_23 : decode cX5_places 23 = .ok (.iload 5, 2) := by decide +kernel
theorem dX5_places_25 : decode cX5_places 25 = .ok (.invokevirtual 97, 3) := by decide +kernel
theorem dX5_places_28 : decode cX5_places 28 = .ok (.ireturn, 1) := by decide +kernel
set_option maxRecDepth 20000 in
theorem ggX5_cleared_X5_rowOrNull : GoodIn wsX5_cleared wsX5_rowOrNull := goodIn_r _ [5, 6, 7, 8, 9, 4, 10, 47, 48, 49] (by decide +kernel) (by decide +kernel)
set_option maxRecDepth 20000 in
theorem gX5_cleared_X5_rowOrNull : GoodIn wsX5_cleared (wsV RX5 57 RX5 yX5_rowOrNull wsX5_rowOrNull) := goodIn_app (goodIn_of _ (by decide +kernel)) ggX5_cleared_X5_rowOrNull
set_option maxRecDepth 20000 in
theorem ggX5_cleared_X3_removePlaces : GoodIn wsX5_cleared wsX3_removePlaces := goodIn_r _ [15, 16, 17, 18, 19, 20, 21, 22, 23, 14, 24, 25, 26, 27, 9, 4, 10, 28, 29, 30, 31, 32, 33, 34, 35, 36, 37, 38, 39, 40, 41, 42, 43, 44, 45, 46, 50, 51] (by decide +kernel) (by decide +kernel)
set_option maxRecDepth 20000 in
theorem gX5_cleared_X3_removePlaces : GoodIn wsX5_cleared (wsV RX5 100 RX3 yX3_removePlaces wsX3_removePlaces) := goodIn_app (goodIn_of _ (by decide +kernel)) ggX5_cleared_X3_removePlaces
theorem dX5_cleared_0 : decode cX5_cleared 0 = .ok (.aload_n 0, 1) := by decide +kernel
theorem dX5_cleared_1 : decode cX5_cleared 1 = .ok (.iload_n 1, 1) := by decide +kernel
theorem dX5_cleared_2 : decode cX5_cleared 2 = .ok (.invokevirtual 57, 3) := by decide +kernel
theorem dX5_cleared_5 : decode cX5_cleared 5 = .ok (.astore 5, 2) := by decide +kernel
theorem dX5_cleared_7 : decode cX5_cleared 7 = .ok (.aload 5, 2) := by decide +kernel
theorem dX5_cleared_9 : decode cX5_cleared 9 = .ok (.ifnonnull 8, 3) := by decide +kernel
theorem dX5_cleared_12 : decode cX5_cleared 12 = .ok (.bipush (-2), 2) := by decide +kernel
theorem dX5_cleared_14 : decode cX5_cleared 14 = .ok (.goto 12, 3) := by decide +kernel
theorem dX5_cleared_17 : decode cX5_cleared 17 = .ok (.aload 5, 2) := by decide +kernel
theorem dX5_cleared_19 : decode cX5_cleared 19 = .ok (.iload_n 2, 1) := by decide +kernel
theorem dX5_cleared_20 : decode cX5_cleared 20 = .ok (.iload_n 3, 1) := by decide +kernel
theorem dX5_cleared_21 : decode cX5_cleared 21 = .ok (.iload 4, 2) := by decide +kernel
theorem dX5_cleared_23 : decode cX5_cleared 23 = .ok (.invokevirtual 100, 3) := by decide +kernel
theorem dX5_cleared_26 : decode cX5_cleared 26 = .ok (.ireturn, 1) := by decide +kernel
set_option maxRecDepth 20000 in
theorem ggX5_bale_X4_addBale : GoodIn wsX5_bale wsX4_addBale := goodIn_r _ [6, 7, 8, 9, 10, 11, 12, 13, 17, 18, 19, 20, 21, 22, 23, 24, 25] (by decide +kernel) (by decide +kernel)
set_option maxRecDepth 20000 in
theorem gX5_bale_X4_addBale : GoodIn wsX5_bale (wsV RX5 103 RX4 yX4_addBale wsX4_addBale) := goodIn_app (goodIn_of _ (by decide +kernel)) ggX5_bale_X4_addBale
theorem dX5_bale_0 : decode cX5_bale 0 = .ok (.aload_n 0, 1) := by decide +kernel
theorem dX5_bale_1 : decode cX5_bale 1 = .ok (.getfield 26, 3) := by decide +kernel
theorem dX5_bale_4 : decode cX5_bale 4 = .ok (.iload_n 1, 1) := by decide +kernel
theorem dX5_bale_5 : decode cX5_bale 5 = .ok (.invokevirtual 103, 3) := by decide +kernel
theorem dX5_bale_8 : decode cX5_bale 8 = .ok (.ireturn, 1) := by decide +kernel
set_option maxRecDepth 20000 in
theorem ggX5_clearBales_X4_removeAll : GoodIn wsX5_clearBales wsX4_removeAll := goodIn_r _ [6, 7, 8, 12, 13, 14, 15, 16, 17, 18, 19, 20] (by decide +kernel) (by decide +kernel)
set_option maxRecDepth 20000 in
theorem gX5_clearBales_X4_removeAll : GoodIn wsX5_clearBales (wsV RX5 106 RX4 yX4_removeAll wsX4_removeAll) := goodIn_app (goodIn_of _ (by decide +kernel)) ggX5_clearBales_X4_removeAll
theorem dX5_clearBales_0 : decode cX5_clearBales 0 = .ok (.aload_n 0, 1) := by decide +kernel
theorem dX5_clearBales_1 : decode cX5_clearBales 1 = .ok (.getfield 26, 3) := by decide +kernel
theorem dX5_clearBales_4 : decode cX5_clearBales 4 = .ok (.invokevirtual 106, 3) := by decide +kernel
theorem dX5_clearBales_7 : decode cX5_clearBales 7 = .ok (.ireturn, 1) := by decide +kernel
set_option maxRecDepth 20000 in
theorem ggX5_plan_X4_makePlan : GoodIn wsX5_plan wsX4_makePlan := goodIn_r _ [6, 7, 8, 9, 10, 11, 12, 13, 14, 15, 16, 17, 18, 19, 20, 21, 5, 22, 23, 24, 25, 26, 27, 28, 29, 30, 31, 32, 33, 37, 38, 39, 40, 41, 42, 43, 44, 45] (by decide +kernel) (by decide +kernel)
set_option maxRecDepth 20000 in
theorem gX5_plan_X4_makePlan : GoodIn wsX5_plan (wsV RX5 107 RX4 yX4_makePlan wsX4_makePlan) := goodIn_app (goodIn_of _ (by decide +kernel)) ggX5_plan_X4_makePlan
theorem dX5_plan_0 : decode cX5_plan 0 = .ok (.aload_n 0, 1) := by decide +kernel
theorem dX5_plan_1 : decode cX5_plan 1 = .ok (.getfield 26, 3) := by decide +kernel
theorem dX5_plan_4 : decode cX5_plan 4 = .ok (.iload_n 1, 1) := by decide +kernel
theorem dX5_plan_5 : decode cX5_plan 5 = .ok (.iload_n 2, 1) := by decide +kernel
theorem dX5_plan_6 : decode cX5_plan 6 = .ok (.iload_n 3, 1) := by decide +kernel
theorem dX5_plan_7 : decode cX5_plan 7 = .ok (.invokevirtual 107, 3) := by decide +kernel
theorem dX5_plan_10 : decode cX5_plan 10 = .ok (.ireturn, 1) := by decide +kernel
set_option maxRecDepth 20000 in
theorem ggX5_planAt_X4_planned : GoodIn wsX5_planAt wsX4_planned := goodIn_r _ [6, 7, 8, 9, 10, 11, 12, 16, 17, 18, 19, 20, 21, 22, 23, 24] (by decide +kernel) (by decide +kernel)
set_option maxRecDepth 20000 in
theorem gX5_planAt_X4_planned : GoodIn wsX5_planAt (wsV RX5 110 RX4 yX4_planned wsX4_planned) := goodIn_app (goodIn_of _ (by decide +kernel)) ggX5_planAt_X4_planned
theorem dX5_planAt_0 : decode cX5_planAt 0 = .ok (.aload_n 0, 1) := by decide +kernel
theorem dX5_planAt_1 : decode cX5_planAt 1 = .ok (.getfield 26, 3) := by decide +kernel
theorem dX5_planAt_4 : decode cX5_planAt 4 = .ok (.iload_n 1, 1) := by decide +kernel
theorem dX5_planAt_5 : decode cX5_planAt 5 = .ok (.iload_n 2, 1) := by decide +kernel
theorem dX5_planAt_6 : decode cX5_planAt 6 = .ok (.invokevirtual 110, 3) := by decide +kernel
theorem dX5_planAt_9 : decode cX5_planAt 9 = .ok (.ireturn, 1) := by decide +kernel
theorem dX5_tries_0 : decode cX5_tries 0 = .ok (.aload_n 0, 1) := by decide +kernel
theorem dX5_tries_1 : decode cX5_tries 1 = .ok (.getfield 26, 3) := by decide +kernel
theorem dX5_tries_4 : decode cX5_tries 4 = .ok (.getfield 113, 3) := by decide +kernel
theorem dX5_tries_7 : decode cX5_tries 7 = .ok (.ireturn, 1) := by decide +kernel
set_option maxRecDepth 20000 in
theorem ggX5_many_X1_countRollers : GoodIn wsX5_many wsX1_countRollers := goodIn_r _ [10, 11, 12, 13, 24, 25, 26, 27, 28, 38, 39, 40, 41, 42, 43] (by decide +kernel) (by decide +kernel)
set_option maxRecDepth 20000 in
theorem gX5_many_X1_countRollers : GoodIn wsX5_many (wsV RX5 120 RX1 yX1_countRollers wsX1_countRollers) := goodIn_app (goodIn_of _ (by decide +kernel)) ggX5_many_X1_countRollers
set_option maxRecDepth 20000 in
theorem ggX5_many_X5_countCells : GoodIn wsX5_many wsX5_countCells := goodIn_r _ [18, 19, 20, 21, 22, 23, 44, 45] (by decide +kernel) (by decide +kernel)
set_option maxRecDepth 20000 in
theorem gX5_many_X5_countCells : GoodIn wsX5_many (wsV RX5 127 RX5 yX5_countCells wsX5_countCells) := goodIn_app (goodIn_of _ (by decide +kernel)) ggX5_many_X5_countCells
theorem dX5_many_0 : decode cX5_many 0 = .ok (.iload_n 1, 1) := by decide +kernel
theorem dX5_many_1 : decode cX5_many 1 = .ok (.tableswitch 72 0 4 #[35, 43, 51, 59, 67], 35) := by decide +kernel
theorem dX5_many_36 : decode cX5_many 36 = .ok (.aload_n 0, 1) := by decide +kernel
theorem dX5_many_37 : decode cX5_many 37 = .ok (.getfield 10, 3) := by decide +kernel
theorem dX5_many_40 : decode cX5_many 40 = .ok (.getfield 117, 3) := by decide +kernel
theorem dX5_many_43 : decode cX5_many 43 = .ok (.ireturn, 1) := by decide +kernel
theorem dX5_many_44 : decode cX5_many 44 = .ok (.aload_n 0, 1) := by decide +kernel
theorem dX5_many_45 : decode cX5_many 45 = .ok (.getfield 10, 3) := by decide +kernel
theorem dX5_many_48 : decode cX5_many 48 = .ok (.invokevirtual 120, 3) := by decide +kernel
theorem dX5_many_51 : decode cX5_many 51 = .ok (.ireturn, 1) := by decide +kernel
theorem dX5_many_52 : decode cX5_many 52 = .ok (.aload_n 0, 1) := by decide +kernel
theorem dX5_many_53 : decode cX5_many 53 = .ok (.getfield 26, 3) := by decide +kernel
theorem dX5_many_56 : decode cX5_many 56 = .ok (.getfield 123, 3) := by decide +kernel
theorem dX5_many_59 : decode cX5_many 59 = .ok (.ireturn, 1) := by decide +kernel
theorem dX5_many_60 : decode cX5_many 60 = .ok (.aload_n 0, 1) := by decide +kernel
theorem dX5_many_61 : decode cX5_many 61 = .ok (.getfield 26, 3) := by decide +kernel
theorem dX5_many_64 : decode cX5_many 64 = .ok (.getfield 124, 3) := by decide +kernel
theorem dX5_many_67 : decode cX5_many 67 = .ok (.ireturn, 1) := by decide +kernel
theorem dX5_many_68 : decode cX5_many 68 = .ok (.aload_n 0, 1) := by decide +kernel
theorem dX5_many_69 : decode cX5_many 69 = .ok (.invokevirtual 127, 3) := by decide +kernel
theorem dX5_many_72 : decode cX5_many 72 = .ok (.ireturn, 1) := by decide +kernel
theorem dX5_many_73 : decode cX5_many 73 = .ok (.bipush (-2), 2) := by decide +kernel
theorem dX5_many_75 : decode cX5_many 75 = .ok (.ireturn, 1) := by decide +kernel
set_option maxRecDepth 20000 in
theorem ggX5_digest_X5_many : GoodIn wsX5_digest wsX5_many := goodIn_r _ [11, 3, 4, 6, 12, 13, 14, 15, 16, 17, 18, 19, 20, 21, 22, 23, 24, 10, 25, 5, 26, 90, 91, 92, 93, 94, 95, 96, 97, 98, 99, 100, 101, 102, 103, 104, 105, 106, 107, 108, 109, 110, 111, 112, 113, 114] (by decide +kernel) (by decide +kernel)
set_option maxRecDepth 20000 in
theorem gX5_digest_X5_many : GoodIn wsX5_digest (wsV RX5 134 RX5 yX5_many wsX5_many) := goodIn_app (goodIn_of _ (by decide +kernel)) ggX5_digest_X5_many
set_option maxRecDepth 20000 in
theorem ggX5_digest_X1_tellCount : GoodIn wsX5_digest wsX1_tellCount := goodIn_r _ [30, 19, 31, 32, 33, 10, 34, 35, 36, 37, 17, 38, 39, 40, 41, 20, 42, 43, 44, 45, 46, 47, 48, 49, 50, 51, 52, 53, 54, 55, 56, 57, 58, 59, 60, 61, 62, 63, 64, 65, 66, 67, 68, 69, 70, 71, 72, 93, 94, 95, 96, 97, 107, 108, 109, 110, 111, 112, 115, 116] (by decide +kernel) (by decide +kernel)
set_option maxRecDepth 20000 in
theorem gX5_digest_X1_tellCount : GoodIn wsX5_digest (wsV RX5 45 RX1 yX1_tellCount wsX1_tellCount) := goodIn_app (goodIn_of _ (by decide +kernel)) ggX5_digest_X1_tellCount
set_option maxRecDepth 20000 in
theorem ggX5_digest_X3_mixInto : GoodIn wsX5_digest wsX3_mixInto := goodIn_r _ [77, 78, 79, 80, 113, 114] (by decide +kernel) (by decide +kernel)
set_option maxRecDepth 20000 in
theorem gX5_digest_X3_mixInto : GoodIn wsX5_digest (wsV RX5 137 RX3 yX3_mixInto wsX3_mixInto) := goodIn_app (goodIn_of _ (by decide +kernel)) ggX5_digest_X3_mixInto
set_option maxRecDepth 20000 in
theorem ggX5_digest_X4_mixInto : GoodIn wsX5_digest wsX4_mixInto := goodIn_r _ [85, 86, 87, 88, 89, 98, 99, 100, 101, 102, 103, 104, 105, 106] (by decide +kernel) (by decide +kernel)
set_option maxRecDepth 20000 in
theorem gX5_digest_X4_mixInto : GoodIn wsX5_digest (wsV RX5 141 RX4 yX4_mixInto wsX4_mixInto) := goodIn_app (goodIn_of _ (by decide +kernel)) ggX5_digest_X4_mixInto
theorem dX5_digest_0 : decode cX5_digest 0 = .ok (.ldc2_w 130, 3) := by decide +kernel
theorem dX5_digest_3 : decode cX5_digest 3 = .ok (.lstore_n 1, 1) := by decide +kernel
theorem dX5_digest_4 : decode cX5_digest 4 = .ok (.iconst 0, 1) := by decide +kernel
theorem dX5_digest_5 : decode cX5_digest 5 = .ok (.istore_n 3, 1) := by decide +kernel
theorem dX5_digest_6 : decode cX5_digest 6 = .ok (.iload_n 3, 1) := by decide +kernel
theorem dX5_digest_7 : decode cX5_digest 7 = .ok (.iconst 4, 1) := by decide +kernel
theorem dX5_digest_8 : decode cX5_digest 8 = .ok (.if_icmp .gt 22, 3) := by decide +kernel
theorem dX5_digest_11 : decode cX5_digest 11 = .ok (.ldc2_w 132, 3) := by decide +kernel
theorem dX5_digest_14 : decode cX5_digest 14 = .ok (.lload_n 1, 1) := by decide +kernel
theorem dX5_digest_15 : decode cX5_digest 15 = .ok (.lmul, 1) := by decide +kernel
theorem dX5_digest_16 : decode cX5_digest 16 = .ok (.aload_n 0, 1) := by decide +kernel
theorem dX5_digest_17 : decode cX5_digest 17 = .ok (.iload_n 3, 1) := by decide +kernel
theorem dX5_digest_18 : decode cX5_digest 18 = .ok (.invokevirtual 134, 3) := by decide +kernel
theorem dX5_digest_21 : decode cX5_digest 21 = .ok (.i2l, 1) := by decide +kernel
theorem dX5_digest_22 : decode cX5_digest 22 = .ok (.ladd, 1) := by decide +kernel
theorem dX5_digest_23 : decode cX5_digest 23 = .ok (.lstore_n 1, 1) := by decide +kernel
theorem dX5_digest_24 : decode cX5_digest 24 = .ok (.iinc 3 1, 3) := by decide +kernel
theorem dX5_digest_27 : decode cX5_digest 27 = .ok (.goto (-21), 3) := by decide +kernel
theorem dX5_digest_30 : decode cX5_digest 30 = .ok (.ldc2_w 132, 3) := by decide +kernel
theorem dX5_digest_33 : decode cX5_digest 33 = .ok (.lload_n 1, 1) := by decide +kernel
theorem dX5_digest_34 : decode cX5_digest 34 = .ok (.lmul, 1) := by decide +kernel
theorem dX5_digest_35 : decode cX5_digest 35 = .ok (.aload_n 0, 1) := by decide +kernel
theorem dX5_digest_36 : decode cX5_digest 36 = .ok (.getfield 10, 3) := by decide +kernel
theorem dX5_digest_39 : decode cX5_digest 39 = .ok (.aload_n 0, 1) := by decide +kernel
theorem dX5_digest_40 : decode cX5_digest 40 = .ok (.getfield 10, 3) := by decide +kernel
theorem dX5_digest_43 : decode cX5_digest 43 = .ok (.getfield 117, 3) := by decide +kernel
theorem dX5_digest_46 : decode cX5_digest 46 = .ok (.iconst 0, 1) := by decide +kernel
theorem dX5_digest_47 : decode cX5_digest 47 = .ok (.invokevirtual 45, 3) := by decide +kernel
theorem dX5_digest_50 : decode cX5_digest 50 = .ok (.ladd, 1) := by decide +kernel
theorem dX5_digest_51 : decode cX5_digest 51 = .ok (.lstore_n 1, 1) := by decide +kernel
theorem dX5_digest_52 : decode cX5_digest 52 = .ok (.ldc2_w 132, 3) := by decide +kernel
theorem dX5_digest_55 : decode cX5_digest 55 = .ok (.lload_n 1, 1) := by decide +kernel
theorem dX5_digest_56 : decode cX5_digest 56 = .ok (.lmul, 1) := by decide +kernel
theorem dX5_digest_57 : decode cX5_digest 57 = .ok (.aload_n 0, 1) := by decide +kernel
theorem dX5_digest_58 : decode cX5_digest 58 = .ok (.getfield 10, 3) := by decide +kernel
theorem dX5_digest_61 : decode cX5_digest 61 = .ok (.aload_n 0, 1) := by decide +kernel
theorem dX5_digest_62 : decode cX5_digest 62 = .ok (.getfield 10, 3) := by decide +kernel
theorem dX5_digest_65 : decode cX5_digest 65 = .ok (.getfield 117, 3) := by decide +kernel
theorem dX5_digest_68 : decode cX5_digest 68 = .ok (.iconst 1, 1) := by decide +kernel
theorem dX5_digest_69 : decode cX5_digest 69 = .ok (.invokevirtual 45, 3) := by decide +kernel
theorem dX5_digest_72 : decode cX5_digest 72 = .ok (.ladd, 1) := by decide +kernel
theorem dX5_digest_73 : decode cX5_digest 73 = .ok (.lstore_n 1, 1) := by decide +kernel
theorem dX5_digest_74 : decode cX5_digest 74 = .ok (.iconst 0, 1) := by decide +kernel
theorem dX5_digest_75 : decode cX5_digest 75 = .ok (.istore_n 3, 1) := by decide +kernel
theorem dX5_digest_76 : decode cX5_digest 76 = .ok (.iload_n 3, 1) := by decide +kernel
theorem dX5_digest_77 : decode cX5_digest 77 = .ok (.bipush 8, 2) := by decide +kernel
theorem dX5_digest_79 : decode cX5_digest 79 = .ok (.if_icmp .ge 20, 3) := by decide +kernel
theorem dX5_digest_82 : decode cX5_digest 82 = .ok (.aload_n 0, 1) := by decide +kernel
theorem dX5_digest_83 : decode cX5_digest 83 = .ok (.getfield 18, 3) := by decide +kernel
theorem dX5_digest_86 : decode cX5_digest 86 = .ok (.iload_n 3, 1) := by decide +kernel
theorem dX5_digest_87 : decode cX5_digest 87 = .ok (.aaload, 1) := by decide +kernel
theorem dX5_digest_88 : decode cX5_digest 88 = .ok (.lload_n 1, 1) := by decide +kernel
theorem dX5_digest_89 : decode cX5_digest 89 = .ok (.invokevirtual 137, 3) := by decide +kernel
theorem dX5_digest_92 : decode cX5_digest 92 = .ok (.lstore_n 1, 1) := by decide +kernel
theorem dX5_digest_93 : decode cX5_digest 93 = .ok (.iinc 3 1, 3) := by decide +kernel
theorem dX5_digest_96 : decode cX5_digest 96 = .ok (.goto (-20), 3) := by decide +kernel
theorem dX5_digest_99 : decode cX5_digest 99 = .ok (.aload_n 0, 1) := by decide +kernel
theorem dX5_digest_100 : decode cX5_digest 100 = .ok (.getfield 26, 3) := by decide +kernel
theorem dX5_digest_103 : decode cX5_digest 103 = .ok (.lload_n 1, 1) := by decide +kernel
theorem dX5_digest_104 : decode cX5_digest 104 = .ok (.invokevirtual 141, 3) := by decide +kernel
theorem dX5_digest_107 : decode cX5_digest 107 = .ok (.lreturn, 1) := by decide +kernel
theorem dX5_countCells_0 : decode cX5_countCells 0 = .ok (.iconst 0, 1) := by decide +kernel
theorem dX5_countCells_1 : decode cX5_countCells 1 = .ok (.istore_n 1, 1) := by decide +kernel
theorem dX5_countCells_2 : decode cX5_countCells 2 = .ok (.iconst 0, 1) := by decide +kernel
theorem dX5_countCells_3 : decode cX5_countCells 3 = .ok (.istore_n 2, 1) := by decide +kernel
theorem dX5_countCells_4 : decode cX5_countCells 4 = .ok (.iload_n 2, 1) := by decide +kernel
theorem dX5_countCells_5 : decode cX5_countCells 5 = .ok (.bipush 8, 2) := by decide +kernel
theorem dX5_countCells_7 : decode cX5_countCells 7 = .ok (.if_icmp .ge 21, 3) := by decide +kernel
theorem dX5_countCells_10 : decode cX5_countCells 10 = .ok (.iload_n 1, 1) := by decide +kernel
theorem dX5_countCells_11 : decode cX5_countCells 11 = .ok (.aload_n 0, 1) := by decide +kernel
theorem dX5_countCells_12 : decode cX5_countCells 12 = .ok (.getfield 18, 3) := by decide +kernel
theorem dX5_countCells_15 : decode cX5_countCells 15 = .ok (.iload_n 2, 1) := by decide +kernel
theorem dX5_countCells_16 : decode cX5_countCells 16 = .ok (.aaload, 1) := by decide +kernel
theorem dX5_countCells_17 : decode cX5_countCells 17 = .ok (.getfield 142, 3) := by decide +kernel
theorem dX5_countCells_20 : decode cX5_countCells 20 = .ok (.iadd, 1) := by decide +kernel
theorem dX5_countCells_21 : decode cX5_countCells 21 = .ok (.istore_n 1, 1) := by decide +kernel
theorem dX5_countCells_22 : decode cX5_countCells 22 = .ok (.iinc 2 1, 3) := by decide +kernel
theorem dX5_countCells_25 : decode cX5_countCells 25 = .ok (.goto (-21), 3) := by decide +kernel
theorem dX5_countCells_28 : decode cX5_countCells 28 = .ok (.iload_n 1, 1) := by decide +kernel
theorem dX5_countCells_29 : decode cX5_countCells 29 = .ok (.ireturn, 1) := by decide +kernel
set_option maxRecDepth 20000 in
theorem ggX5_rowOrNull_X5_within : GoodIn wsX5_rowOrNull wsX5_within := goodIn_r _ [6] (by decide +kernel) (by decide +kernel)
set_option maxRecDepth 20000 in
theorem gX5_rowOrNull_X5_within : GoodIn wsX5_rowOrNull (va_wsS RX5 145 yX5_within wsX5_within) := goodIn_app (goodIn_of _ (by decide +kernel)) ggX5_rowOrNull_X5_within
theorem dX5_rowOrNull_0 : decode cX5_rowOrNull 0 = .ok (.iload_n 1, 1) := by decide +kernel
theorem dX5_rowOrNull_1 : decode cX5_rowOrNull 1 = .ok (.i2l, 1) := by decide +kernel
theorem dX5_rowOrNull_2 : decode cX5_rowOrNull 2 = .ok (.lconst 0, 1) := by decide +kernel
theorem dX5_rowOrNull_3 : decode cX5_rowOrNull 3 = .ok (.ldc2_w 143, 3) := by decide +kernel
theorem dX5_rowOrNull_6 : decode cX5_rowOrNull 6 = .ok (.invokestatic 145, 3) := by decide +kernel
theorem dX5_rowOrNull_9 : decode cX5_rowOrNull 9 = .ok (.ifCond .eq 12, 3) := by decide +kernel
theorem dX5_rowOrNull_12 : decode cX5_rowOrNull 12 = .ok (.aload_n 0, 1) := by decide +kernel
theorem dX5_rowOrNull_13 : decode cX5_rowOrNull 13 = .ok (.getfield 18, 3) := by decide +kernel
theorem dX5_rowOrNull_16 : decode cX5_rowOrNull 16 = .ok (.iload_n 1, 1) := by decide +kernel
theorem dX5_rowOrNull_17 : decode cX5_rowOrNull 17 = .ok (.aaload, 1) := by decide +kernel
theorem dX5_rowOrNull_18 : decode cX5_rowOrNull 18 = .ok (.goto 4, 3) := by decide +kernel
theorem dX5_rowOrNull_21 : decode cX5_rowOrNull 21 = .ok (.aconst_null, 1) := by decide +kernel
theorem dX5_rowOrNull_22 : decode cX5_rowOrNull 22 = .ok (.areturn, 1) := by decide +kernel
theorem dX5_within_0 : decode cX5_within 0 = .ok (.lload_n 0, 1) := by decide +kernel
theorem dX5_within_1 : decode cX5_within 1 = .ok (.lload_n 2, 1) := by decide +kernel
theorem dX5_within_2 : decode cX5_within 2 = .ok (.lcmp, 1) := by decide +kernel
theorem dX5_within_3 : decode cX5_within 3 = .ok (.ifCond .lt 14, 3) := by decide +kernel
theorem dX5_within_6 : decode cX5_within 6 = .ok (.lload_n 0, 1) := by decide +kernel
theorem dX5_within_7 : decode cX5_within 7 = .ok (.lload 4, 2) := by decide +kernel
theorem dX5_within_9 : decode cX5_within 9 = .ok (.lcmp, 1) := by decide +kernel
theorem dX5_within_10 : decode cX5_within 10 = .ok (.ifCond .gt 7, 3) := by decide +kernel
theorem dX5_within_13 : decode cX5_within 13 = .ok (.iconst 1, 1) := by decide +kernel
theorem dX5_within_14 : decode cX5_within 14 = .ok (.goto 4, 3) := by decide +kernel
theorem dX5_within_17 : decode cX5_within 17 = .ok (.iconst 0, 1) := by decide +kernel
theorem dX5_within_18 : decode cX5_within 18 = .ok (.ireturn, 1) := by decide +kernel
end
section
theorem dX6_init_0 : decode cX6_init 0 = .ok (.aload_n 0, 1) := by decide +kernel
theorem dX6_init_1 : decode cX6_init 1 = .ok (.invokespecial 1, 3) := by decide +kernel
theorem dX6_init_4 : decode cX6_init 4 = .ok (.aload_n 0, 1) := by decide +kernel
theorem dX6_init_5 : decode cX6_init 5 = .ok (.iconst 1, 1) := by decide +kernel
theorem dX6_init_6 : decode cX6_init 6 = .ok (.putfield 7, 3) := by decide +kernel
theorem dX6_init_9 : decode cX6_init 9 = .ok (.aload_n 0, 1) := by decide +kernel
theorem dX6_init_10 : decode cX6_init 10 = .ok (.iconst 1, 1) := by decide +kernel
theorem dX6_init_11 : decode cX6_init 11 = .ok (.putfield 13, 3) := by decide +kernel
theorem dX6_init_14 : decode cX6_init 14 = .ok (.aload_n 0, 1) := by decide +kernel
theorem dX6_init_15 : decode cX6_init 15 = .ok (.bipush 6, 2) := by decide +kernel
theorem dX6_init_17 : decode cX6_init 17 = .ok (.newarray .int, 2) := by decide +kernel
theorem dX6_init_19 : decode cX6_init 19 = .ok (.putfield 16, 3) := by decide +kernel
theorem dX6_init_22 : decode cX6_init 22 = .ok (.aload_n 0, 1) := by decide +kernel
theorem dX6_init_23 : decode cX6_init 23 = .ok (.bipush 6, 2) := by decide +kernel
theorem dX6_init_25 : decode cX6_init 25 = .ok (.newarray .int, 2) := by decide +kernel
theorem dX6_init_27 : decode cX6_init 27 = .ok (.putfield 20, 3) := by decide +kernel
theorem dX6_init_30 : decode cX6_init 30 = .ok (.aload_n 0, 1) := by decide +kernel
theorem dX6_init_31 : decode cX6_init 31 = .ok (.bipush 6, 2) := by decide +kernel
theorem dX6_init_33 : decode cX6_init 33 = .ok (.newarray .int, 2) := by decide +kernel
theorem dX6_init_35 : decode cX6_init 35 = .ok (.putfield 23, 3) := by decide +kernel
theorem dX6_init_38 : decode cX6_init 38 = .ok (.aload_n 0, 1) := by decide +kernel
theorem dX6_init_39 : decode cX6_init 39 = .ok (.bipush 6, 2) := by decide +kernel
theorem dX6_init_41 : decode cX6_init 41 = .ok (.newarray .int, 2) := by decide +kernel
theorem dX6_init_43 : decode cX6_init 43 = .ok (.putfield 26, 3) := by decide +kernel
theorem dX6_init_46 : decode cX6_init 46 = .ok (.aload_n 0, 1) := by decide +kernel
theorem dX6_init_47 : decode cX6_init 47 = .ok (.bipush 6, 2) := by decide +kernel
theorem dX6_init_49 : decode cX6_init 49 = .ok (.newarray .int, 2) := by decide +kernel
theorem dX6_init_51 : decode cX6_init 51 = .ok (.putfield 29, 3) := by decide +kernel
theorem dX6_init_54 : decode cX6_init 54 = .ok (.aload_n 0, 1) := by decide +kernel
theorem dX6_init_55 : decode cX6_init 55 = .ok (.bipush 18, 2) := by decide +kernel
theorem dX6_init_57 : decode cX6_init 57 = .ok (.newarray .int, 2) := by decide +kernel
theorem dX6_init_59 : decode cX6_init 59 = .ok (.putfield 32, 3) := by decide +kernel
theorem dX6_init_62 : decode cX6_init 62 = .ok (.aload_n 0, 1) := by decide +kernel
theorem dX6_init_63 : decode cX6_init 63 = .ok (.bipush 8, 2) := by decide +kernel
theorem dX6_init_65 : decode cX6_init 65 = .ok (.newarray .int, 2) := by decide +kernel
theorem dX6_init_67 : decode cX6_init 67 = .ok (.putfield 35, 3) := by decide +kernel
theorem dX6_init_70 : decode cX6_init 70 = .ok (.aload_n 0, 1) := by decide +kernel
theorem dX6_init_71 : decode cX6_init 71 = .ok (.sipush 3200, 3) := by decide +kernel
theorem dX6_init_74 : decode cX6_init 74 = .ok (.newarray .int, 2) := by decide +kernel
theorem dX6_init_76 : decode cX6_init 76 = .ok (.putfield 38, 3) := by decide +kernel
theorem dX6_init_79 : decode cX6_init 79 = .ok (.aload_n 0, 1) := by decide +kernel
theorem dX6_init_80 : decode cX6_init 80 = .ok (.sipush 400, 3) := by decide +kernel
theorem dX6_init_83 : decode cX6_init 83 = .ok (.newarray .int, 2) := by decide +kernel
theorem dX6_init_85 : decode cX6_init 85 = .ok (.putfield 41, 3) := by decide +kernel
theorem dX6_init_88 : decode cX6_init 88 = .ok (.aload_n 0, 1) := by decide +kernel
theorem dX6_init_89 : decode cX6_init 89 = .ok (.bipush 12, 2) := by decide +kernel
theorem dX6_init_91 : decode cX6_init 91 = .ok (.newarray .int, 2) := by decide +kernel
theorem dX6_init_93 : decode cX6_init 93 = .ok (.putfield 44, 3) := by decide +kernel
theorem dX6_init_96 : decode cX6_init 96 = .ok (.aload_n 0, 1) := by decide +kernel
theorem dX6_init_97 : decode cX6_init 97 = .ok (.bipush 12, 2) := by decide +kernel
theorem dX6_init_99 : decode cX6_init 99 = .ok (.newarray .int, 2) := by decide +kernel
theorem dX6_init_101 : decode cX6_init 101 = .ok (.putfield 47, 3) := by decide +kernel
theorem dX6_init_104 : decode cX6_init 104 = .ok (.return_, 1) := by decide +kernel
theorem dX6_in_0 : decode cX6_in 0 = .ok (.lload_n 0, 1) := by decide +kernel
theorem dX6_in_1 : decode cX6_in 1 = .ok (.lload_n 2, 1) := by decide +kernel
theorem dX6_in_2 : decode cX6_in 2 = .ok (.lcmp, 1) := by decide +kernel
theorem dX6_in_3 : decode cX6_in 3 = .ok (.ifCond .lt 14, 3) := by decide +kernel
theorem dX6_in_6 : decode cX6_in 6 = .ok (.lload_n 0, 1) := by decide +kernel
theorem dX6_in_7 : decode cX6_in 7 = .ok (.lload 4, 2) := by decide +kernel
theorem dX6_in_9 : decode cX6_in 9 = .ok (.lcmp, 1) := by decide +kernel
theorem dX6_in_10 : decode cX6_in 10 = .ok (.ifCond .gt 7, 3) := by decide +kernel
theorem dX6_in_13 : decode cX6_in 13 = .ok (.iconst 1, 1) := by decide +kernel
theorem dX6_in_14 : decode cX6_in 14 = .ok (.goto 4, 3) := by decide +kernel
theorem dX6_in_17 : decode cX6_in 17 = .ok (.iconst 0, 1) := by decide +kernel
theorem dX6_in_18 : decode cX6_in 18 = .ok (.ireturn, 1) := by decide +kernel
theorem dX6_common_0 : decode cX6_common 0 = .ok (.lload_n 0, 1) := by decide +kernel
theorem dX6_common_1 : decode cX6_common 1 = .ok (.lstore 4, 2) := by decide +kernel
theorem dX6_common_3 : decode cX6_common 3 = .ok (.lload_n 2, 1) := by decide +kernel
theorem dX6_common_4 : decode cX6_common 4 = .ok (.lstore 6, 2) := by decide +kernel
theorem dX6_common_6 : decode cX6_common 6 = .ok (.lload 6, 2) := by decide +kernel
theorem dX6_common_8 : decode cX6_common 8 = .ok (.lconst 0, 1) := by decide +kernel
theorem dX6_common_9 : decode cX6_common 9 = .ok (.lcmp, 1) := by decide +kernel
theorem dX6_common_10 : decode cX6_common 10 = .ok (.ifCond .eq 21, 3) := by decide +kernel
theorem dX6_common_13 : decode cX6_common 13 = .ok (.lload 4, 2) := by decide +kernel
theorem dX6_common_15 : decode cX6_common 15 = .ok (.lload 6, 2) := by decide +kernel
theorem dX6_common_17 : decode cX6_common 17 = .ok (.lrem, 1) := by decide +kernel
theorem dX6_common_18 : decode cX6_common 18 = .ok (.lstore 8, 2) := by decide +kernel
theorem dX6_common_20 : decode cX6_common 20 = .ok (.lload 6, 2) := by decide +kernel
theorem dX6_common_22 : decode cX6_common 22 = .ok (.lstore 4, 2) := by decide +kernel
theorem dX6_common_24 : decode cX6_common 24 = .ok (.lload 8, 2) := by decide +kernel
theorem dX6_common_26 : decode cX6_common 26 = .ok (.lstore 6, 2) := by decide +kernel
theorem dX6_common_28 : decode cX6_common 28 = .ok (.goto (-22), 3) := by decide +kernel
theorem dX6_common_31 : decode cX6_common 31 = .ok (.lload 4, 2) := by decide +kernel
theorem dX6_common_33 : decode cX6_common 33 = .ok (.lreturn, 1) := by decide +kernel
set_option maxRecDepth 20000 in
theorem ggX6_count_X6_in : GoodIn wsX6_count wsX6_in := goodIn_r _ [7] (by decide +kernel) (by decide +kernel)
set_option maxRecDepth 20000 in
theorem gX6_count_X6_in : GoodIn wsX6_count (va_wsS RX6 52 yX6_in wsX6_in) := goodIn_app (goodIn_of _ (by decide +kernel)) ggX6_count_X6_in
theorem dX6_count_0 : decode cX6_count 0 = .ok (.iload_n 1, 1) := by decide +kernel
theorem dX6_count_1 : decode cX6_count 1 = .ok (.i2l, 1) := by decide +kernel
theorem dX6_count_2 : decode cX6_count 2 = .ok (.lconst 1, 1) := by decide +kernel
theorem dX6_count_3 : decode cX6_count 3 = .ok (.ldc2_w 50, 3) := by decide +kernel
theorem dX6_count_6 : decode cX6_count 6 = .ok (.invokestatic 52, 3) := by decide +kernel
theorem dX6_count_9 : decode cX6_count 9 = .ok (.ifCond .eq 15, 3) := by decide +kernel
theorem dX6_count_12 : decode cX6_count 12 = .ok (.iload_n 2, 1) := by decide +kernel
theorem dX6_count_13 : decode cX6_count 13 = .ok (.i2l, 1) := by decide +kernel
theorem dX6_count_14 : decode cX6_count 14 = .ok (.lconst 1, 1) := by decide +kernel
theorem dX6_count_15 : decode cX6_count 15 = .ok (.ldc2_w 50, 3) := by decide +kernel
theorem dX6_count_18 : decode cX6_count 18 = .ok (.invokestatic 52, 3) := by decide +kernel
theorem dX6_count_21 : decode cX6_count 21 = .ok (.ifCond .ne 6, 3) := by decide +kernel
theorem dX6_count_24 : decode cX6_count 24 = .ok (.bipush (-2), 2) := by decide +kernel
theorem dX6_count_26 : decode cX6_count 26 = .ok (.ireturn, 1) := by decide +kernel
theorem dX6_count_27 : decode cX6_count 27 = .ok (.aload_n 0, 1) := by decide +kernel
theorem dX6_count_28 : decode cX6_count 28 = .ok (.iload_n 1, 1) := by decide +kernel
theorem dX6_count_29 : decode cX6_count 29 = .ok (.putfield 7, 3) := by decide +kernel
theorem dX6_count_32 : decode cX6_count 32 = .ok (.aload_n 0, 1) := by decide +kernel
theorem dX6_count_33 : decode cX6_count 33 = .ok (.iload_n 2, 1) := by decide +kernel
theorem dX6_count_34 : decode cX6_count 34 = .ok (.putfield 13, 3) := by decide +kernel
theorem dX6_count_37 : decode cX6_count 37 = .ok (.iconst 1, 1) := by decide +kernel
theorem dX6_count_38 : decode cX6_count 38 = .ok (.ireturn, 1) := by decide +kernel
set_option maxRecDepth 20000 in
theorem ggX6_machine_X6_in : GoodIn wsX6_machine wsX6_in := goodIn_r _ [14] (by decide +kernel) (by decide +kernel)
set_option maxRecDepth 20000 in
theorem gX6_machine_X6_in : GoodIn wsX6_machine (va_wsS RX6 52 yX6_in wsX6_in) := goodIn_app (goodIn_of _ (by decide +kernel)) ggX6_machine_X6_in
theorem dX6_machine_0 : decode cX6_machine 0 = .ok (.iload_n 1, 1) := by decide +kernel
theorem dX6_machine_1 : decode cX6_machine 1 = .ok (.i2l, 1) := by decide +kernel
theorem dX6_machine_2 : decode cX6_machine 2 = .ok (.lconst 1, 1) := by decide +kernel
theorem dX6_machine_3 : decode cX6_machine 3 = .ok (.ldc2_w 56, 3) := by decide +kernel
theorem dX6_machine_6 : decode cX6_machine 6 = .ok (.invokestatic 52, 3) := by decide +kernel
theorem dX6_machine_9 : decode cX6_machine 9 = .ok (.ifCond .eq 40, 3) := by decide +kernel
theorem dX6_machine_12 : decode cX6_machine 12 = .ok (.iload_n 2, 1) := by decide +kernel
theorem dX6_machine_13 : decode cX6_machine 13 = .ok (.i2l, 1) := by decide +kernel
theorem dX6_machine_14 : decode cX6_machine 14 = .ok (.lconst 1, 1) := by decide +kernel
theorem dX6_machine_15 : decode cX6_machine 15 = .ok (.ldc2_w 58, 3) := by decide +kernel
theorem dX6_machine_18 : decode cX6_machine 18 = .ok (.invokestatic 52, 3) := by decide +kernel
theorem dX6_machine_21 : decode cX6_machine 21 = .ok (.ifCond .eq 28, 3) := by decide +kernel
theorem dX6_machine_24 : decode cX6_machine 24 = .ok (.iload_n 3, 1) := by decide +kernel
theorem dX6_machine_25 : decode cX6_machine 25 = .ok (.i2l, 1) := by decide +kernel
theorem dX6_machine_26 : decode cX6_machine 26 = .ok (.lconst 1, 1) := by decide +kernel
theorem dX6_machine_27 : decode cX6_machine 27 = .ok (.ldc2_w 60, 3) := by decide +kernel
theorem dX6_machine_30 : decode cX6_machine 30 = .ok (.invokestatic 52, 3) := by decide +kernel
theorem dX6_machine_33 : decode cX6_machine 33 = .ok (.ifCond .eq 16, 3) := by decide +kernel
theorem dX6_machine_36 : decode cX6_machine 36 = .ok (.iload 4, 2) := by decide +kernel
theorem dX6_machine_38 : decode cX6_machine 38 = .ok (.i2l, 1) := by decide +kernel
theorem dX6_machine_39 : decode cX6_machine 39 = .ok (.lconst 0, 1) := by decide +kernel
theorem dX6_machine_40 : decode cX6_machine 40 = .ok (.ldc2_w 62, 3) := by decide +kernel
theorem dX6_machine_43 : decode cX6_machine 43 = .ok (.invokestatic 52, 3) := by decide +kernel
theorem dX6_machine_46 : decode cX6_machine 46 = .ok (.ifCond .ne 6, 3) := by decide +kernel
theorem dX6_machine_49 : decode cX6_machine 49 = .ok (.bipush (-2), 2) := by decide +kernel
theorem dX6_machine_51 : decode cX6_machine 51 = .ok (.ireturn, 1) := by decide +kernel
theorem dX6_machine_52 : decode cX6_machine 52 = .ok (.aload_n 0, 1) := by decide +kernel
theorem dX6_machine_53 : decode cX6_machine 53 = .ok (.getfield 64, 3) := by decide +kernel
theorem dX6_machine_56 : decode cX6_machine 56 = .ok (.bipush 6, 2) := by decide +kernel
theorem dX6_machine_58 : decode cX6_machine 58 = .ok (.if_icmp .ne 6, 3) := by decide +kernel
theorem dX6_machine_61 : decode cX6_machine 61 = .ok (.bipush (-4), 2) := by decide +kernel
theorem dX6_machine_63 : decode cX6_machine 63 = .ok (.ireturn, 1) := by decide +kernel
theorem dX6_machine_64 : decode cX6_machine 64 = .ok (.aload_n 0, 1) := by decide +kernel
theorem dX6_machine_65 : decode cX6_machine 65 = .ok (.getfield 16, 3) := by decide +kernel
theorem dX6_machine_68 : decode cX6_machine 68 = .ok (.aload_n 0, 1) := by decide +kernel
theorem dX6_machine_69 : decode cX6_machine 69 = .ok (.getfield 64, 3) := by decide +kernel
theorem dX6_machine_72 : decode cX6_machine 72 = .ok (.iload_n 1, 1) := by decide +kernel
theorem dX6_machine_73 : decode cX6_machine 73 = .ok (.iastore, 1) := by decide +kernel
theorem dX6_machine_74 : decode cX6_machine 74 = .ok (.aload_n 0, 1) := by decide +kernel
theorem dX6_machine_75 : decode cX6_machine 75 = .ok (.getfield 20, 3) := by decide +kernel
theorem dX6_machine_78 : decode cX6_machine 78 = .ok (.aload_n 0, 1) := by decide +kernel
theorem dX6_machine_79 : decode cX6_machine 79 = .ok (.getfield 64, 3) := by decide +kernel
theorem dX6_machine_82 : decode cX6_machine 82 = .ok (.iload_n 2, 1) := by decide +kernel
theorem dX6_machine_83 : decode cX6_machine 83 = .ok (.iastore, 1) := by decide +kernel
theorem dX6_machine_84 : decode cX6_machine 84 = .ok (.aload_n 0, 1) := by decide +kernel
theorem dX6_machine_85 : decode cX6_machine 85 = .ok (.getfield 23, 3) := by decide +kernel
theorem dX6_machine_88 : decode cX6_machine 88 = .ok (.aload_n 0, 1) := by decide +kernel
theorem dX6_machine_89 : decode cX6_machine 89 = .ok (.getfield 64, 3) := by decide +kernel
theorem dX6_machine_92 : decode cX6_machine 92 = .ok (.iload_n 3, 1) := by decide +kernel
theorem dX6_machine_93 : decode cX6_machine 93 = .ok (.iastore, 1) := by decide +kernel
theorem dX6_machine_94 : decode cX6_machine 94 = .ok (.aload_n 0, 1) := by decide +kernel
theorem dX6_machine_95 : decode cX6_machine 95 = .ok (.getfield 26, 3) := by decide +kernel
theorem dX6_machine_98 : decode cX6_machine 98 = .ok (.aload_n 0, 1) := by decide +kernel
theorem dX6_machine_99 : decode cX6_machine 99 = .ok (.getfield 64, 3) := by decide +kernel
theorem dX6_machine_102 : decode cX6_machine 102 = .ok (.iload 4, 2) := by decide +kernel
theorem dX6_machine_104 : decode cX6_machine 104 = .ok (.iastore, 1) := by decide +kernel
theorem dX6_machine_105 : decode cX6_machine 105 = .ok (.aload_n 0, 1) := by decide +kernel
theorem dX6_machine_106 : decode cX6_machine 106 = .ok (.getfield 29, 3) := by decide +kernel
theorem dX6_machine_109 : decode cX6_machine 109 = .ok (.aload_n 0, 1) := by decide +kernel
theorem dX6_machine_110 : decode cX6_machine 110 = .ok (.getfield 64, 3) := by decide +kernel
theorem dX6_machine_113 : decode cX6_machine 113 = .ok (.iconst 0, 1) := by decide +kernel
theorem dX6_machine_114 : decode cX6_machine 114 = .ok (.iastore, 1) := by decide +kernel
theorem dX6_machine_115 : decode cX6_machine 115 = .ok (.aload_n 0, 1) := by decide +kernel
theorem dX6_machine_116 : decode cX6_machine 116 = .ok (.dup, 1) := by decide +kernel
theorem dX6_machine_117 : decode cX6_machine 117 = .ok (.getfield 64, 3) := by decide +kernel
theorem dX6_machine_120 : decode cX6_machine 120 = .ok (.iconst 1, 1) := by decide +kernel
theorem dX6_machine_121 : decode cX6_machine 121 = .ok (.iadd, 1) := by decide +kernel
theorem dX6_machine_122 : decode cX6_machine 122 = .ok (.putfield 64, 3) := by decide +kernel
theorem dX6_machine_125 : decode cX6_machine 125 = .ok (.aload_n 0, 1) := by decide +kernel
theorem dX6_machine_126 : decode cX6_machine 126 = .ok (.getfield 64, 3) := by decide +kernel
theorem dX6_machine_129 : decode cX6_machine 129 = .ok (.iconst 1, 1) := by decide +kernel
theorem dX6_machine_130 : decode cX6_machine 130 = .ok (.isub, 1) := by decide +kernel
theorem dX6_machine_131 : decode cX6_machine 131 = .ok (.ireturn, 1) := by decide +kernel
set_option maxRecDepth 20000 in
theorem ggX6_isMachine_X6_in : GoodIn wsX6_isMachine wsX6_in := goodIn_r _ [5] (by decide +kernel) (by decide +kernel)
set_option maxRecDepth 20000 in
theorem gX6_isMachine_X6_in : GoodIn wsX6_isMachine (va_wsS RX6 52 yX6_in wsX6_in) := goodIn_app (goodIn_of _ (by decide +kernel)) ggX6_isMachine_X6_in
theorem dX6_isMachine_0 : decode cX6_isMachine 0 = .ok (.iload_n 1, 1) := by decide +kernel
theorem dX6_isMachine_1 : decode cX6_isMachine 1 = .ok (.i2l, 1) := by decide +kernel
theorem dX6_isMachine_2 : decode cX6_isMachine 2 = .ok (.lconst 0, 1) := by decide +kernel
theorem dX6_isMachine_3 : decode cX6_isMachine 3 = .ok (.aload_n 0, 1) := by decide +kernel
theorem dX6_isMachine_4 : decode cX6_isMachine 4 = .ok (.getfield 64, 3) := by decide +kernel
theorem dX6_isMachine_7 : decode cX6_isMachine 7 = .ok (.iconst 1, 1) := by decide +kernel
theorem dX6_isMachine_8 : decode cX6_isMachine 8 = .ok (.isub, 1) := by decide +kernel
theorem dX6_isMachine_9 : decode cX6_isMachine 9 = .ok (.i2l, 1) := by decide +kernel
theorem dX6_isMachine_10 : decode cX6_isMachine 10 = .ok (.invokestatic 52, 3) := by decide +kernel
theorem dX6_isMachine_13 : decode cX6_isMachine 13 = .ok (.ireturn, 1) := by decide +kernel
set_option maxRecDepth 20000 in
theorem ggX6_roller_X6_isMachine : GoodIn wsX6_roller wsX6_isMachine := goodIn_r _ [8, 9, 10, 11, 7, 12, 13, 14, 15, 16, 17, 18, 19, 20, 21, 22, 23, 24, 25, 26, 27, 28, 29, 30] (by decide +kernel) (by decide +kernel)
set_option maxRecDepth 20000 in
theorem gX6_roller_X6_isMachine : GoodIn wsX6_roller (wsV RX6 67 RX6 yX6_isMachine wsX6_isMachine) := goodIn_app (goodIn_of _ (by decide +kernel)) ggX6_roller_X6_isMachine
set_option maxRecDepth 20000 in
theorem ggX6_roller_X6_in : GoodIn wsX6_roller wsX6_in := goodIn_r _ [12] (by decide +kernel) (by decide +kernel)
set_option maxRecDepth 20000 in
theorem gX6_roller_X6_in : GoodIn wsX6_roller (va_wsS RX6 52 yX6_in wsX6_in) := goodIn_app (goodIn_of _ (by decide +kernel)) ggX6_roller_X6_in
theorem dX6_roller_0 : decode cX6_roller 0 = .ok (.aload_n 0, 1) := by decide +kernel
theorem dX6_roller_1 : decode cX6_roller 1 = .ok (.iload_n 1, 1) := by decide +kernel
theorem dX6_roller_2 : decode cX6_roller 2 = .ok (.invokevirtual 67, 3) := by decide +kernel
theorem dX6_roller_5 : decode cX6_roller 5 = .ok (.ifCond .eq 15, 3) := by decide +kernel
theorem dX6_roller_8 : decode cX6_roller 8 = .ok (.iload_n 2, 1) := by decide +kernel
theorem dX6_roller_9 : decode cX6_roller 9 = .ok (.i2l, 1) := by decide +kernel
theorem dX6_roller_10 : decode cX6_roller 10 = .ok (.lconst 1, 1) := by decide +kernel
theorem dX6_roller_11 : decode cX6_roller 11 = .ok (.ldc2_w 71, 3) := by decide +kernel
theorem dX6_roller_14 : decode cX6_roller 14 = .ok (.invokestatic 52, 3) := by decide +kernel
theorem dX6_roller_17 : decode cX6_roller 17 = .ok (.ifCond .ne 6, 3) := by decide +kernel
theorem dX6_roller_20 : decode cX6_roller 20 = .ok (.bipush (-2), 2) := by decide +kernel
theorem dX6_roller_22 : decode cX6_roller 22 = .ok (.ireturn, 1) := by decide +kernel
theorem dX6_roller_23 : decode cX6_roller 23 = .ok (.aload_n 0, 1) := by decide +kernel
theorem dX6_roller_24 : decode cX6_roller 24 = .ok (.getfield 29, 3) := by decide +kernel
theorem dX6_roller_27 : decode cX6_roller 27 = .ok (.iload_n 1, 1) := by decide +kernel
theorem dX6_roller_28 : decode cX6_roller 28 = .ok (.iaload, 1) := by decide +kernel
theorem dX6_roller_29 : decode cX6_roller 29 = .ok (.iconst 3, 1) := by decide +kernel
theorem dX6_roller_30 : decode cX6_roller 30 = .ok (.if_icmp .ne 6, 3) := by decide +kernel
theorem dX6_roller_33 : decode cX6_roller 33 = .ok (.bipush (-4), 2) := by decide +kernel
theorem dX6_roller_35 : decode cX6_roller 35 = .ok (.ireturn, 1) := by decide +kernel
theorem dX6_roller_36 : decode cX6_roller 36 = .ok (.aload_n 0, 1) := by decide +kernel
theorem dX6_roller_37 : decode cX6_roller 37 = .ok (.getfield 32, 3) := by decide +kernel
theorem dX6_roller_40 : decode cX6_roller 40 = .ok (.iconst 3, 1) := by decide +kernel
theorem dX6_roller_41 : decode cX6_roller 41 = .ok (.iload_n 1, 1) := by decide +kernel
theorem dX6_roller_42 : decode cX6_roller 42 = .ok (.imul, 1) := by decide +kernel
theorem dX6_roller_43 : decode cX6_roller 43 = .ok (.aload_n 0, 1) := by decide +kernel
theorem dX6_roller_44 : decode cX6_roller 44 = .ok (.getfield 29, 3) := by decide +kernel
theorem dX6_roller_47 : decode cX6_roller 47 = .ok (.iload_n 1, 1) := by decide +kernel
theorem dX6_roller_48 : decode cX6_roller 48 = .ok (.iaload, 1) := by decide +kernel
theorem dX6_roller_49 : decode cX6_roller 49 = .ok (.iadd, 1) := by decide +kernel
theorem dX6_roller_50 : decode cX6_roller 50 = .ok (.iload_n 2, 1) := by decide +kernel
theorem dX6_roller_51 : decode cX6_roller 51 = .ok (.iastore, 1) := by decide +kernel
theorem dX6_roller_52 : decode cX6_roller 52 = .ok (.aload_n 0, 1) := by decide +kernel
theorem dX6_roller_53 : decode cX6_roller 53 = .ok (.getfield 29, 3) := by decide +kernel
theorem dX6_roller_56 : decode cX6_roller 56 = .ok (.iload_n 1, 1) := by decide +kernel
theorem dX6_roller_57 : decode cX6_roller 57 = .ok (.dup2, 1) := by decide +kernel
theorem dX6_roller_58 : decode cX6_roller 58 = .ok (.iaload, 1) := by decide +kernel
theorem dX6_roller_59 : decode cX6_roller 59 = .ok (.iconst 1, 1) := by decide +kernel
theorem dX6_roller_60 : decode cX6_roller 60 = .ok (.iadd, 1) := by decide +kernel
theorem dX6_roller_61 : decode cX6_roller 61 = .ok (.iastore, 1) := by decide +kernel
theorem dX6_roller_62 : decode cX6_roller 62 = .ok (.aload_n 0, 1) := by decide +kernel
theorem dX6_roller_63 : decode cX6_roller 63 = .ok (.getfield 29, 3) := by decide +kernel
theorem dX6_roller_66 : decode cX6_roller 66 = .ok (.iload_n 1, 1) := by decide +kernel
theorem dX6_roller_67 : decode cX6_roller 67 = .ok (.iaload, 1) := by decide +kernel
theorem dX6_roller_68 : decode cX6_roller 68 = .ok (.iconst 1, 1) := by decide +kernel
theorem dX6_roller_69 : decode cX6_roller 69 = .ok (.isub, 1) := by decide +kernel
theorem dX6_roller_70 : decode cX6_roller 70 = .ok (.ireturn, 1) := by decide +kernel
theorem dX6_clear_0 : decode cX6_clear 0 = .ok (.aload_n 0, 1) := by decide +kernel
theorem dX6_clear_1 : decode cX6_clear 1 = .ok (.getfield 64, 3) := by decide +kernel
theorem dX6_clear_4 : decode cX6_clear 4 = .ok (.istore_n 1, 1) := by decide +kernel
theorem dX6_clear_5 : decode cX6_clear 5 = .ok (.aload_n 0, 1) := by decide +kernel
theorem dX6_clear_6 : decode cX6_clear 6 = .ok (.iconst 0, 1) := by decide +kernel
theorem dX6_clear_7 : decode cX6_clear 7 = .ok (.putfield 64, 3) := by decide +kernel
theorem dX6_clear_10 : decode cX6_clear 10 = .ok (.iload_n 1, 1) := by decide +kernel
theorem dX6_clear_11 : decode cX6_clear 11 = .ok (.ireturn, 1) := by decide +kernel
set_option maxRecDepth 20000 in
theorem ggX6_countOf_X6_common : GoodIn wsX6_countOf wsX6_common := goodIn_r _ [13] (by decide +kernel) (by decide +kernel)
set_option maxRecDepth 20000 in
theorem gX6_countOf_X6_common : GoodIn wsX6_countOf (va_wsS RX6 73 yX6_common wsX6_common) := goodIn_app (goodIn_of _ (by decide +kernel)) ggX6_countOf_X6_common
theorem dX6_countOf_0 : decode cX6_countOf 0 = .ok (.aload_n 0, 1) := by decide +kernel
theorem dX6_countOf_1 : decode cX6_countOf 1 = .ok (.getfield 7, 3) := by decide +kernel
theorem dX6_countOf_4 : decode cX6_countOf 4 = .ok (.i2l, 1) := by decide +kernel
theorem dX6_countOf_5 : decode cX6_countOf 5 = .ok (.aload_n 0, 1) := by decide +kernel
theorem dX6_countOf_6 : decode cX6_countOf 6 = .ok (.getfield 7, 3) := by decide +kernel
theorem dX6_countOf_9 : decode cX6_countOf 9 = .ok (.i2l, 1) := by decide +kernel
theorem dX6_countOf_10 : decode cX6_countOf 10 = .ok (.aload_n 0, 1) := by decide +kernel
theorem dX6_countOf_11 : decode cX6_countOf 11 = .ok (.getfield 13, 3) := by decide +kernel
theorem dX6_countOf_14 : decode cX6_countOf 14 = .ok (.i2l, 1) := by decide +kernel
theorem dX6_countOf_15 : decode cX6_countOf 15 = .ok (.invokestatic 73, 3) := by decide +kernel
theorem dX6_countOf_18 : decode cX6_countOf 18 = .ok (.ldiv, 1) := by decide +kernel
theorem dX6_countOf_19 : decode cX6_countOf 19 = .ok (.lstore_n 3, 1) := by decide +kernel
theorem dX6_countOf_20 : decode cX6_countOf 20 = .ok (.aload_n 0, 1) := by decide +kernel
theorem dX6_countOf_21 : decode cX6_countOf 21 = .ok (.getfield 13, 3) := by decide +kernel
theorem dX6_countOf_24 : decode cX6_countOf 24 = .ok (.i2l, 1) := by decide +kernel
theorem dX6_countOf_25 : decode cX6_countOf 25 = .ok (.aload_n 0, 1) := by decide +kernel
theorem dX6_countOf_26 : decode cX6_countOf 26 = .ok (.getfield 7, 3) := by decide +kernel
theorem dX6_countOf_29 : decode cX6_countOf 29 = .ok (.i2l, 1) := by decide +kernel
theorem dX6_countOf_30 : decode cX6_countOf 30 = .ok (.aload_n 0, 1) := by decide +kernel
theorem dX6_countOf_31 : decode cX6_countOf 31 = .ok (.getfield 13, 3) := by decide +kernel
theorem dX6_countOf_34 : decode cX6_countOf 34 = .ok (.i2l, 1) := by decide +kernel
theorem dX6_countOf_35 : decode cX6_countOf 35 = .ok (.invokestatic 73, 3) := by decide +kernel
theorem dX6_countOf_38 : decode cX6_countOf 38 = .ok (.ldiv, 1) := by decide +kernel
theorem dX6_countOf_39 : decode cX6_countOf 39 = .ok (.lstore 5, 2) := by decide +kernel
theorem dX6_countOf_41 : decode cX6_countOf 41 = .ok (.iconst 0, 1) := by decide +kernel
theorem dX6_countOf_42 : decode cX6_countOf 42 = .ok (.istore 7, 2) := by decide +kernel
theorem dX6_countOf_44 : decode cX6_countOf 44 = .ok (.iload 7, 2) := by decide +kernel
theorem dX6_countOf_46 : decode cX6_countOf 46 = .ok (.iload_n 1, 1) := by decide +kernel
theorem dX6_countOf_47 : decode cX6_countOf 47 = .ok (.if_icmp .ge 100, 3) := by decide +kernel
theorem dX6_countOf_50 : decode cX6_countOf 50 = .ok (.lload_n 3, 1) := by decide +kernel
theorem dX6_countOf_51 : decode cX6_countOf 51 = .ok (.aload_n 0, 1) := by decide +kernel
theorem dX6_countOf_52 : decode cX6_countOf 52 = .ok (.getfield 16, 3) := by decide +kernel
theorem dX6_countOf_55 : decode cX6_countOf 55 = .ok (.iload 7, 2) := by decide +kernel
theorem dX6_countOf_57 : decode cX6_countOf 57 = .ok (.iaload, 1) := by decide +kernel
theorem dX6_countOf_58 : decode cX6_countOf 58 = .ok (.i2l, 1) := by decide +kernel
theorem dX6_countOf_59 : decode cX6_countOf 59 = .ok (.ldc2_w 71, 3) := by decide +kernel
theorem dX6_countOf_62 : decode cX6_countOf 62 = .ok (.aload_n 0, 1) := by decide +kernel
theorem dX6_countOf_63 : decode cX6_countOf 63 = .ok (.getfield 26, 3) := by decide +kernel
theorem dX6_countOf_66 : decode cX6_countOf 66 = .ok (.iload 7, 2) := by decide +kernel
theorem dX6_countOf_68 : decode cX6_countOf 68 = .ok (.iaload, 1) := by decide +kernel
theorem dX6_countOf_69 : decode cX6_countOf 69 = .ok (.i2l, 1) := by decide +kernel
theorem dX6_countOf_70 : decode cX6_countOf 70 = .ok (.lsub, 1) := by decide +kernel
theorem dX6_countOf_71 : decode cX6_countOf 71 = .ok (.lmul, 1) := by decide +kernel
theorem dX6_countOf_72 : decode cX6_countOf 72 = .ok (.aload_n 0, 1) := by decide +kernel
theorem dX6_countOf_73 : decode cX6_countOf 73 = .ok (.getfield 23, 3) := by decide +kernel
theorem dX6_countOf_76 : decode cX6_countOf 76 = .ok (.iload 7, 2) := by decide +kernel
theorem dX6_countOf_78 : decode cX6_countOf 78 = .ok (.iaload, 1) := by decide +kernel
theorem dX6_countOf_79 : decode cX6_countOf 79 = .ok (.i2l, 1) := by decide +kernel
theorem dX6_countOf_80 : decode cX6_countOf 80 = .ok (.lmul, 1) := by decide +kernel
theorem dX6_countOf_81 : decode cX6_countOf 81 = .ok (.lmul, 1) := by decide +kernel
theorem dX6_countOf_82 : decode cX6_countOf 82 = .ok (.lstore_n 3, 1) := by decide +kernel
theorem dX6_countOf_83 : decode cX6_countOf 83 = .ok (.lload 5, 2) := by decide +kernel
theorem dX6_countOf_85 : decode cX6_countOf 85 = .ok (.ldc2_w 71, 3) := by decide +kernel
theorem dX6_countOf_88 : decode cX6_countOf 88 = .ok (.aload_n 0, 1) := by decide +kernel
theorem dX6_countOf_89 : decode cX6_countOf 89 = .ok (.getfield 20, 3) := by decide +kernel
theorem dX6_countOf_92 : decode cX6_countOf 92 = .ok (.iload 7, 2) := by decide +kernel
theorem dX6_countOf_94 : decode cX6_countOf 94 = .ok (.iaload, 1) := by decide +kernel
theorem dX6_countOf_95 : decode cX6_countOf 95 = .ok (.i2l, 1) := by decide +kernel
theorem dX6_countOf_96 : decode cX6_countOf 96 = .ok (.lmul, 1) := by decide +kernel
theorem dX6_countOf_97 : decode cX6_countOf 97 = .ok (.lmul, 1) := by decide +kernel
theorem dX6_countOf_98 : decode cX6_countOf 98 = .ok (.lstore 5, 2) := by decide +kernel
theorem dX6_countOf_100 : decode cX6_countOf 100 = .ok (.lload_n 3, 1) := by decide +kernel
theorem dX6_countOf_101 : decode cX6_countOf 101 = .ok (.lload 5, 2) := by decide +kernel
theorem dX6_countOf_103 : decode cX6_countOf 103 = .ok (.invokestatic 73, 3) := by decide +kernel
theorem dX6_countOf_106 : decode cX6_countOf 106 = .ok (.lstore 8, 2) := by decide +kernel
theorem dX6_countOf_108 : decode cX6_countOf 108 = .ok (.lload_n 3, 1) := by decide +kernel
theorem dX6_countOf_109 : decode cX6_countOf 109 = .ok (.lload 8, 2) := by decide +kernel
theorem dX6_countOf_111 : decode cX6_countOf 111 = .ok (.ldiv, 1) := by decide +kernel
theorem dX6_countOf_112 : decode cX6_countOf 112 = .ok (.lstore_n 3, 1) := by decide +kernel
theorem dX6_countOf_113 : decode cX6_countOf 113 = .ok (.lload 5, 2) := by decide +kernel
theorem dX6_countOf_115 : decode cX6_countOf 115 = .ok (.lload 8, 2) := by decide +kernel
theorem dX6_countOf_117 : decode cX6_countOf 117 = .ok (.ldiv, 1) := by decide +kernel
theorem dX6_countOf_118 : decode cX6_countOf 118 = .ok (.lstore 5, 2) := by decide +kernel
theorem dX6_countOf_120 : decode cX6_countOf 120 = .ok (.lload_n 3, 1) := by decide +kernel
theorem dX6_countOf_121 : decode cX6_countOf 121 = .ok (.ldc2_w 77, 3) := by decide +kernel
theorem dX6_countOf_124 : decode cX6_countOf 124 = .ok (.lcmp, 1) := by decide +kernel
theorem dX6_countOf_125 : decode cX6_countOf 125 = .ok (.ifCond .gt 12, 3) := by decide +kernel
theorem dX6_countOf_128 : decode cX6_countOf 128 = .ok (.lload 5, 2) := by decide +kernel
theorem dX6_countOf_130 : decode cX6_countOf 130 = .ok (.ldc2_w 77, 3) := by decide +kernel
theorem dX6_countOf_133 : decode cX6_countOf 133 = .ok (.lcmp, 1) := by decide +kernel
theorem dX6_countOf_134 : decode cX6_countOf 134 = .ok (.ifCond .le 7, 3) := by decide +kernel
theorem dX6_countOf_137 : decode cX6_countOf 137 = .ok (.ldc2_w 79, 3) := by decide +kernel
theorem dX6_countOf_140 : decode cX6_countOf 140 = .ok (.lreturn, 1) := by decide +kernel
theorem dX6_countOf_141 : decode cX6_countOf 141 = .ok (.iinc 7 1, 3) := by decide +kernel
theorem dX6_countOf_144 : decode cX6_countOf 144 = .ok (.goto (-100), 3) := by decide +kernel
theorem dX6_countOf_147 : decode cX6_countOf 147 = .ok (.iload_n 2, 1) := by decide +kernel
theorem dX6_countOf_148 : decode cX6_countOf 148 = .ok (.ifCond .ne 7, 3) := by decide +kernel
theorem dX6_countOf_151 : decode cX6_countOf 151 = .ok (.lload_n 3, 1) := by decide +kernel
theorem dX6_countOf_152 : decode cX6_countOf 152 = .ok (.goto 5, 3) := by decide +kernel
theorem dX6_countOf_155 : decode cX6_countOf 155 = .ok (.lload 5, 2) := by decide +kernel
theorem dX6_countOf_157 : decode cX6_countOf 157 = .ok (.lreturn, 1) := by decide +kernel
set_option maxRecDepth 20000 in
theorem ggX6_countAt_X6_in : GoodIn wsX6_countAt wsX6_in := goodIn_r _ [6] (by decide +kernel) (by decide +kernel)
set_option maxRecDepth 20000 in
theorem gX6_countAt_X6_in : GoodIn wsX6_countAt (va_wsS RX6 52 yX6_in wsX6_in) := goodIn_app (goodIn_of _ (by decide +kernel)) ggX6_countAt_X6_in
set_option maxRecDepth 20000 in
theorem ggX6_countAt_X6_countOf : GoodIn wsX6_countAt wsX6_countOf := goodIn_r _ [10, 11, 12, 13, 14, 15, 16, 17, 18, 19, 20, 21, 5, 22, 23, 24, 25, 26, 27, 28, 29, 30, 31, 32, 33, 34, 35, 36, 37, 38, 39, 40] (by decide +kernel) (by decide +kernel)
set_option maxRecDepth 20000 in
theorem gX6_countAt_X6_countOf : GoodIn wsX6_countAt (wsV RX6 81 RX6 yX6_countOf wsX6_countOf) := goodIn_app (goodIn_of _ (by decide +kernel)) ggX6_countAt_X6_countOf
theorem dX6_countAt_0 : decode cX6_countAt 0 = .ok (.iload_n 1, 1) := by decide +kernel
theorem dX6_countAt_1 : decode cX6_countAt 1 = .ok (.i2l, 1) := by decide +kernel
theorem dX6_countAt_2 : decode cX6_countAt 2 = .ok (.lconst 0, 1) := by decide +kernel
theorem dX6_countAt_3 : decode cX6_countAt 3 = .ok (.aload_n 0, 1) := by decide +kernel
theorem dX6_countAt_4 : decode cX6_countAt 4 = .ok (.getfield 64, 3) := by decide +kernel
theorem dX6_countAt_7 : decode cX6_countAt 7 = .ok (.i2l, 1) := by decide +kernel
theorem dX6_countAt_8 : decode cX6_countAt 8 = .ok (.invokestatic 52, 3) := by decide +kernel
theorem dX6_countAt_11 : decode cX6_countAt 11 = .ok (.ifCond .eq 22, 3) := by decide +kernel
theorem dX6_countAt_14 : decode cX6_countAt 14 = .ok (.iload_n 2, 1) := by decide +kernel
theorem dX6_countAt_15 : decode cX6_countAt 15 = .ok (.i2l, 1) := by decide +kernel
theorem dX6_countAt_16 : decode cX6_countAt 16 = .ok (.lconst 0, 1) := by decide +kernel
theorem dX6_countAt_17 : decode cX6_countAt 17 = .ok (.lconst 1, 1) := by decide +kernel
theorem dX6_countAt_18 : decode cX6_countAt 18 = .ok (.invokestatic 52, 3) := by decide +kernel
theorem dX6_countAt_21 : decode cX6_countAt 21 = .ok (.ifCond .eq 12, 3) := by decide +kernel
theorem dX6_countAt_24 : decode cX6_countAt 24 = .ok (.aload_n 0, 1) := by decide +kernel
theorem dX6_countAt_25 : decode cX6_countAt 25 = .ok (.iload_n 1, 1) := by decide +kernel
theorem dX6_countAt_26 : decode cX6_countAt 26 = .ok (.iload_n 2, 1) := by decide +kernel
theorem dX6_countAt_27 : decode cX6_countAt 27 = .ok (.invokevirtual 81, 3) := by decide +kernel
theorem dX6_countAt_30 : decode cX6_countAt 30 = .ok (.goto 6, 3) := by decide +kernel
theorem dX6_countAt_33 : decode cX6_countAt 33 = .ok (.ldc2_w 85, 3) := by decide +kernel
theorem dX6_countAt_36 : decode cX6_countAt 36 = .ok (.lreturn, 1) := by decide +kernel
set_option maxRecDepth 20000 in
theorem ggX6_periodOf_X6_common : GoodIn wsX6_periodOf wsX6_common := goodIn_r _ [8] (by decide +kernel) (by decide +kernel)
set_option maxRecDepth 20000 in
theorem gX6_periodOf_X6_common : GoodIn wsX6_periodOf (va_wsS RX6 73 yX6_common wsX6_common) := goodIn_app (goodIn_of _ (by decide +kernel)) ggX6_periodOf_X6_common
theorem dX6_periodOf_0 : decode cX6_periodOf 0 = .ok (.aload_n 0, 1) := by decide +kernel
theorem dX6_periodOf_1 : decode cX6_periodOf 1 = .ok (.getfield 32, 3) := by decide +kernel
theorem dX6_periodOf_4 : decode cX6_periodOf 4 = .ok (.iconst 3, 1) := by decide +kernel
theorem dX6_periodOf_5 : decode cX6_periodOf 5 = .ok (.iload_n 1, 1) := by decide +kernel
theorem dX6_periodOf_6 : decode cX6_periodOf 6 = .ok (.imul, 1) := by decide +kernel
theorem dX6_periodOf_7 : decode cX6_periodOf 7 = .ok (.iload_n 2, 1) := by decide +kernel
theorem dX6_periodOf_8 : decode cX6_periodOf 8 = .ok (.iadd, 1) := by decide +kernel
theorem dX6_periodOf_9 : decode cX6_periodOf 9 = .ok (.iaload, 1) := by decide +kernel
theorem dX6_periodOf_10 : decode cX6_periodOf 10 = .ok (.i2l, 1) := by decide +kernel
theorem dX6_periodOf_11 : decode cX6_periodOf 11 = .ok (.lstore 4, 2) := by decide +kernel
theorem dX6_periodOf_13 : decode cX6_periodOf 13 = .ok (.lconst 1, 1) := by decide +kernel
theorem dX6_periodOf_14 : decode cX6_periodOf 14 = .ok (.lstore 6, 2) := by decide +kernel
theorem dX6_periodOf_16 : decode cX6_periodOf 16 = .ok (.iload_n 1, 1) := by decide +kernel
theorem dX6_periodOf_17 : decode cX6_periodOf 17 = .ok (.iconst 1, 1) := by decide +kernel
theorem dX6_periodOf_18 : decode cX6_periodOf 18 = .ok (.iadd, 1) := by decide +kernel
theorem dX6_periodOf_19 : decode cX6_periodOf 19 = .ok (.istore 8, 2) := by decide +kernel
theorem dX6_periodOf_21 : decode cX6_periodOf 21 = .ok (.iload 8, 2) := by decide +kernel
theorem dX6_periodOf_23 : decode cX6_periodOf 23 = .ok (.aload_n 0, 1) := by decide +kernel
theorem dX6_periodOf_24 : decode cX6_periodOf 24 = .ok (.getfield 64, 3) := by decide +kernel
theorem dX6_periodOf_27 : decode cX6_periodOf 27 = .ok (.if_icmp .ge 58, 3) := by decide +kernel
theorem dX6_periodOf_30 : decode cX6_periodOf 30 = .ok (.lload 4, 2) := by decide +kernel
theorem dX6_periodOf_32 : decode cX6_periodOf 32 = .ok (.aload_n 0, 1) := by decide +kernel
theorem dX6_periodOf_33 : decode cX6_periodOf 33 = .ok (.getfield 20, 3) := by decide +kernel
theorem dX6_periodOf_36 : decode cX6_periodOf 36 = .ok (.iload 8, 2) := by decide +kernel
theorem dX6_periodOf_38 : decode cX6_periodOf 38 = .ok (.iaload, 1) := by decide +kernel
theorem dX6_periodOf_39 : decode cX6_periodOf 39 = .ok (.i2l, 1) := by decide +kernel
theorem dX6_periodOf_40 : decode cX6_periodOf 40 = .ok (.lmul, 1) := by decide +kernel
theorem dX6_periodOf_41 : decode cX6_periodOf 41 = .ok (.lstore 4, 2) := by decide +kernel
theorem dX6_periodOf_43 : decode cX6_periodOf 43 = .ok (.lload 6, 2) := by decide +kernel
theorem dX6_periodOf_45 : decode cX6_periodOf 45 = .ok (.aload_n 0, 1) := by decide +kernel
theorem dX6_periodOf_46 : decode cX6_periodOf 46 = .ok (.getfield 23, 3) := by decide +kernel
theorem dX6_periodOf_49 : decode cX6_periodOf 49 = .ok (.iload 8, 2) := by decide +kernel
theorem dX6_periodOf_51 : decode cX6_periodOf 51 = .ok (.iaload, 1) := by decide +kernel
theorem dX6_periodOf_52 : decode cX6_periodOf 52 = .ok (.i2l, 1) := by decide +kernel
theorem dX6_periodOf_53 : decode cX6_periodOf 53 = .ok (.lmul, 1) := by decide +kernel
theorem dX6_periodOf_54 : decode cX6_periodOf 54 = .ok (.lstore 6, 2) := by decide +kernel
theorem dX6_periodOf_56 : decode cX6_periodOf 56 = .ok (.lload 4, 2) := by decide +kernel
theorem dX6_periodOf_58 : decode cX6_periodOf 58 = .ok (.lload 6, 2) := by decide +kernel
theorem dX6_periodOf_60 : decode cX6_periodOf 60 = .ok (.invokestatic 73, 3) := by decide +kernel
theorem dX6_periodOf_63 : decode cX6_periodOf 63 = .ok (.lstore 9, 2) := by decide +kernel
theorem dX6_periodOf_65 : decode cX6_periodOf 65 = .ok (.lload 4, 2) := by decide +kernel
theorem dX6_periodOf_67 : decode cX6_periodOf 67 = .ok (.lload 9, 2) := by decide +kernel
theorem dX6_periodOf_69 : decode cX6_periodOf 69 = .ok (.ldiv, 1) := by decide +kernel
theorem dX6_periodOf_70 : decode cX6_periodOf 70 = .ok (.lstore 4, 2) := by decide +kernel
theorem dX6_periodOf_72 : decode cX6_periodOf 72 = .ok (.lload 6, 2) := by decide +kernel
theorem dX6_periodOf_74 : decode cX6_periodOf 74 = .ok (.lload 9, 2) := by decide +kernel
theorem dX6_periodOf_76 : decode cX6_periodOf 76 = .ok (.ldiv, 1) := by decide +kernel
theorem dX6_periodOf_77 : decode cX6_periodOf 77 = .ok (.lstore 6, 2) := by decide +kernel
theorem dX6_periodOf_79 : decode cX6_periodOf 79 = .ok (.iinc 8 1, 3) := by decide +kernel
theorem dX6_periodOf_82 : decode cX6_periodOf 82 = .ok (.goto (-61), 3) := by decide +kernel
theorem dX6_periodOf_85 : decode cX6_periodOf 85 = .ok (.iload_n 3, 1) := by decide +kernel
theorem dX6_periodOf_86 : decode cX6_periodOf 86 = .ok (.ifCond .ne 8, 3) := by decide +kernel
theorem dX6_periodOf_89 : decode cX6_periodOf 89 = .ok (.lload 4, 2) := by decide +kernel
theorem dX6_periodOf_91 : decode cX6_periodOf 91 = .ok (.goto 5, 3) := by decide +kernel
theorem dX6_periodOf_94 : decode cX6_periodOf 94 = .ok (.lload 6, 2) := by decide +kernel
theorem dX6_periodOf_96 : decode cX6_periodOf 96 = .ok (.lreturn, 1) := by decide +kernel
set_option maxRecDepth 20000 in
theorem ggX6_period_X6_isMachine : GoodIn wsX6_period wsX6_isMachine := goodIn_r _ [7, 8, 9, 10, 6, 11, 22, 23, 24, 25, 26, 27, 28, 29, 30, 31, 32, 33, 34, 35, 36, 37, 38, 39] (by decide +kernel) (by decide +kernel)
set_option maxRecDepth 20000 in
theorem gX6_period_X6_isMachine : GoodIn wsX6_period (wsV RX6 67 RX6 yX6_isMachine wsX6_isMachine) := goodIn_app (goodIn_of _ (by decide +kernel)) ggX6_period_X6_isMachine
set_option maxRecDepth 20000 in
theorem ggX6_period_X6_in : GoodIn wsX6_period wsX6_in := goodIn_r _ [11] (by decide +kernel) (by decide +kernel)
set_option maxRecDepth 20000 in
theorem gX6_period_X6_in : GoodIn wsX6_period (va_wsS RX6 52 yX6_in wsX6_in) := goodIn_app (goodIn_of _ (by decide +kernel)) ggX6_period_X6_in
set_option maxRecDepth 20000 in
theorem ggX6_period_X6_periodOf : GoodIn wsX6_period wsX6_periodOf := goodIn_r _ [15, 16, 8, 17, 18, 19, 20, 6, 21, 22, 23, 24, 25, 26, 27, 28, 29, 30, 31, 32, 33, 34, 35, 36, 37, 38, 39] (by decide +kernel) (by decide +kernel)
set_option maxRecDepth 20000 in
theorem gX6_period_X6_periodOf : GoodIn wsX6_period (wsV RX6 87 RX6 yX6_periodOf wsX6_periodOf) := goodIn_app (goodIn_of _ (by decide +kernel)) ggX6_period_X6_periodOf
theorem dX6_period_0 : decode cX6_period 0 = .ok (.aload_n 0, 1) := by decide +kernel
theorem dX6_period_1 : decode cX6_period 1 = .ok (.iload_n 1, 1) := by decide +kernel
theorem dX6_period_2 : decode cX6_period 2 = .ok (.invokevirtual 67, 3) := by decide +kernel
theorem dX6_period_5 : decode cX6_period 5 = .ok (.ifCond .eq 31, 3) := by decide +kernel
theorem dX6_period_8 : decode cX6_period 8 = .ok (.iload_n 2, 1) := by decide +kernel
theorem dX6_period_9 : decode cX6_period 9 = .ok (.i2l, 1) := by decide +kernel
theorem dX6_period_10 : decode cX6_period 10 = .ok (.lconst 0, 1) := by decide +kernel
theorem dX6_period_11 : decode cX6_period 11 = .ok (.aload_n 0, 1) := by decide +kernel
theorem dX6_period_12 : decode cX6_period 12 = .ok (.getfield 29, 3) := by decide +kernel
theorem dX6_period_15 : decode cX6_period 15 = .ok (.iload_n 1, 1) := by decide +kernel
theorem dX6_period_16 : decode cX6_period 16 = .ok (.iaload, 1) := by decide +kernel
theorem dX6_period_17 : decode cX6_period 17 = .ok (.iconst 1, 1) := by decide +kernel
theorem dX6_period_18 : decode cX6_period 18 = .ok (.isub, 1) := by decide +kernel
theorem dX6_period_19 : decode cX6_period 19 = .ok (.i2l, 1) := by decide +kernel
theorem dX6_period_20 : decode cX6_period 20 = .ok (.invokestatic 52, 3) := by decide +kernel
theorem dX6_period_23 : decode cX6_period 23 = .ok (.ifCond .eq 13, 3) := by decide +kernel
theorem dX6_period_26 : decode cX6_period 26 = .ok (.iload_n 3, 1) := by decide +kernel
theorem dX6_period_27 : decode cX6_period 27 = .ok (.i2l, 1) := by decide +kernel
theorem dX6_period_28 : decode cX6_period 28 = .ok (.lconst 0, 1) := by decide +kernel
theorem dX6_period_29 : decode cX6_period 29 = .ok (.lconst 1, 1) := by decide +kernel
theorem dX6_period_30 : decode cX6_period 30 = .ok (.invokestatic 52, 3) := by decide +kernel
theorem dX6_period_33 : decode cX6_period 33 = .ok (.ifCond .ne 7, 3) := by decide +kernel
theorem dX6_period_36 : decode cX6_period 36 = .ok (.ldc2_w 85, 3) := by decide +kernel
theorem dX6_period_39 : decode cX6_period 39 = .ok (.lreturn, 1) := by decide +kernel
theorem dX6_period_40 : decode cX6_period 40 = .ok (.aload_n 0, 1) := by decide +kernel
theorem dX6_period_41 : decode cX6_period 41 = .ok (.iload_n 1, 1) := by decide +kernel
theorem dX6_period_42 : decode cX6_period 42 = .ok (.iload_n 2, 1) := by decide +kernel
theorem dX6_period_43 : decode cX6_period 43 = .ok (.iload_n 3, 1) := by decide +kernel
theorem dX6_period_44 : decode cX6_period 44 = .ok (.invokevirtual 87, 3) := by decide +kernel
theorem dX6_period_47 : decode cX6_period 47 = .ok (.lreturn, 1) := by decide +kernel
set_option maxRecDepth 20000 in
theorem ggX6_names_X6_in : GoodIn wsX6_names wsX6_in := goodIn_r _ [9] (by decide +kernel) (by decide +kernel)
set_option maxRecDepth 20000 in
theorem gX6_names_X6_in : GoodIn wsX6_names (va_wsS RX6 52 yX6_in wsX6_in) := goodIn_app (goodIn_of _ (by decide +kernel)) ggX6_names_X6_in
set_option maxRecDepth 20000 in
theorem ggX6_names_X6_periodOf : GoodIn wsX6_names wsX6_periodOf := goodIn_r _ [13, 14, 3, 15, 16, 17, 18, 8, 19, 20, 21, 22, 23, 24, 25, 26, 27, 28, 29, 30, 31, 32, 33, 34, 35, 36, 37] (by decide +kernel) (by decide +kernel)
set_option maxRecDepth 20000 in
theorem gX6_names_X6_periodOf : GoodIn wsX6_names (wsV RX6 87 RX6 yX6_periodOf wsX6_periodOf) := goodIn_app (goodIn_of _ (by decide +kernel)) ggX6_names_X6_periodOf
theorem dX6_names_0 : decode cX6_names 0 = .ok (.iload_n 1, 1) := by decide +kernel
theorem dX6_names_1 : decode cX6_names 1 = .ok (.i2l, 1) := by decide +kernel
theorem dX6_names_2 : decode cX6_names 2 = .ok (.lconst 1, 1) := by decide +kernel
theorem dX6_names_3 : decode cX6_names 3 = .ok (.ldc2_w 91, 3) := by decide +kernel
theorem dX6_names_6 : decode cX6_names 6 = .ok (.invokestatic 52, 3) := by decide +kernel
theorem dX6_names_9 : decode cX6_names 9 = .ok (.ifCond .eq 19, 3) := by decide +kernel
theorem dX6_names_12 : decode cX6_names 12 = .ok (.iload_n 2, 1) := by decide +kernel
theorem dX6_names_13 : decode cX6_names 13 = .ok (.i2l, 1) := by decide +kernel
theorem dX6_names_14 : decode cX6_names 14 = .ok (.lconst 0, 1) := by decide +kernel
theorem dX6_names_15 : decode cX6_names 15 = .ok (.ldc2_w 93, 3) := by decide +kernel
theorem dX6_names_18 : decode cX6_names 18 = .ok (.invokestatic 52, 3) := by decide +kernel
theorem dX6_names_21 : decode cX6_names 21 = .ok (.ifCond .eq 7, 3) := by decide +kernel
theorem dX6_names_24 : decode cX6_names 24 = .ok (.iload_n 3, 1) := by decide +kernel
theorem dX6_names_25 : decode cX6_names 25 = .ok (.ifCond .ge 6, 3) := by decide +kernel
theorem dX6_names_28 : decode cX6_names 28 = .ok (.bipush (-2), 2) := by decide +kernel
theorem dX6_names_30 : decode cX6_names 30 = .ok (.ireturn, 1) := by decide +kernel
theorem dX6_names_31 : decode cX6_names 31 = .ok (.iconst 0, 1) := by decide +kernel
theorem dX6_names_32 : decode cX6_names 32 = .ok (.istore 4, 2) := by decide +kernel
theorem dX6_names_34 : decode cX6_names 34 = .ok (.iconst 0, 1) := by decide +kernel
theorem dX6_names_35 : decode cX6_names 35 = .ok (.istore 5, 2) := by decide +kernel
theorem dX6_names_37 : decode cX6_names 37 = .ok (.iload 5, 2) := by decide +kernel
theorem dX6_names_39 : decode cX6_names 39 = .ok (.aload_n 0, 1) := by decide +kernel
theorem dX6_names_40 : decode cX6_names 40 = .ok (.getfield 64, 3) := by decide +kernel
theorem dX6_names_43 : decode cX6_names 43 = .ok (.if_icmp .ge 103, 3) := by decide +kernel
theorem dX6_names_46 : decode cX6_names 46 = .ok (.iconst 0, 1) := by decide +kernel
theorem dX6_names_47 : decode cX6_names 47 = .ok (.istore 6, 2) := by decide +kernel
theorem dX6_names_49 : decode cX6_names 49 = .ok (.iload 6, 2) := by decide +kernel
theorem dX6_names_51 : decode cX6_names 51 = .ok (.aload_n 0, 1) := by decide +kernel
theorem dX6_names_52 : decode cX6_names 52 = .ok (.getfield 29, 3) := by decide +kernel
theorem dX6_names_55 : decode cX6_names 55 = .ok (.iload 5, 2) := by decide +kernel
theorem dX6_names_57 : decode cX6_names 57 = .ok (.iaload, 1) := by decide +kernel
theorem dX6_names_58 : decode cX6_names 58 = .ok (.if_icmp .ge 82, 3) := by decide +kernel
theorem dX6_names_61 : decode cX6_names 61 = .ok (.ldc2_w 71, 3) := by decide +kernel
theorem dX6_names_64 : decode cX6_names 64 = .ok (.aload_n 0, 1) := by decide +kernel
theorem dX6_names_65 : decode cX6_names 65 = .ok (.iload 5, 2) := by decide +kernel
theorem dX6_names_67 : decode cX6_names 67 = .ok (.iload 6, 2) := by decide +kernel
theorem dX6_names_69 : decode cX6_names 69 = .ok (.iconst 0, 1) := by decide +kernel
theorem dX6_names_70 : decode cX6_names 70 = .ok (.invokevirtual 87, 3) := by decide +kernel
theorem dX6_names_73 : decode cX6_names 73 = .ok (.lmul, 1) := by decide +kernel
theorem dX6_names_74 : decode cX6_names 74 = .ok (.lstore 7, 2) := by decide +kernel
theorem dX6_names_76 : decode cX6_names 76 = .ok (.iload_n 1, 1) := by decide +kernel
theorem dX6_names_77 : decode cX6_names 77 = .ok (.i2l, 1) := by decide +kernel
theorem dX6_names_78 : decode cX6_names 78 = .ok (.aload_n 0, 1) := by decide +kernel
theorem dX6_names_79 : decode cX6_names 79 = .ok (.iload 5, 2) := by decide +kernel
theorem dX6_names_81 : decode cX6_names 81 = .ok (.iload 6, 2) := by decide +kernel
theorem dX6_names_83 : decode cX6_names 83 = .ok (.iconst 1, 1) := by decide +kernel
theorem dX6_names_84 : decode cX6_names 84 = .ok (.invokevirtual 87, 3) := by decide +kernel
theorem dX6_names_87 : decode cX6_names 87 = .ok (.lmul, 1) := by decide +kernel
theorem dX6_names_88 : decode cX6_names 88 = .ok (.lstore 9, 2) := by decide +kernel
theorem dX6_names_90 : decode cX6_names 90 = .ok (.lload 7, 2) := by decide +kernel
theorem dX6_names_92 : decode cX6_names 92 = .ok (.lload 9, 2) := by decide +kernel
theorem dX6_names_94 : decode cX6_names 94 = .ok (.sipush 1000, 3) := by decide +kernel
theorem dX6_names_97 : decode cX6_names 97 = .ok (.iload_n 2, 1) := by decide +kernel
theorem dX6_names_98 : decode cX6_names 98 = .ok (.isub, 1) := by decide +kernel
theorem dX6_names_99 : decode cX6_names 99 = .ok (.i2l, 1) := by decide +kernel
theorem dX6_names_100 : decode cX6_names 100 = .ok (.lmul, 1) := by decide +kernel
theorem dX6_names_101 : decode cX6_names 101 = .ok (.lload 9, 2) := by decide +kernel
theorem dX6_names_103 : decode cX6_names 103 = .ok (.sipush 1000, 3) := by decide +kernel
theorem dX6_names_106 : decode cX6_names 106 = .ok (.iload_n 2, 1) := by decide +kernel
theorem dX6_names_107 : decode cX6_names 107 = .ok (.iadd, 1) := by decide +kernel
theorem dX6_names_108 : decode cX6_names 108 = .ok (.i2l, 1) := by decide +kernel
theorem dX6_names_109 : decode cX6_names 109 = .ok (.lmul, 1) := by decide +kernel
theorem dX6_names_110 : decode cX6_names 110 = .ok (.invokestatic 52, 3) := by decide +kernel
theorem dX6_names_113 : decode cX6_names 113 = .ok (.ifCond .eq 21, 3) := by decide +kernel
theorem dX6_names_116 : decode cX6_names 116 = .ok (.iload 4, 2) := by decide +kernel
theorem dX6_names_118 : decode cX6_names 118 = .ok (.iload_n 3, 1) := by decide +kernel
theorem dX6_names_119 : decode cX6_names 119 = .ok (.if_icmp .ne 12, 3) := by decide +kernel
theorem dX6_names_122 : decode cX6_names 122 = .ok (.bipush 8, 2) := by decide +kernel
theorem dX6_names_124 : decode cX6_names 124 = .ok (.iload 5, 2) := by decide +kernel
theorem dX6_names_126 : decode cX6_names 126 = .ok (.imul, 1) := by decide +kernel
theorem dX6_names_127 : decode cX6_names 127 = .ok (.iload 6, 2) := by decide +kernel
theorem dX6_names_129 : decode cX6_names 129 = .ok (.iadd, 1) := by decide +kernel
theorem dX6_names_130 : decode cX6_names 130 = .ok (.ireturn, 1) := by decide +kernel
theorem dX6_names_131 : decode cX6_names 131 = .ok (.iinc 4 1, 3) := by decide +kernel
theorem dX6_names_134 : decode cX6_names 134 = .ok (.iinc 6 1, 3) := by decide +kernel
theorem dX6_names_137 : decode cX6_names 137 = .ok (.goto (-88), 3) := by decide +kernel
theorem dX6_names_140 : decode cX6_names 140 = .ok (.iinc 5 1, 3) := by decide +kernel
theorem dX6_names_143 : decode cX6_names 143 = .ok (.goto (-106), 3) := by decide +kernel
theorem dX6_names_146 : decode cX6_names 146 = .ok (.iconst (-1), 1) := by decide +kernel
theorem dX6_names_147 : decode cX6_names 147 = .ok (.ireturn, 1) := by decide +kernel
set_option maxRecDepth 20000 in
theorem ggX6_isRow_X6_in : GoodIn wsX6_isRow wsX6_in := goodIn_r _ [5] (by decide +kernel) (by decide +kernel)
set_option maxRecDepth 20000 in
theorem gX6_isRow_X6_in : GoodIn wsX6_isRow (va_wsS RX6 52 yX6_in wsX6_in) := goodIn_app (goodIn_of _ (by decide +kernel)) ggX6_isRow_X6_in
theorem dX6_isRow_0 : decode cX6_isRow 0 = .ok (.iload_n 0, 1) := by decide +kernel
theorem dX6_isRow_1 : decode cX6_isRow 1 = .ok (.i2l, 1) := by decide +kernel
theorem dX6_isRow_2 : decode cX6_isRow 2 = .ok (.lconst 0, 1) := by decide +kernel
theorem dX6_isRow_3 : decode cX6_isRow 3 = .ok (.ldc2_w 95, 3) := by decide +kernel
theorem dX6_isRow_6 : decode cX6_isRow 6 = .ok (.invokestatic 52, 3) := by decide +kernel
theorem dX6_isRow_9 : decode cX6_isRow 9 = .ok (.ireturn, 1) := by decide +kernel
set_option maxRecDepth 20000 in
theorem ggX6_isMass_X6_in : GoodIn wsX6_isMass wsX6_in := goodIn_r _ [5] (by decide +kernel) (by decide +kernel)
set_option maxRecDepth 20000 in
theorem gX6_isMass_X6_in : GoodIn wsX6_isMass (va_wsS RX6 52 yX6_in wsX6_in) := goodIn_app (goodIn_of _ (by decide +kernel)) ggX6_isMass_X6_in
theorem dX6_isMass_0 : decode cX6_isMass 0 = .ok (.lload_n 0, 1) := by decide +kernel
theorem dX6_isMass_1 : decode cX6_isMass 1 = .ok (.lconst 0, 1) := by decide +kernel
theorem dX6_isMass_2 : decode cX6_isMass 2 = .ok (.ldc2_w 91, 3) := by decide +kernel
theorem dX6_isMass_5 : decode cX6_isMass 5 = .ok (.invokestatic 52, 3) := by decide +kernel
theorem dX6_isMass_8 : decode cX6_isMass 8 = .ok (.ireturn, 1) := by decide +kernel
set_option maxRecDepth 20000 in
theorem ggX6_cell_X6_isRow : GoodIn wsX6_cell wsX6_isRow := goodIn_r _ [6, 7, 8, 9, 5, 10] (by decide +kernel) (by decide +kernel)
set_option maxRecDepth 20000 in
theorem gX6_cell_X6_isRow : GoodIn wsX6_cell (va_wsS RX6 97 yX6_isRow wsX6_isRow) := goodIn_app (goodIn_of _ (by decide +kernel)) ggX6_cell_X6_isRow
set_option maxRecDepth 20000 in
theorem ggX6_cell_X6_isMass : GoodIn wsX6_cell wsX6_isMass := goodIn_r _ [13, 14, 8, 9, 5, 10] (by decide +kernel) (by decide +kernel)
set_option maxRecDepth 20000 in
theorem gX6_cell_X6_isMass : GoodIn wsX6_cell (va_wsS RX6 100 yX6_isMass wsX6_isMass) := goodIn_app (goodIn_of _ (by decide +kernel)) ggX6_cell_X6_isMass
theorem dX6_cell_0 : decode cX6_cell 0 = .ok (.iload_n 1, 1) := by decide +kernel
theorem dX6_cell_1 : decode cX6_cell 1 = .ok (.invokestatic 97, 3) := by decide +kernel
theorem dX6_cell_4 : decode cX6_cell 4 = .ok (.ifCond .eq 11, 3) := by decide +kernel
theorem dX6_cell_7 : decode cX6_cell 7 = .ok (.iload_n 2, 1) := by decide +kernel
theorem dX6_cell_8 : decode cX6_cell 8 = .ok (.i2l, 1) := by decide +kernel
theorem dX6_cell_9 : decode cX6_cell 9 = .ok (.invokestatic 100, 3) := by decide +kernel
theorem dX6_cell_12 : decode cX6_cell 12 = .ok (.ifCond .ne 6, 3) := by decide +kernel
theorem dX6_cell_15 : decode cX6_cell 15 = .ok (.bipush (-2), 2) := by decide +kernel
theorem dX6_cell_17 : decode cX6_cell 17 = .ok (.ireturn, 1) := by decide +kernel
theorem dX6_cell_18 : decode cX6_cell 18 = .ok (.aload_n 0, 1) := by decide +kernel
theorem dX6_cell_19 : decode cX6_cell 19 = .ok (.getfield 35, 3) := by decide +kernel
theorem dX6_cell_22 : decode cX6_cell 22 = .ok (.iload_n 1, 1) := by decide +kernel
theorem dX6_cell_23 : decode cX6_cell 23 = .ok (.iaload, 1) := by decide +kernel
theorem dX6_cell_24 : decode cX6_cell 24 = .ok (.sipush 400, 3) := by decide +kernel
theorem dX6_cell_27 : decode cX6_cell 27 = .ok (.if_icmp .ne 6, 3) := by decide +kernel
theorem dX6_cell_30 : decode cX6_cell 30 = .ok (.bipush (-4), 2) := by decide +kernel
theorem dX6_cell_32 : decode cX6_cell 32 = .ok (.ireturn, 1) := by decide +kernel
theorem dX6_cell_33 : decode cX6_cell 33 = .ok (.aload_n 0, 1) := by decide +kernel
theorem dX6_cell_34 : decode cX6_cell 34 = .ok (.getfield 38, 3) := by decide +kernel
theorem dX6_cell_37 : decode cX6_cell 37 = .ok (.sipush 400, 3) := by decide +kernel
theorem dX6_cell_40 : decode cX6_cell 40 = .ok (.iload_n 1, 1) := by decide +kernel
theorem dX6_cell_41 : decode cX6_cell 41 = .ok (.imul, 1) := by decide +kernel
theorem dX6_cell_42 : decode cX6_cell 42 = .ok (.aload_n 0, 1) := by decide +kernel
theorem dX6_cell_43 : decode cX6_cell 43 = .ok (.getfield 35, 3) := by decide +kernel
theorem dX6_cell_46 : decode cX6_cell 46 = .ok (.iload_n 1, 1) := by decide +kernel
theorem dX6_cell_47 : decode cX6_cell 47 = .ok (.iaload, 1) := by decide +kernel
theorem dX6_cell_48 : decode cX6_cell 48 = .ok (.iadd, 1) := by decide +kernel
theorem dX6_cell_49 : decode cX6_cell 49 = .ok (.iload_n 2, 1) := by decide +kernel
theorem dX6_cell_50 : decode cX6_cell 50 = .ok (.iastore, 1) := by decide +kernel
theorem dX6_cell_51 : decode cX6_cell 51 = .ok (.aload_n 0, 1) := by decide +kernel
theorem dX6_cell_52 : decode cX6_cell 52 = .ok (.getfield 35, 3) := by decide +kernel
theorem dX6_cell_55 : decode cX6_cell 55 = .ok (.iload_n 1, 1) := by decide +kernel
theorem dX6_cell_56 : decode cX6_cell 56 = .ok (.dup2, 1) := by decide +kernel
theorem dX6_cell_57 : decode cX6_cell 57 = .ok (.iaload, 1) := by decide +kernel
theorem dX6_cell_58 : decode cX6_cell 58 = .ok (.iconst 1, 1) := by decide +kernel
theorem dX6_cell_59 : decode cX6_cell 59 = .ok (.iadd, 1) := by decide +kernel
theorem dX6_cell_60 : decode cX6_cell 60 = .ok (.iastore, 1) := by decide +kernel
theorem dX6_cell_61 : decode cX6_cell 61 = .ok (.aload_n 0, 1) := by decide +kernel
theorem dX6_cell_62 : decode cX6_cell 62 = .ok (.getfield 35, 3) := by decide +kernel
theorem dX6_cell_65 : decode cX6_cell 65 = .ok (.iload_n 1, 1) := by decide +kernel
theorem dX6_cell_66 : decode cX6_cell 66 = .ok (.iaload, 1) := by decide +kernel
theorem dX6_cell_67 : decode cX6_cell 67 = .ok (.ireturn, 1) := by decide +kernel
set_option maxRecDepth 20000 in
theorem ggX6_draw_X6_isRow : GoodIn wsX6_draw wsX6_isRow := goodIn_r _ [12, 13, 14, 15, 11, 16] (by decide +kernel) (by decide +kernel)
set_option maxRecDepth 20000 in
theorem gX6_draw_X6_isRow : GoodIn wsX6_draw (va_wsS RX6 97 yX6_isRow wsX6_isRow) := goodIn_app (goodIn_of _ (by decide +kernel)) ggX6_draw_X6_isRow
set_option maxRecDepth 20000 in
theorem ggX6_draw_X6_in : GoodIn wsX6_draw wsX6_in := goodIn_r _ [16] (by decide +kernel) (by decide +kernel)
set_option maxRecDepth 20000 in
theorem gX6_draw_X6_in : GoodIn wsX6_draw (va_wsS RX6 52 yX6_in wsX6_in) := goodIn_app (goodIn_of _ (by decide +kernel)) ggX6_draw_X6_in
theorem dX6_draw_0 : decode cX6_draw 0 = .ok (.iload_n 1, 1) := by decide +kernel
theorem dX6_draw_1 : decode cX6_draw 1 = .ok (.invokestatic 97, 3) := by decide +kernel
theorem dX6_draw_4 : decode cX6_draw 4 = .ok (.ifCond .eq 44, 3) := by decide +kernel
theorem dX6_draw_7 : decode cX6_draw 7 = .ok (.iload_n 2, 1) := by decide +kernel
theorem dX6_draw_8 : decode cX6_draw 8 = .ok (.i2l, 1) := by decide +kernel
theorem dX6_draw_9 : decode cX6_draw 9 = .ok (.lconst 1, 1) := by decide +kernel
theorem dX6_draw_10 : decode cX6_draw 10 = .ok (.ldc2_w 104, 3) := by decide +kernel
theorem dX6_draw_13 : decode cX6_draw 13 = .ok (.invokestatic 52, 3) := by decide +kernel
theorem dX6_draw_16 : decode cX6_draw 16 = .ok (.ifCond .eq 32, 3) := by decide +kernel
theorem dX6_draw_19 : decode cX6_draw 19 = .ok (.iload_n 3, 1) := by decide +kernel
theorem dX6_draw_20 : decode cX6_draw 20 = .ok (.i2l, 1) := by decide +kernel
theorem dX6_draw_21 : decode cX6_draw 21 = .ok (.lconst 0, 1) := by decide +kernel
theorem dX6_draw_22 : decode cX6_draw 22 = .ok (.ldc2_w 50, 3) := by decide +kernel
theorem dX6_draw_25 : decode cX6_draw 25 = .ok (.invokestatic 52, 3) := by decide +kernel
theorem dX6_draw_28 : decode cX6_draw 28 = .ok (.ifCond .eq 20, 3) := by decide +kernel
theorem dX6_draw_31 : decode cX6_draw 31 = .ok (.iload 4, 2) := by decide +kernel
theorem dX6_draw_33 : decode cX6_draw 33 = .ok (.i2l, 1) := by decide +kernel
theorem dX6_draw_34 : decode cX6_draw 34 = .ok (.lconst 0, 1) := by decide +kernel
theorem dX6_draw_35 : decode cX6_draw 35 = .ok (.iload_n 3, 1) := by decide +kernel
theorem dX6_draw_36 : decode cX6_draw 36 = .ok (.i2l, 1) := by decide +kernel
theorem dX6_draw_37 : decode cX6_draw 37 = .ok (.invokestatic 52, 3) := by decide +kernel
theorem dX6_draw_40 : decode cX6_draw 40 = .ok (.ifCond .eq 8, 3) := by decide +kernel
theorem dX6_draw_43 : decode cX6_draw 43 = .ok (.iload 5, 2) := by decide +kernel
theorem dX6_draw_45 : decode cX6_draw 45 = .ok (.ifCond .ge 6, 3) := by decide +kernel
theorem dX6_draw_48 : decode cX6_draw 48 = .ok (.bipush (-2), 2) := by decide +kernel
theorem dX6_draw_50 : decode cX6_draw 50 = .ok (.ireturn, 1) := by decide +kernel
theorem dX6_draw_51 : decode cX6_draw 51 = .ok (.aload_n 0, 1) := by decide +kernel
theorem dX6_draw_52 : decode cX6_draw 52 = .ok (.getfield 35, 3) := by decide +kernel
theorem dX6_draw_55 : decode cX6_draw 55 = .ok (.iload_n 1, 1) := by decide +kernel
theorem dX6_draw_56 : decode cX6_draw 56 = .ok (.iaload, 1) := by decide +kernel
theorem dX6_draw_57 : decode cX6_draw 57 = .ok (.iload_n 2, 1) := by decide +kernel
theorem dX6_draw_58 : decode cX6_draw 58 = .ok (.iadd, 1) := by decide +kernel
theorem dX6_draw_59 : decode cX6_draw 59 = .ok (.sipush 400, 3) := by decide +kernel
theorem dX6_draw_62 : decode cX6_draw 62 = .ok (.if_icmp .le 6, 3) := by decide +kernel
theorem dX6_draw_65 : decode cX6_draw 65 = .ok (.bipush (-4), 2) := by decide +kernel
theorem dX6_draw_67 : decode cX6_draw 67 = .ok (.ireturn, 1) := by decide +kernel
theorem dX6_draw_68 : decode cX6_draw 68 = .ok (.iload 5, 2) := by decide +kernel
theorem dX6_draw_70 : decode cX6_draw 70 = .ok (.i2l, 1) := by decide +kernel
theorem dX6_draw_71 : decode cX6_draw 71 = .ok (.lstore 6, 2) := by decide +kernel
theorem dX6_draw_73 : decode cX6_draw 73 = .ok (.iconst 0, 1) := by decide +kernel
theorem dX6_draw_74 : decode cX6_draw 74 = .ok (.istore 8, 2) := by decide +kernel
theorem dX6_draw_76 : decode cX6_draw 76 = .ok (.iload 8, 2) := by decide +kernel
theorem dX6_draw_78 : decode cX6_draw 78 = .ok (.iload_n 2, 1) := by decide +kernel
theorem dX6_draw_79 : decode cX6_draw 79 = .ok (.if_icmp .ge 72, 3) := by decide +kernel
theorem dX6_draw_82 : decode cX6_draw 82 = .ok (.lload 6, 2) := by decide +kernel
theorem dX6_draw_84 : decode cX6_draw 84 = .ok (.ldc2_w 106, 3) := by decide +kernel
theorem dX6_draw_87 : decode cX6_draw 87 = .ok (.lmul, 1) := by decide +kernel
theorem dX6_draw_88 : decode cX6_draw 88 = .ok (.ldc2_w 108, 3) := by decide +kernel
theorem dX6_draw_91 : decode cX6_draw 91 = .ok (.ladd, 1) := by decide +kernel
theorem dX6_draw_92 : decode cX6_draw 92 = .ok (.ldc2_w 110, 3) := by decide +kernel
theorem dX6_draw_95 : decode cX6_draw 95 = .ok (.land, 1) := by decide +kernel
theorem dX6_draw_96 : decode cX6_draw 96 = .ok (.lstore 6, 2) := by decide +kernel
theorem dX6_draw_98 : decode cX6_draw 98 = .ok (.aload_n 0, 1) := by decide +kernel
theorem dX6_draw_99 : decode cX6_draw 99 = .ok (.getfield 38, 3) := by decide +kernel
theorem dX6_draw_102 : decode cX6_draw 102 = .ok (.sipush 400, 3) := by decide +kernel
theorem dX6_draw_105 : decode cX6_draw 105 = .ok (.iload_n 1, 1) := by decide +kernel
theorem dX6_draw_106 : decode cX6_draw 106 = .ok (.imul, 1) := by decide +kernel
theorem dX6_draw_107 : decode cX6_draw 107 = .ok (.aload_n 0, 1) := by decide +kernel
theorem dX6_draw_108 : decode cX6_draw 108 = .ok (.getfield 35, 3) := by decide +kernel
theorem dX6_draw_111 : decode cX6_draw 111 = .ok (.iload_n 1, 1) := by decide +kernel
theorem dX6_draw_112 : decode cX6_draw 112 = .ok (.iaload, 1) := by decide +kernel
theorem dX6_draw_113 : decode cX6_draw 113 = .ok (.iadd, 1) := by decide +kernel
theorem dX6_draw_114 : decode cX6_draw 114 = .ok (.iload_n 3, 1) := by decide +kernel
theorem dX6_draw_115 : decode cX6_draw 115 = .ok (.lload 6, 2) := by decide +kernel
theorem dX6_draw_117 : decode cX6_draw 117 = .ok (.ldc2_w 112, 3) := by decide +kernel
theorem dX6_draw_120 : decode cX6_draw 120 = .ok (.ldiv, 1) := by decide +kernel
theorem dX6_draw_121 : decode cX6_draw 121 = .ok (.iconst 2, 1) := by decide +kernel
theorem dX6_draw_122 : decode cX6_draw 122 = .ok (.iload 4, 2) := by decide +kernel
theorem dX6_draw_124 : decode cX6_draw 124 = .ok (.imul, 1) := by decide +kernel
theorem dX6_draw_125 : decode cX6_draw 125 = .ok (.iconst 1, 1) := by decide +kernel
theorem dX6_draw_126 : decode cX6_draw 126 = .ok (.iadd, 1) := by decide +kernel
theorem dX6_draw_127 : decode cX6_draw 127 = .ok (.i2l, 1) := by decide +kernel
theorem dX6_draw_128 : decode cX6_draw 128 = .ok (.lrem, 1) := by decide +kernel
theorem dX6_draw_129 : decode cX6_draw 129 = .ok (.l2i, 1) := by decide +kernel
theorem dX6_draw_130 : decode cX6_draw 130 = .ok (.iadd, 1) := by decide +kernel
theorem dX6_draw_131 : decode cX6_draw 131 = .ok (.iload 4, 2) := by decide +kernel
theorem dX6_draw_133 : decode cX6_draw 133 = .ok (.isub, 1) := by decide +kernel
theorem dX6_draw_134 : decode cX6_draw 134 = .ok (.iastore, 1) := by decide +kernel
theorem dX6_draw_135 : decode cX6_draw 135 = .ok (.aload_n 0, 1) := by decide +kernel
theorem dX6_draw_136 : decode cX6_draw 136 = .ok (.getfield 35, 3) := by decide +kernel
theorem dX6_draw_139 : decode cX6_draw 139 = .ok (.iload_n 1, 1) := by decide +kernel
theorem dX6_draw_140 : decode cX6_draw 140 = .ok (.dup2, 1) := by decide +kernel
theorem dX6_draw_141 : decode cX6_draw 141 = .ok (.iaload, 1) := by decide +kernel
theorem dX6_draw_142 : decode cX6_draw 142 = .ok (.iconst 1, 1) := by decide +kernel
theorem dX6_draw_143 : decode cX6_draw 143 = .ok (.iadd, 1) := by decide +kernel
theorem dX6_draw_144 : decode cX6_draw 144 = .ok (.iastore, 1) := by decide +kernel
theorem dX6_draw_145 : decode cX6_draw 145 = .ok (.iinc 8 1, 3) := by decide +kernel
theorem dX6_draw_148 : decode cX6_draw 148 = .ok (.goto (-72), 3) := by decide +kernel
theorem dX6_draw_151 : decode cX6_draw 151 = .ok (.aload_n 0, 1) := by decide +kernel
theorem dX6_draw_152 : decode cX6_draw 152 = .ok (.getfield 35, 3) := by decide +kernel
theorem dX6_draw_155 : decode cX6_draw 155 = .ok (.iload_n 1, 1) := by decide +kernel
theorem dX6_draw_156 : decode cX6_draw 156 = .ok (.iaload, 1) := by decide +kernel
theorem dX6_draw_157 : decode cX6_draw 157 = .ok (.ireturn, 1) := by decide +kernel
set_option maxRecDepth 20000 in
theorem ggX6_empty_X6_isRow : GoodIn wsX6_empty wsX6_isRow := goodIn_r _ [5, 6, 7, 8, 4, 9] (by decide +kernel) (by decide +kernel)
set_option maxRecDepth 20000 in
theorem gX6_empty_X6_isRow : GoodIn wsX6_empty (va_wsS RX6 97 yX6_isRow wsX6_isRow) := goodIn_app (goodIn_of _ (by decide +kernel)) ggX6_empty_X6_isRow
theorem dX6_empty_0 : decode cX6_empty 0 = .ok (.iload_n 1, 1) := by decide +kernel
theorem dX6_empty_1 : decode cX6_empty 1 = .ok (.invokestatic 97, 3) := by decide +kernel
theorem dX6_empty_4 : decode cX6_empty 4 = .ok (.ifCond .ne 6, 3) := by decide +kernel
theorem dX6_empty_7 : decode cX6_empty 7 = .ok (.bipush (-2), 2) := by decide +kernel
theorem dX6_empty_9 : decode cX6_empty 9 = .ok (.ireturn, 1) := by decide +kernel
theorem dX6_empty_10 : decode cX6_empty 10 = .ok (.aload_n 0, 1) := by decide +kernel
theorem dX6_empty_11 : decode cX6_empty 11 = .ok (.getfield 35, 3) := by decide +kernel
theorem dX6_empty_14 : decode cX6_empty 14 = .ok (.iload_n 1, 1) := by decide +kernel
theorem dX6_empty_15 : decode cX6_empty 15 = .ok (.iaload, 1) := by decide +kernel
theorem dX6_empty_16 : decode cX6_empty 16 = .ok (.istore_n 2, 1) := by decide +kernel
theorem dX6_empty_17 : decode cX6_empty 17 = .ok (.aload_n 0, 1) := by decide +kernel
theorem dX6_empty_18 : decode cX6_empty 18 = .ok (.getfield 35, 3) := by decide +kernel
theorem dX6_empty_21 : decode cX6_empty 21 = .ok (.iload_n 1, 1) := by decide +kernel
theorem dX6_empty_22 : decode cX6_empty 22 = .ok (.iconst 0, 1) := by decide +kernel
theorem dX6_empty_23 : decode cX6_empty 23 = .ok (.iastore, 1) := by decide +kernel
theorem dX6_empty_24 : decode cX6_empty 24 = .ok (.iload_n 2, 1) := by decide +kernel
theorem dX6_empty_25 : decode cX6_empty 25 = .ok (.ireturn, 1) := by decide +kernel
set_option maxRecDepth 20000 in
theorem ggX6_at_X6_isRow : GoodIn wsX6_at wsX6_isRow := goodIn_r _ [6, 7, 8, 9, 5, 10] (by decide +kernel) (by decide +kernel)
set_option maxRecDepth 20000 in
theorem gX6_at_X6_isRow : GoodIn wsX6_at (va_wsS RX6 97 yX6_isRow wsX6_isRow) := goodIn_app (goodIn_of _ (by decide +kernel)) ggX6_at_X6_isRow
set_option maxRecDepth 20000 in
theorem ggX6_at_X6_in : GoodIn wsX6_at wsX6_in := goodIn_r _ [10] (by decide +kernel) (by decide +kernel)
set_option maxRecDepth 20000 in
theorem gX6_at_X6_in : GoodIn wsX6_at (va_wsS RX6 52 yX6_in wsX6_in) := goodIn_app (goodIn_of _ (by decide +kernel)) ggX6_at_X6_in
theorem dX6_at_0 : decode cX6_at 0 = .ok (.iload_n 1, 1) := by decide +kernel
theorem dX6_at_1 : decode cX6_at 1 = .ok (.invokestatic 97, 3) := by decide +kernel
theorem dX6_at_4 : decode cX6_at 4 = .ok (.ifCond .ne 8, 3) := by decide +kernel
theorem dX6_at_7 : decode cX6_at 7 = .ok (.bipush (-2), 2) := by decide +kernel
theorem dX6_at_9 : decode cX6_at 9 = .ok (.goto 37, 3) := by decide +kernel
theorem dX6_at_12 : decode cX6_at 12 = .ok (.iload_n 2, 1) := by decide +kernel
theorem dX6_at_13 : decode cX6_at 13 = .ok (.i2l, 1) := by decide +kernel
theorem dX6_at_14 : decode cX6_at 14 = .ok (.lconst 0, 1) := by decide +kernel
theorem dX6_at_15 : decode cX6_at 15 = .ok (.aload_n 0, 1) := by decide +kernel
theorem dX6_at_16 : decode cX6_at 16 = .ok (.getfield 35, 3) := by decide +kernel
theorem dX6_at_19 : decode cX6_at 19 = .ok (.iload_n 1, 1) := by decide +kernel
theorem dX6_at_20 : decode cX6_at 20 = .ok (.iaload, 1) := by decide +kernel
theorem dX6_at_21 : decode cX6_at 21 = .ok (.iconst 1, 1) := by decide +kernel
theorem dX6_at_22 : decode cX6_at 22 = .ok (.isub, 1) := by decide +kernel
theorem dX6_at_23 : decode cX6_at 23 = .ok (.i2l, 1) := by decide +kernel
theorem dX6_at_24 : decode cX6_at 24 = .ok (.invokestatic 52, 3) := by decide +kernel
theorem dX6_at_27 : decode cX6_at 27 = .ok (.ifCond .eq 18, 3) := by decide +kernel
theorem dX6_at_30 : decode cX6_at 30 = .ok (.aload_n 0, 1) := by decide +kernel
theorem dX6_at_31 : decode cX6_at 31 = .ok (.getfield 38, 3) := by decide +kernel
theorem dX6_at_34 : decode cX6_at 34 = .ok (.sipush 400, 3) := by decide +kernel
theorem dX6_at_37 : decode cX6_at 37 = .ok (.iload_n 1, 1) := by decide +kernel
theorem dX6_at_38 : decode cX6_at 38 = .ok (.imul, 1) := by decide +kernel
theorem dX6_at_39 : decode cX6_at 39 = .ok (.iload_n 2, 1) := by decide +kernel
theorem dX6_at_40 : decode cX6_at 40 = .ok (.iadd, 1) := by decide +kernel
theorem dX6_at_41 : decode cX6_at 41 = .ok (.iaload, 1) := by decide +kernel
theorem dX6_at_42 : decode cX6_at 42 = .ok (.goto 4, 3) := by decide +kernel
theorem dX6_at_45 : decode cX6_at 45 = .ok (.iconst (-1), 1) := by decide +kernel
theorem dX6_at_46 : decode cX6_at 46 = .ok (.ireturn, 1) := by decide +kernel
set_option maxRecDepth 20000 in
theorem ggX6_becomes_X6_isMass : GoodIn wsX6_becomes wsX6_isMass := goodIn_r _ [7, 8, 9, 10, 6, 11] (by decide +kernel) (by decide +kernel)
set_option maxRecDepth 20000 in
theorem gX6_becomes_X6_isMass : GoodIn wsX6_becomes (va_wsS RX6 100 yX6_isMass wsX6_isMass) := goodIn_app (goodIn_of _ (by decide +kernel)) ggX6_becomes_X6_isMass
theorem dX6_becomes_0 : decode cX6_becomes 0 = .ok (.iconst 1, 1) := by decide +kernel
theorem dX6_becomes_1 : decode cX6_becomes 1 = .ok (.istore_n 3, 1) := by decide +kernel
theorem dX6_becomes_2 : decode cX6_becomes 2 = .ok (.iconst 0, 1) := by decide +kernel
theorem dX6_becomes_3 : decode cX6_becomes 3 = .ok (.istore 4, 2) := by decide +kernel
theorem dX6_becomes_5 : decode cX6_becomes 5 = .ok (.iload 4, 2) := by decide +kernel
theorem dX6_becomes_7 : decode cX6_becomes 7 = .ok (.iload_n 2, 1) := by decide +kernel
theorem dX6_becomes_8 : decode cX6_becomes 8 = .ok (.if_icmp .ge 33, 3) := by decide +kernel
theorem dX6_becomes_11 : decode cX6_becomes 11 = .ok (.iload_n 3, 1) := by decide +kernel
theorem dX6_becomes_12 : decode cX6_becomes 12 = .ok (.ifCond .eq 21, 3) := by decide +kernel
theorem dX6_becomes_15 : decode cX6_becomes 15 = .ok (.aload_n 0, 1) := by decide +kernel
theorem dX6_becomes_16 : decode cX6_becomes 16 = .ok (.getfield 41, 3) := by decide +kernel
theorem dX6_becomes_19 : decode cX6_becomes 19 = .ok (.iload 4, 2) := by decide +kernel
theorem dX6_becomes_21 : decode cX6_becomes 21 = .ok (.iaload, 1) := by decide +kernel
theorem dX6_becomes_22 : decode cX6_becomes 22 = .ok (.i2l, 1) := by decide +kernel
theorem dX6_becomes_23 : decode cX6_becomes 23 = .ok (.invokestatic 100, 3) := by decide +kernel
theorem dX6_becomes_26 : decode cX6_becomes 26 = .ok (.ifCond .eq 7, 3) := by decide +kernel
theorem dX6_becomes_29 : decode cX6_becomes 29 = .ok (.iconst 1, 1) := by decide +kernel
theorem dX6_becomes_30 : decode cX6_becomes 30 = .ok (.goto 4, 3) := by decide +kernel
theorem dX6_becomes_33 : decode cX6_becomes 33 = .ok (.iconst 0, 1) := by decide +kernel
theorem dX6_becomes_34 : decode cX6_becomes 34 = .ok (.istore_n 3, 1) := by decide +kernel
theorem dX6_becomes_35 : decode cX6_becomes 35 = .ok (.iinc 4 1, 3) := by decide +kernel
theorem dX6_becomes_38 : decode cX6_becomes 38 = .ok (.goto (-33), 3) := by decide +kernel
theorem dX6_becomes_41 : decode cX6_becomes 41 = .ok (.iconst 0, 1) := by decide +kernel
theorem dX6_becomes_42 : decode cX6_becomes 42 = .ok (.istore 4, 2) := by decide +kernel
theorem dX6_becomes_44 : decode cX6_becomes 44 = .ok (.iload 4, 2) := by decide +kernel
theorem dX6_becomes_46 : decode cX6_becomes 46 = .ok (.iload_n 2, 1) := by decide +kernel
theorem dX6_becomes_47 : decode cX6_becomes 47 = .ok (.if_icmp .ge 33, 3) := by decide +kernel
theorem dX6_becomes_50 : decode cX6_becomes 50 = .ok (.iload_n 3, 1) := by decide +kernel
theorem dX6_becomes_51 : decode cX6_becomes 51 = .ok (.ifCond .eq 29, 3) := by decide +kernel
theorem dX6_becomes_54 : decode cX6_becomes 54 = .ok (.aload_n 0, 1) := by decide +kernel
theorem dX6_becomes_55 : decode cX6_becomes 55 = .ok (.getfield 38, 3) := by decide +kernel
theorem dX6_becomes_58 : decode cX6_becomes 58 = .ok (.sipush 400, 3) := by decide +kernel
theorem dX6_becomes_61 : decode cX6_becomes 61 = .ok (.iload_n 1, 1) := by decide +kernel
theorem dX6_becomes_62 : decode cX6_becomes 62 = .ok (.imul, 1) := by decide +kernel
theorem dX6_becomes_63 : decode cX6_becomes 63 = .ok (.iload 4, 2) := by decide +kernel
theorem dX6_becomes_65 : decode cX6_becomes 65 = .ok (.iadd, 1) := by decide +kernel
theorem dX6_becomes_66 : decode cX6_becomes 66 = .ok (.aload_n 0, 1) := by decide +kernel
theorem dX6_becomes_67 : decode cX6_becomes 67 = .ok (.getfield 41, 3) := by decide +kernel
theorem dX6_becomes_70 : decode cX6_becomes 70 = .ok (.iload 4, 2) := by decide +kernel
theorem dX6_becomes_72 : decode cX6_becomes 72 = .ok (.iaload, 1) := by decide +kernel
theorem dX6_becomes_73 : decode cX6_becomes 73 = .ok (.iastore, 1) := by decide +kernel
theorem dX6_becomes_74 : decode cX6_becomes 74 = .ok (.iinc 4 1, 3) := by decide +kernel
theorem dX6_becomes_77 : decode cX6_becomes 77 = .ok (.goto (-33), 3) := by decide +kernel
theorem dX6_becomes_80 : decode cX6_becomes 80 = .ok (.aload_n 0, 1) := by decide +kernel
theorem dX6_becomes_81 : decode cX6_becomes 81 = .ok (.getfield 35, 3) := by decide +kernel
theorem dX6_becomes_84 : decode cX6_becomes 84 = .ok (.iload_n 1, 1) := by decide +kernel
theorem dX6_becomes_85 : decode cX6_becomes 85 = .ok (.iload_n 3, 1) := by decide +kernel
theorem dX6_becomes_86 : decode cX6_becomes 86 = .ok (.ifCond .eq 7, 3) := by decide +kernel
theorem dX6_becomes_89 : decode cX6_becomes 89 = .ok (.iload_n 2, 1) := by decide +kernel
theorem dX6_becomes_90 : decode cX6_becomes 90 = .ok (.goto 9, 3) := by decide +kernel
theorem dX6_becomes_93 : decode cX6_becomes 93 = .ok (.aload_n 0, 1) := by decide +kernel
theorem dX6_becomes_94 : decode cX6_becomes 94 = .ok (.getfield 35, 3) := by decide +kernel
theorem dX6_becomes_97 : decode cX6_becomes 97 = .ok (.iload_n 1, 1) := by decide +kernel
theorem dX6_becomes_98 : decode cX6_becomes 98 = .ok (.iaload, 1) := by decide +kernel
theorem dX6_becomes_99 : decode cX6_becomes 99 = .ok (.iastore, 1) := by decide +kernel
theorem dX6_becomes_100 : decode cX6_becomes 100 = .ok (.iload_n 3, 1) := by decide +kernel
theorem dX6_becomes_101 : decode cX6_becomes 101 = .ok (.ifCond .eq 7, 3) := by decide +kernel
theorem dX6_becomes_104 : decode cX6_becomes 104 = .ok (.iload_n 2, 1) := by decide +kernel
theorem dX6_becomes_105 : decode cX6_becomes 105 = .ok (.goto 5, 3) := by decide +kernel
theorem dX6_becomes_108 : decode cX6_becomes 108 = .ok (.bipush (-6), 2) := by decide +kernel
theorem dX6_becomes_110 : decode cX6_becomes 110 = .ok (.ireturn, 1) := by decide +kernel
set_option maxRecDepth 20000 in
theorem ggX6_join_X6_isRow : GoodIn wsX6_join wsX6_isRow := goodIn_r _ [7, 8, 9, 10, 6, 11] (by decide +kernel) (by decide +kernel)
set_option maxRecDepth 20000 in
theorem gX6_join_X6_isRow : GoodIn wsX6_join (va_wsS RX6 97 yX6_isRow wsX6_isRow) := goodIn_app (goodIn_of _ (by decide +kernel)) ggX6_join_X6_isRow
set_option maxRecDepth 20000 in
theorem ggX6_join_X6_becomes : GoodIn wsX6_join wsX6_becomes := goodIn_r _ [15, 2, 3, 1, 16, 17, 6, 18, 19, 9, 10, 11, 20, 21, 22, 23, 24, 25, 26, 27, 28, 29, 30, 31, 32, 33, 34, 35, 36, 37] (by decide +kernel) (by decide +kernel)
set_option maxRecDepth 20000 in
theorem gX6_join_X6_becomes : GoodIn wsX6_join (wsV RX6 114 RX6 yX6_becomes wsX6_becomes) := goodIn_app (goodIn_of _ (by decide +kernel)) ggX6_join_X6_becomes
theorem dX6_join_0 : decode cX6_join 0 = .ok (.iload_n 1, 1) := by decide +kernel
theorem dX6_join_1 : decode cX6_join 1 = .ok (.invokestatic 97, 3) := by decide +kernel
theorem dX6_join_4 : decode cX6_join 4 = .ok (.ifCond .eq 10, 3) := by decide +kernel
theorem dX6_join_7 : decode cX6_join 7 = .ok (.iload_n 2, 1) := by decide +kernel
theorem dX6_join_8 : decode cX6_join 8 = .ok (.invokestatic 97, 3) := by decide +kernel
theorem dX6_join_11 : decode cX6_join 11 = .ok (.ifCond .ne 6, 3) := by decide +kernel
theorem dX6_join_14 : decode cX6_join 14 = .ok (.bipush (-2), 2) := by decide +kernel
theorem dX6_join_16 : decode cX6_join 16 = .ok (.ireturn, 1) := by decide +kernel
theorem dX6_join_17 : decode cX6_join 17 = .ok (.iload_n 1, 1) := by decide +kernel
theorem dX6_join_18 : decode cX6_join 18 = .ok (.iload_n 2, 1) := by decide +kernel
theorem dX6_join_19 : decode cX6_join 19 = .ok (.if_icmp .eq 18, 3) := by decide +kernel
theorem dX6_join_22 : decode cX6_join 22 = .ok (.aload_n 0, 1) := by decide +kernel
theorem dX6_join_23 : decode cX6_join 23 = .ok (.getfield 35, 3) := by decide +kernel
theorem dX6_join_26 : decode cX6_join 26 = .ok (.iload_n 1, 1) := by decide +kernel
theorem dX6_join_27 : decode cX6_join 27 = .ok (.iaload, 1) := by decide +kernel
theorem dX6_join_28 : decode cX6_join 28 = .ok (.aload_n 0, 1) := by decide +kernel
theorem dX6_join_29 : decode cX6_join 29 = .ok (.getfield 35, 3) := by decide +kernel
theorem dX6_join_32 : decode cX6_join 32 = .ok (.iload_n 2, 1) := by decide +kernel
theorem dX6_join_33 : decode cX6_join 33 = .ok (.iaload, 1) := by decide +kernel
theorem dX6_join_34 : decode cX6_join 34 = .ok (.if_icmp .eq 6, 3) := by decide +kernel
theorem dX6_join_37 : decode cX6_join 37 = .ok (.bipush (-3), 2) := by decide +kernel
theorem dX6_join_39 : decode cX6_join 39 = .ok (.ireturn, 1) := by decide +kernel
theorem dX6_join_40 : decode cX6_join 40 = .ok (.iconst 0, 1) := by decide +kernel
theorem dX6_join_41 : decode cX6_join 41 = .ok (.istore_n 3, 1) := by decide +kernel
theorem dX6_join_42 : decode cX6_join 42 = .ok (.iload_n 3, 1) := by decide +kernel
theorem dX6_join_43 : decode cX6_join 43 = .ok (.aload_n 0, 1) := by decide +kernel
theorem dX6_join_44 : decode cX6_join 44 = .ok (.getfield 35, 3) := by decide +kernel
theorem dX6_join_47 : decode cX6_join 47 = .ok (.iload_n 1, 1) := by decide +kernel
theorem dX6_join_48 : decode cX6_join 48 = .ok (.iaload, 1) := by decide +kernel
theorem dX6_join_49 : decode cX6_join 49 = .ok (.if_icmp .ge 40, 3) := by decide +kernel
theorem dX6_join_52 : decode cX6_join 52 = .ok (.aload_n 0, 1) := by decide +kernel
theorem dX6_join_53 : decode cX6_join 53 = .ok (.getfield 41, 3) := by decide +kernel
theorem dX6_join_56 : decode cX6_join 56 = .ok (.iload_n 3, 1) := by decide +kernel
theorem dX6_join_57 : decode cX6_join 57 = .ok (.aload_n 0, 1) := by decide +kernel
theorem dX6_join_58 : decode cX6_join 58 = .ok (.getfield 38, 3) := by decide +kernel
theorem dX6_join_61 : decode cX6_join 61 = .ok (.sipush 400, 3) := by decide +kernel
theorem dX6_join_64 : decode cX6_join 64 = .ok (.iload_n 1, 1) := by decide +kernel
theorem dX6_join_65 : decode cX6_join 65 = .ok (.imul, 1) := by decide +kernel
theorem dX6_join_66 : decode cX6_join 66 = .ok (.iload_n 3, 1) := by decide +kernel
theorem dX6_join_67 : decode cX6_join 67 = .ok (.iadd, 1) := by decide +kernel
theorem dX6_join_68 : decode cX6_join 68 = .ok (.iaload, 1) := by decide +kernel
theorem dX6_join_69 : decode cX6_join 69 = .ok (.aload_n 0, 1) := by decide +kernel
theorem dX6_join_70 : decode cX6_join 70 = .ok (.getfield 38, 3) := by decide +kernel
theorem dX6_join_73 : decode cX6_join 73 = .ok (.sipush 400, 3) := by decide +kernel
theorem dX6_join_76 : decode cX6_join 76 = .ok (.iload_n 2, 1) := by decide +kernel
theorem dX6_join_77 : decode cX6_join 77 = .ok (.imul, 1) := by decide +kernel
theorem dX6_join_78 : decode cX6_join 78 = .ok (.iload_n 3, 1) := by decide +kernel
theorem dX6_join_79 : decode cX6_join 79 = .ok (.iadd, 1) := by decide +kernel
theorem dX6_join_80 : decode cX6_join 80 = .ok (.iaload, 1) := by decide +kernel
theorem dX6_join_81 : decode cX6_join 81 = .ok (.iadd, 1) := by decide +kernel
theorem dX6_join_82 : decode cX6_join 82 = .ok (.iastore, 1) := by decide +kernel
theorem dX6_join_83 : decode cX6_join 83 = .ok (.iinc 3 1, 3) := by decide +kernel
theorem dX6_join_86 : decode cX6_join 86 = .ok (.goto (-44), 3) := by decide +kernel
theorem dX6_join_89 : decode cX6_join 89 = .ok (.aload_n 0, 1) := by decide +kernel
theorem dX6_join_90 : decode cX6_join 90 = .ok (.iload_n 1, 1) := by decide +kernel
theorem dX6_join_91 : decode cX6_join 91 = .ok (.aload_n 0, 1) := by decide +kernel
theorem dX6_join_92 : decode cX6_join 92 = .ok (.getfield 35, 3) := by decide +kernel
theorem dX6_join_95 : decode cX6_join 95 = .ok (.iload_n 1, 1) := by decide +kernel
theorem dX6_join_96 : decode cX6_join 96 = .ok (.iaload, 1) := by decide +kernel
theorem dX6_join_97 : decode cX6_join 97 = .ok (.invokevirtual 114, 3) := by decide +kernel
theorem dX6_join_100 : decode cX6_join 100 = .ok (.ireturn, 1) := by decide +kernel
set_option maxRecDepth 20000 in
theorem ggX6_stretch_X6_isRow : GoodIn wsX6_stretch wsX6_isRow := goodIn_r _ [9, 10, 11, 12, 8, 13] (by decide +kernel) (by decide +kernel)
set_option maxRecDepth 20000 in
theorem gX6_stretch_X6_isRow : GoodIn wsX6_stretch (va_wsS RX6 97 yX6_isRow wsX6_isRow) := goodIn_app (goodIn_of _ (by decide +kernel)) ggX6_stretch_X6_isRow
set_option maxRecDepth 20000 in
theorem ggX6_stretch_X6_in : GoodIn wsX6_stretch wsX6_in := goodIn_r _ [13] (by decide +kernel) (by decide +kernel)
set_option maxRecDepth 20000 in
theorem gX6_stretch_X6_in : GoodIn wsX6_stretch (va_wsS RX6 52 yX6_in wsX6_in) := goodIn_app (goodIn_of _ (by decide +kernel)) ggX6_stretch_X6_in
set_option maxRecDepth 20000 in
theorem ggX6_stretch_X6_becomes : GoodIn wsX6_stretch wsX6_becomes := goodIn_r _ [17, 5, 4, 3, 18, 19, 8, 20, 21, 11, 12, 13, 22, 23, 24, 25, 26, 27, 28, 29, 30, 31, 32, 33, 34, 35, 36, 37, 38, 39] (by decide +kernel) (by decide +kernel)
set_option maxRecDepth 20000 in
theorem gX6_stretch_X6_becomes : GoodIn wsX6_stretch (wsV RX6 114 RX6 yX6_becomes wsX6_becomes) := goodIn_app (goodIn_of _ (by decide +kernel)) ggX6_stretch_X6_becomes
theorem dX6_stretch_0 : decode cX6_stretch 0 = .ok (.iload_n 1, 1) := by decide +kernel
theorem dX6_stretch_1 : decode cX6_stretch 1 = .ok (.invokestatic 97, 3) := by decide +kernel
theorem dX6_stretch_4 : decode cX6_stretch 4 = .ok (.ifCond .eq 17, 3) := by decide +kernel
theorem dX6_stretch_7 : decode cX6_stretch 7 = .ok (.iload_n 2, 1) := by decide +kernel
theorem dX6_stretch_8 : decode cX6_stretch 8 = .ok (.i2l, 1) := by decide +kernel
theorem dX6_stretch_9 : decode cX6_stretch 9 = .ok (.ldc2_w 118, 3) := by decide +kernel
theorem dX6_stretch_12 : decode cX6_stretch 12 = .ok (.ldc2_w 120, 3) := by decide +kernel
theorem dX6_stretch_15 : decode cX6_stretch 15 = .ok (.invokestatic 52, 3) := by decide +kernel
theorem dX6_stretch_18 : decode cX6_stretch 18 = .ok (.ifCond .ne 6, 3) := by decide +kernel
theorem dX6_stretch_21 : decode cX6_stretch 21 = .ok (.bipush (-2), 2) := by decide +kernel
theorem dX6_stretch_23 : decode cX6_stretch 23 = .ok (.ireturn, 1) := by decide +kernel
theorem dX6_stretch_24 : decode cX6_stretch 24 = .ok (.aload_n 0, 1) := by decide +kernel
theorem dX6_stretch_25 : decode cX6_stretch 25 = .ok (.getfield 35, 3) := by decide +kernel
theorem dX6_stretch_28 : decode cX6_stretch 28 = .ok (.iload_n 1, 1) := by decide +kernel
theorem dX6_stretch_29 : decode cX6_stretch 29 = .ok (.iaload, 1) := by decide +kernel
theorem dX6_stretch_30 : decode cX6_stretch 30 = .ok (.iload_n 2, 1) := by decide +kernel
theorem dX6_stretch_31 : decode cX6_stretch 31 = .ok (.imul, 1) := by decide +kernel
theorem dX6_stretch_32 : decode cX6_stretch 32 = .ok (.sipush 400, 3) := by decide +kernel
theorem dX6_stretch_35 : decode cX6_stretch 35 = .ok (.if_icmp .le 6, 3) := by decide +kernel
theorem dX6_stretch_38 : decode cX6_stretch 38 = .ok (.bipush (-4), 2) := by decide +kernel
theorem dX6_stretch_40 : decode cX6_stretch 40 = .ok (.ireturn, 1) := by decide +kernel
theorem dX6_stretch_41 : decode cX6_stretch 41 = .ok (.iconst 0, 1) := by decide +kernel
theorem dX6_stretch_42 : decode cX6_stretch 42 = .ok (.istore_n 3, 1) := by decide +kernel
theorem dX6_stretch_43 : decode cX6_stretch 43 = .ok (.iload_n 3, 1) := by decide +kernel
theorem dX6_stretch_44 : decode cX6_stretch 44 = .ok (.aload_n 0, 1) := by decide +kernel
theorem dX6_stretch_45 : decode cX6_stretch 45 = .ok (.getfield 35, 3) := by decide +kernel
theorem dX6_stretch_48 : decode cX6_stretch 48 = .ok (.iload_n 1, 1) := by decide +kernel
theorem dX6_stretch_49 : decode cX6_stretch 49 = .ok (.iaload, 1) := by decide +kernel
theorem dX6_stretch_50 : decode cX6_stretch 50 = .ok (.if_icmp .ge 68, 3) := by decide +kernel
theorem dX6_stretch_53 : decode cX6_stretch 53 = .ok (.aload_n 0, 1) := by decide +kernel
theorem dX6_stretch_54 : decode cX6_stretch 54 = .ok (.getfield 38, 3) := by decide +kernel
theorem dX6_stretch_57 : decode cX6_stretch 57 = .ok (.sipush 400, 3) := by decide +kernel
theorem dX6_stretch_60 : decode cX6_stretch 60 = .ok (.iload_n 1, 1) := by decide +kernel
theorem dX6_stretch_61 : decode cX6_stretch 61 = .ok (.imul, 1) := by decide +kernel
theorem dX6_stretch_62 : decode cX6_stretch 62 = .ok (.iload_n 3, 1) := by decide +kernel
theorem dX6_stretch_63 : decode cX6_stretch 63 = .ok (.iadd, 1) := by decide +kernel
theorem dX6_stretch_64 : decode cX6_stretch 64 = .ok (.iaload, 1) := by decide +kernel
theorem dX6_stretch_65 : decode cX6_stretch 65 = .ok (.istore 4, 2) := by decide +kernel
theorem dX6_stretch_67 : decode cX6_stretch 67 = .ok (.iconst 0, 1) := by decide +kernel
theorem dX6_stretch_68 : decode cX6_stretch 68 = .ok (.istore 5, 2) := by decide +kernel
theorem dX6_stretch_70 : decode cX6_stretch 70 = .ok (.iload 5, 2) := by decide +kernel
theorem dX6_stretch_72 : decode cX6_stretch 72 = .ok (.iload_n 2, 1) := by decide +kernel
theorem dX6_stretch_73 : decode cX6_stretch 73 = .ok (.if_icmp .ge 39, 3) := by decide +kernel
theorem dX6_stretch_76 : decode cX6_stretch 76 = .ok (.aload_n 0, 1) := by decide +kernel
theorem dX6_stretch_77 : decode cX6_stretch 77 = .ok (.getfield 41, 3) := by decide +kernel
theorem dX6_stretch_80 : decode cX6_stretch 80 = .ok (.iload_n 2, 1) := by decide +kernel
theorem dX6_stretch_81 : decode cX6_stretch 81 = .ok (.iload_n 3, 1) := by decide +kernel
theorem dX6_stretch_82 : decode cX6_stretch 82 = .ok (.imul, 1) := by decide +kernel
theorem dX6_stretch_83 : decode cX6_stretch 83 = .ok (.iload 5, 2) := by decide +kernel
theorem dX6_stretch_85 : decode cX6_stretch 85 = .ok (.iadd, 1) := by decide +kernel
theorem dX6_stretch_86 : decode cX6_stretch 86 = .ok (.iload 4, 2) := by decide +kernel
theorem dX6_stretch_88 : decode cX6_stretch 88 = .ok (.iload_n 2, 1) := by decide +kernel
theorem dX6_stretch_89 : decode cX6_stretch 89 = .ok (.idiv, 1) := by decide +kernel
theorem dX6_stretch_90 : decode cX6_stretch 90 = .ok (.iload 5, 2) := by decide +kernel
theorem dX6_stretch_92 : decode cX6_stretch 92 = .ok (.iload 4, 2) := by decide +kernel
theorem dX6_stretch_94 : decode cX6_stretch 94 = .ok (.iload_n 2, 1) := by decide +kernel
theorem dX6_stretch_95 : decode cX6_stretch 95 = .ok (.irem, 1) := by decide +kernel
theorem dX6_stretch_96 : decode cX6_stretch 96 = .ok (.if_icmp .ge 7, 3) := by decide +kernel
theorem dX6_stretch_99 : decode cX6_stretch 99 = .ok (.iconst 1, 1) := by decide +kernel
theorem dX6_stretch_100 : decode cX6_stretch 100 = .ok (.goto 4, 3) := by decide +kernel
theorem dX6_stretch_103 : decode cX6_stretch 103 = .ok (.iconst 0, 1) := by decide +kernel
theorem dX6_stretch_104 : decode cX6_stretch 104 = .ok (.iadd, 1) := by decide +kernel
theorem dX6_stretch_105 : decode cX6_stretch 105 = .ok (.iastore, 1) := by decide +kernel
theorem dX6_stretch_106 : decode cX6_stretch 106 = .ok (.iinc 5 1, 3) := by decide +kernel
theorem dX6_stretch_109 : decode cX6_stretch 109 = .ok (.goto (-39), 3) := by decide +kernel
theorem dX6_stretch_112 : decode cX6_stretch 112 = .ok (.iinc 3 1, 3) := by decide +kernel
theorem dX6_stretch_115 : decode cX6_stretch 115 = .ok (.goto (-72), 3) := by decide +kernel
theorem dX6_stretch_118 : decode cX6_stretch 118 = .ok (.aload_n 0, 1) := by decide +kernel
theorem dX6_stretch_119 : decode cX6_stretch 119 = .ok (.iload_n 1, 1) := by decide +kernel
theorem dX6_stretch_120 : decode cX6_stretch 120 = .ok (.aload_n 0, 1) := by decide +kernel
theorem dX6_stretch_121 : decode cX6_stretch 121 = .ok (.getfield 35, 3) := by decide +kernel
theorem dX6_stretch_124 : decode cX6_stretch 124 = .ok (.iload_n 1, 1) := by decide +kernel
theorem dX6_stretch_125 : decode cX6_stretch 125 = .ok (.iaload, 1) := by decide +kernel
theorem dX6_stretch_126 : decode cX6_stretch 126 = .ok (.iload_n 2, 1) := by decide +kernel
theorem dX6_stretch_127 : decode cX6_stretch 127 = .ok (.imul, 1) := by decide +kernel
theorem dX6_stretch_128 : decode cX6_stretch 128 = .ok (.invokevirtual 114, 3) := by decide +kernel
theorem dX6_stretch_131 : decode cX6_stretch 131 = .ok (.ireturn, 1) := by decide +kernel
set_option maxRecDepth 20000 in
theorem ggX6_gather_X6_isRow : GoodIn wsX6_gather wsX6_isRow := goodIn_r _ [9, 10, 11, 12, 8, 13] (by decide +kernel) (by decide +kernel)
set_option maxRecDepth 20000 in
theorem gX6_gather_X6_isRow : GoodIn wsX6_gather (va_wsS RX6 97 yX6_isRow wsX6_isRow) := goodIn_app (goodIn_of _ (by decide +kernel)) ggX6_gather_X6_isRow
set_option maxRecDepth 20000 in
theorem ggX6_gather_X6_in : GoodIn wsX6_gather wsX6_in := goodIn_r _ [13] (by decide +kernel) (by decide +kernel)
set_option maxRecDepth 20000 in
theorem gX6_gather_X6_in : GoodIn wsX6_gather (va_wsS RX6 52 yX6_in wsX6_in) := goodIn_app (goodIn_of _ (by decide +kernel)) ggX6_gather_X6_in
set_option maxRecDepth 20000 in
theorem ggX6_gather_X6_becomes : GoodIn wsX6_gather wsX6_becomes := goodIn_r _ [17, 4, 5, 3, 18, 19, 8, 20, 21, 11, 12, 13, 22, 23, 24, 25, 26, 27, 28, 29, 30, 31, 32, 33, 34, 35, 36, 37, 38, 39] (by decide +kernel) (by decide +kernel)
set_option maxRecDepth 20000 in
theorem gX6_gather_X6_becomes : GoodIn wsX6_gather (wsV RX6 114 RX6 yX6_becomes wsX6_becomes) := goodIn_app (goodIn_of _ (by decide +kernel)) ggX6_gather_X6_becomes
theorem dX6_gather_0 : decode cX6_gather 0 = .ok (.iload_n 1, 1) := by decide +kernel
theorem dX6_gather_1 : decode cX6_gather 1 = .ok (.invokestatic 97, 3) := by decide +kernel
theorem dX6_gather_4 : decode cX6_gather 4 = .ok (.ifCond .eq 17, 3) := by decide +kernel
theorem dX6_gather_7 : decode cX6_gather 7 = .ok (.iload_n 2, 1) := by decide +kernel
theorem dX6_gather_8 : decode cX6_gather 8 = .ok (.i2l, 1) := by decide +kernel
theorem dX6_gather_9 : decode cX6_gather 9 = .ok (.ldc2_w 118, 3) := by decide +kernel
theorem dX6_gather_12 : decode cX6_gather 12 = .ok (.ldc2_w 60, 3) := by decide +kernel
theorem dX6_gather_15 : decode cX6_gather 15 = .ok (.invokestatic 52, 3) := by decide +kernel
theorem dX6_gather_18 : decode cX6_gather 18 = .ok (.ifCond .ne 6, 3) := by decide +kernel
theorem dX6_gather_21 : decode cX6_gather 21 = .ok (.bipush (-2), 2) := by decide +kernel
theorem dX6_gather_23 : decode cX6_gather 23 = .ok (.ireturn, 1) := by decide +kernel
theorem dX6_gather_24 : decode cX6_gather 24 = .ok (.aload_n 0, 1) := by decide +kernel
theorem dX6_gather_25 : decode cX6_gather 25 = .ok (.getfield 35, 3) := by decide +kernel
theorem dX6_gather_28 : decode cX6_gather 28 = .ok (.iload_n 1, 1) := by decide +kernel
theorem dX6_gather_29 : decode cX6_gather 29 = .ok (.iaload, 1) := by decide +kernel
theorem dX6_gather_30 : decode cX6_gather 30 = .ok (.iload_n 2, 1) := by decide +kernel
theorem dX6_gather_31 : decode cX6_gather 31 = .ok (.iadd, 1) := by decide +kernel
theorem dX6_gather_32 : decode cX6_gather 32 = .ok (.iconst 1, 1) := by decide +kernel
theorem dX6_gather_33 : decode cX6_gather 33 = .ok (.isub, 1) := by decide +kernel
theorem dX6_gather_34 : decode cX6_gather 34 = .ok (.iload_n 2, 1) := by decide +kernel
theorem dX6_gather_35 : decode cX6_gather 35 = .ok (.idiv, 1) := by decide +kernel
theorem dX6_gather_36 : decode cX6_gather 36 = .ok (.istore_n 3, 1) := by decide +kernel
theorem dX6_gather_37 : decode cX6_gather 37 = .ok (.iconst 0, 1) := by decide +kernel
theorem dX6_gather_38 : decode cX6_gather 38 = .ok (.istore 4, 2) := by decide +kernel
theorem dX6_gather_40 : decode cX6_gather 40 = .ok (.iload 4, 2) := by decide +kernel
theorem dX6_gather_42 : decode cX6_gather 42 = .ok (.iload_n 3, 1) := by decide +kernel
theorem dX6_gather_43 : decode cX6_gather 43 = .ok (.if_icmp .ge 17, 3) := by decide +kernel
theorem dX6_gather_46 : decode cX6_gather 46 = .ok (.aload_n 0, 1) := by decide +kernel
theorem dX6_gather_47 : decode cX6_gather 47 = .ok (.getfield 41, 3) := by decide +kernel
theorem dX6_gather_50 : decode cX6_gather 50 = .ok (.iload 4, 2) := by decide +kernel
theorem dX6_gather_52 : decode cX6_gather 52 = .ok (.iconst 0, 1) := by decide +kernel
theorem dX6_gather_53 : decode cX6_gather 53 = .ok (.iastore, 1) := by decide +kernel
theorem dX6_gather_54 : decode cX6_gather 54 = .ok (.iinc 4 1, 3) := by decide +kernel
theorem dX6_gather_57 : decode cX6_gather 57 = .ok (.goto (-17), 3) := by decide +kernel
theorem dX6_gather_60 : decode cX6_gather 60 = .ok (.iconst 0, 1) := by decide +kernel
theorem dX6_gather_61 : decode cX6_gather 61 = .ok (.istore 4, 2) := by decide +kernel
theorem dX6_gather_63 : decode cX6_gather 63 = .ok (.iload 4, 2) := by decide +kernel
theorem dX6_gather_65 : decode cX6_gather 65 = .ok (.aload_n 0, 1) := by decide +kernel
theorem dX6_gather_66 : decode cX6_gather 66 = .ok (.getfield 35, 3) := by decide +kernel
theorem dX6_gather_69 : decode cX6_gather 69 = .ok (.iload_n 1, 1) := by decide +kernel
theorem dX6_gather_70 : decode cX6_gather 70 = .ok (.iaload, 1) := by decide +kernel
theorem dX6_gather_71 : decode cX6_gather 71 = .ok (.if_icmp .ge 34, 3) := by decide +kernel
theorem dX6_gather_74 : decode cX6_gather 74 = .ok (.aload_n 0, 1) := by decide +kernel
theorem dX6_gather_75 : decode cX6_gather 75 = .ok (.getfield 41, 3) := by decide +kernel
theorem dX6_gather_78 : decode cX6_gather 78 = .ok (.iload 4, 2) := by decide +kernel
theorem dX6_gather_80 : decode cX6_gather 80 = .ok (.iload_n 2, 1) := by decide +kernel
theorem dX6_gather_81 : decode cX6_gather 81 = .ok (.idiv, 1) := by decide +kernel
theorem dX6_gather_82 : decode cX6_gather 82 = .ok (.dup2, 1) := by decide +kernel
theorem dX6_gather_83 : decode cX6_gather 83 = .ok (.iaload, 1) := by decide +kernel
theorem dX6_gather_84 : decode cX6_gather 84 = .ok (.aload_n 0, 1) := by decide +kernel
theorem dX6_gather_85 : decode cX6_gather 85 = .ok (.getfield 38, 3) := by decide +kernel
theorem dX6_gather_88 : decode cX6_gather 88 = .ok (.sipush 400, 3) := by decide +kernel
theorem dX6_gather_91 : decode cX6_gather 91 = .ok (.iload_n 1, 1) := by decide +kernel
theorem dX6_gather_92 : decode cX6_gather 92 = .ok (.imul, 1) := by decide +kernel
theorem dX6_gather_93 : decode cX6_gather 93 = .ok (.iload 4, 2) := by decide +kernel
theorem dX6_gather_95 : decode cX6_gather 95 = .ok (.iadd, 1) := by decide +kernel
theorem dX6_gather_96 : decode cX6_gather 96 = .ok (.iaload, 1) := by decide +kernel
theorem dX6_gather_97 : decode cX6_gather 97 = .ok (.iadd, 1) := by decide +kernel
theorem dX6_gather_98 : decode cX6_gather 98 = .ok (.iastore, 1) := by decide +kernel
theorem dX6_gather_99 : decode cX6_gather 99 = .ok (.iinc 4 1, 3) := by decide +kernel
end
section
theorem dX6_gather_102 : decode cX6_gather 102 = .ok (.goto (-39), 3) := by decide +kernel
theorem dX6_gather_105 : decode cX6_gather 105 = .ok (.aload_n 0, 1) := by decide +kernel
theorem dX6_gather_106 : decode cX6_gather 106 = .ok (.iload_n 1, 1) := by decide +kernel
theorem dX6_gather_107 : decode cX6_gather 107 = .ok (.iload_n 3, 1) := by decide +kernel
theorem dX6_gather_108 : decode cX6_gather 108 = .ok (.invokevirtual 114, 3) := by decide +kernel
theorem dX6_gather_111 : decode cX6_gather 111 = .ok (.ireturn, 1) := by decide +kernel
set_option maxRecDepth 20000 in
theorem ggX6_fault_X6_isRow : GoodIn wsX6_fault wsX6_isRow := goodIn_r _ [10, 11, 12, 13, 9, 14] (by decide +kernel) (by decide +kernel)
set_option maxRecDepth 20000 in
theorem gX6_fault_X6_isRow : GoodIn wsX6_fault (va_wsS RX6 97 yX6_isRow wsX6_isRow) := goodIn_app (goodIn_of _ (by decide +kernel)) ggX6_fault_X6_isRow
set_option maxRecDepth 20000 in
theorem ggX6_fault_X6_in : GoodIn wsX6_fault wsX6_in := goodIn_r _ [14] (by decide +kernel) (by decide +kernel)
set_option maxRecDepth 20000 in
theorem gX6_fault_X6_in : GoodIn wsX6_fault (va_wsS RX6 52 yX6_in wsX6_in) := goodIn_app (goodIn_of _ (by decide +kernel)) ggX6_fault_X6_in
set_option maxRecDepth 20000 in
theorem ggX6_fault_X6_becomes : GoodIn wsX6_fault wsX6_becomes := goodIn_r _ [18, 5, 6, 4, 19, 20, 9, 21, 22, 12, 13, 14, 23, 24, 25, 26, 27, 28, 29, 30, 31, 32, 33, 34, 35, 36, 37, 38, 39, 40] (by decide +kernel) (by decide +kernel)
set_option maxRecDepth 20000 in
theorem gX6_fault_X6_becomes : GoodIn wsX6_fault (wsV RX6 114 RX6 yX6_becomes wsX6_becomes) := goodIn_app (goodIn_of _ (by decide +kernel)) ggX6_fault_X6_becomes
theorem dX6_fault_0 : decode cX6_fault 0 = .ok (.iload_n 1, 1) := by decide +kernel
theorem dX6_fault_1 : decode cX6_fault 1 = .ok (.invokestatic 97, 3) := by decide +kernel
theorem dX6_fault_4 : decode cX6_fault 4 = .ok (.ifCond .eq 29, 3) := by decide +kernel
theorem dX6_fault_7 : decode cX6_fault 7 = .ok (.iload_n 2, 1) := by decide +kernel
theorem dX6_fault_8 : decode cX6_fault 8 = .ok (.i2l, 1) := by decide +kernel
theorem dX6_fault_9 : decode cX6_fault 9 = .ok (.ldc2_w 118, 3) := by decide +kernel
theorem dX6_fault_12 : decode cX6_fault 12 = .ok (.ldc2_w 122, 3) := by decide +kernel
theorem dX6_fault_15 : decode cX6_fault 15 = .ok (.invokestatic 52, 3) := by decide +kernel
theorem dX6_fault_18 : decode cX6_fault 18 = .ok (.ifCond .eq 15, 3) := by decide +kernel
theorem dX6_fault_21 : decode cX6_fault 21 = .ok (.iload_n 3, 1) := by decide +kernel
theorem dX6_fault_22 : decode cX6_fault 22 = .ok (.i2l, 1) := by decide +kernel
theorem dX6_fault_23 : decode cX6_fault 23 = .ok (.lconst 0, 1) := by decide +kernel
theorem dX6_fault_24 : decode cX6_fault 24 = .ok (.ldc2_w 71, 3) := by decide +kernel
theorem dX6_fault_27 : decode cX6_fault 27 = .ok (.invokestatic 52, 3) := by decide +kernel
theorem dX6_fault_30 : decode cX6_fault 30 = .ok (.ifCond .ne 6, 3) := by decide +kernel
theorem dX6_fault_33 : decode cX6_fault 33 = .ok (.bipush (-2), 2) := by decide +kernel
theorem dX6_fault_35 : decode cX6_fault 35 = .ok (.ireturn, 1) := by decide +kernel
theorem dX6_fault_36 : decode cX6_fault 36 = .ok (.iload_n 2, 1) := by decide +kernel
theorem dX6_fault_37 : decode cX6_fault 37 = .ok (.iconst 2, 1) := by decide +kernel
theorem dX6_fault_38 : decode cX6_fault 38 = .ok (.idiv, 1) := by decide +kernel
theorem dX6_fault_39 : decode cX6_fault 39 = .ok (.istore 4, 2) := by decide +kernel
theorem dX6_fault_41 : decode cX6_fault 41 = .ok (.iconst 0, 1) := by decide +kernel
theorem dX6_fault_42 : decode cX6_fault 42 = .ok (.istore 5, 2) := by decide +kernel
theorem dX6_fault_44 : decode cX6_fault 44 = .ok (.iconst 0, 1) := by decide +kernel
theorem dX6_fault_45 : decode cX6_fault 45 = .ok (.istore 6, 2) := by decide +kernel
theorem dX6_fault_47 : decode cX6_fault 47 = .ok (.iload 6, 2) := by decide +kernel
theorem dX6_fault_49 : decode cX6_fault 49 = .ok (.aload_n 0, 1) := by decide +kernel
theorem dX6_fault_50 : decode cX6_fault 50 = .ok (.getfield 35, 3) := by decide +kernel
theorem dX6_fault_53 : decode cX6_fault 53 = .ok (.iload_n 1, 1) := by decide +kernel
theorem dX6_fault_54 : decode cX6_fault 54 = .ok (.iaload, 1) := by decide +kernel
theorem dX6_fault_55 : decode cX6_fault 55 = .ok (.if_icmp .ge 29, 3) := by decide +kernel
theorem dX6_fault_58 : decode cX6_fault 58 = .ok (.aload_n 0, 1) := by decide +kernel
theorem dX6_fault_59 : decode cX6_fault 59 = .ok (.getfield 41, 3) := by decide +kernel
theorem dX6_fault_62 : decode cX6_fault 62 = .ok (.iload 6, 2) := by decide +kernel
theorem dX6_fault_64 : decode cX6_fault 64 = .ok (.aload_n 0, 1) := by decide +kernel
theorem dX6_fault_65 : decode cX6_fault 65 = .ok (.getfield 38, 3) := by decide +kernel
theorem dX6_fault_68 : decode cX6_fault 68 = .ok (.sipush 400, 3) := by decide +kernel
theorem dX6_fault_71 : decode cX6_fault 71 = .ok (.iload_n 1, 1) := by decide +kernel
theorem dX6_fault_72 : decode cX6_fault 72 = .ok (.imul, 1) := by decide +kernel
theorem dX6_fault_73 : decode cX6_fault 73 = .ok (.iload 6, 2) := by decide +kernel
theorem dX6_fault_75 : decode cX6_fault 75 = .ok (.iadd, 1) := by decide +kernel
theorem dX6_fault_76 : decode cX6_fault 76 = .ok (.iaload, 1) := by decide +kernel
theorem dX6_fault_77 : decode cX6_fault 77 = .ok (.iastore, 1) := by decide +kernel
theorem dX6_fault_78 : decode cX6_fault 78 = .ok (.iinc 6 1, 3) := by decide +kernel
theorem dX6_fault_81 : decode cX6_fault 81 = .ok (.goto (-34), 3) := by decide +kernel
theorem dX6_fault_84 : decode cX6_fault 84 = .ok (.iconst 0, 1) := by decide +kernel
theorem dX6_fault_85 : decode cX6_fault 85 = .ok (.istore 6, 2) := by decide +kernel
theorem dX6_fault_87 : decode cX6_fault 87 = .ok (.iload 6, 2) := by decide +kernel
theorem dX6_fault_89 : decode cX6_fault 89 = .ok (.iload_n 2, 1) := by decide +kernel
theorem dX6_fault_90 : decode cX6_fault 90 = .ok (.iadd, 1) := by decide +kernel
theorem dX6_fault_91 : decode cX6_fault 91 = .ok (.aload_n 0, 1) := by decide +kernel
theorem dX6_fault_92 : decode cX6_fault 92 = .ok (.getfield 35, 3) := by decide +kernel
theorem dX6_fault_95 : decode cX6_fault 95 = .ok (.iload_n 1, 1) := by decide +kernel
theorem dX6_fault_96 : decode cX6_fault 96 = .ok (.iaload, 1) := by decide +kernel
theorem dX6_fault_97 : decode cX6_fault 97 = .ok (.if_icmp .gt 90, 3) := by decide +kernel
theorem dX6_fault_100 : decode cX6_fault 100 = .ok (.iload 6, 2) := by decide +kernel
theorem dX6_fault_102 : decode cX6_fault 102 = .ok (.istore 7, 2) := by decide +kernel
theorem dX6_fault_104 : decode cX6_fault 104 = .ok (.iload 7, 2) := by decide +kernel
theorem dX6_fault_106 : decode cX6_fault 106 = .ok (.iload 6, 2) := by decide +kernel
theorem dX6_fault_108 : decode cX6_fault 108 = .ok (.iload 4, 2) := by decide +kernel
theorem dX6_fault_110 : decode cX6_fault 110 = .ok (.iadd, 1) := by decide +kernel
theorem dX6_fault_111 : decode cX6_fault 111 = .ok (.if_icmp .ge 67, 3) := by decide +kernel
theorem dX6_fault_114 : decode cX6_fault 114 = .ok (.aload_n 0, 1) := by decide +kernel
theorem dX6_fault_115 : decode cX6_fault 115 = .ok (.getfield 38, 3) := by decide +kernel
theorem dX6_fault_118 : decode cX6_fault 118 = .ok (.sipush 400, 3) := by decide +kernel
theorem dX6_fault_121 : decode cX6_fault 121 = .ok (.iload_n 1, 1) := by decide +kernel
theorem dX6_fault_122 : decode cX6_fault 122 = .ok (.imul, 1) := by decide +kernel
theorem dX6_fault_123 : decode cX6_fault 123 = .ok (.iload 7, 2) := by decide +kernel
theorem dX6_fault_125 : decode cX6_fault 125 = .ok (.iadd, 1) := by decide +kernel
theorem dX6_fault_126 : decode cX6_fault 126 = .ok (.iaload, 1) := by decide +kernel
theorem dX6_fault_127 : decode cX6_fault 127 = .ok (.i2l, 1) := by decide +kernel
theorem dX6_fault_128 : decode cX6_fault 128 = .ok (.iload_n 3, 1) := by decide +kernel
theorem dX6_fault_129 : decode cX6_fault 129 = .ok (.i2l, 1) := by decide +kernel
theorem dX6_fault_130 : decode cX6_fault 130 = .ok (.lmul, 1) := by decide +kernel
theorem dX6_fault_131 : decode cX6_fault 131 = .ok (.ldc2_w 71, 3) := by decide +kernel
theorem dX6_fault_134 : decode cX6_fault 134 = .ok (.ldiv, 1) := by decide +kernel
theorem dX6_fault_135 : decode cX6_fault 135 = .ok (.l2i, 1) := by decide +kernel
theorem dX6_fault_136 : decode cX6_fault 136 = .ok (.istore 8, 2) := by decide +kernel
theorem dX6_fault_138 : decode cX6_fault 138 = .ok (.aload_n 0, 1) := by decide +kernel
theorem dX6_fault_139 : decode cX6_fault 139 = .ok (.getfield 41, 3) := by decide +kernel
theorem dX6_fault_142 : decode cX6_fault 142 = .ok (.iload 7, 2) := by decide +kernel
theorem dX6_fault_144 : decode cX6_fault 144 = .ok (.dup2, 1) := by decide +kernel
theorem dX6_fault_145 : decode cX6_fault 145 = .ok (.iaload, 1) := by decide +kernel
theorem dX6_fault_146 : decode cX6_fault 146 = .ok (.iload 8, 2) := by decide +kernel
theorem dX6_fault_148 : decode cX6_fault 148 = .ok (.isub, 1) := by decide +kernel
theorem dX6_fault_149 : decode cX6_fault 149 = .ok (.iastore, 1) := by decide +kernel
theorem dX6_fault_150 : decode cX6_fault 150 = .ok (.aload_n 0, 1) := by decide +kernel
theorem dX6_fault_151 : decode cX6_fault 151 = .ok (.getfield 41, 3) := by decide +kernel
theorem dX6_fault_154 : decode cX6_fault 154 = .ok (.iload 7, 2) := by decide +kernel
theorem dX6_fault_156 : decode cX6_fault 156 = .ok (.iload 4, 2) := by decide +kernel
theorem dX6_fault_158 : decode cX6_fault 158 = .ok (.iadd, 1) := by decide +kernel
theorem dX6_fault_159 : decode cX6_fault 159 = .ok (.dup2, 1) := by decide +kernel
theorem dX6_fault_160 : decode cX6_fault 160 = .ok (.iaload, 1) := by decide +kernel
theorem dX6_fault_161 : decode cX6_fault 161 = .ok (.iload 8, 2) := by decide +kernel
theorem dX6_fault_163 : decode cX6_fault 163 = .ok (.iadd, 1) := by decide +kernel
theorem dX6_fault_164 : decode cX6_fault 164 = .ok (.iastore, 1) := by decide +kernel
theorem dX6_fault_165 : decode cX6_fault 165 = .ok (.iload 5, 2) := by decide +kernel
theorem dX6_fault_167 : decode cX6_fault 167 = .ok (.iload 8, 2) := by decide +kernel
theorem dX6_fault_169 : decode cX6_fault 169 = .ok (.iadd, 1) := by decide +kernel
theorem dX6_fault_170 : decode cX6_fault 170 = .ok (.istore 5, 2) := by decide +kernel
theorem dX6_fault_172 : decode cX6_fault 172 = .ok (.iinc 7 1, 3) := by decide +kernel
theorem dX6_fault_175 : decode cX6_fault 175 = .ok (.goto (-71), 3) := by decide +kernel
theorem dX6_fault_178 : decode cX6_fault 178 = .ok (.iload 6, 2) := by decide +kernel
theorem dX6_fault_180 : decode cX6_fault 180 = .ok (.iload_n 2, 1) := by decide +kernel
theorem dX6_fault_181 : decode cX6_fault 181 = .ok (.iadd, 1) := by decide +kernel
theorem dX6_fault_182 : decode cX6_fault 182 = .ok (.istore 6, 2) := by decide +kernel
theorem dX6_fault_184 : decode cX6_fault 184 = .ok (.goto (-97), 3) := by decide +kernel
theorem dX6_fault_187 : decode cX6_fault 187 = .ok (.aload_n 0, 1) := by decide +kernel
theorem dX6_fault_188 : decode cX6_fault 188 = .ok (.iload_n 1, 1) := by decide +kernel
theorem dX6_fault_189 : decode cX6_fault 189 = .ok (.aload_n 0, 1) := by decide +kernel
theorem dX6_fault_190 : decode cX6_fault 190 = .ok (.getfield 35, 3) := by decide +kernel
theorem dX6_fault_193 : decode cX6_fault 193 = .ok (.iload_n 1, 1) := by decide +kernel
theorem dX6_fault_194 : decode cX6_fault 194 = .ok (.iaload, 1) := by decide +kernel
theorem dX6_fault_195 : decode cX6_fault 195 = .ok (.invokevirtual 114, 3) := by decide +kernel
theorem dX6_fault_198 : decode cX6_fault 198 = .ok (.ifCond .ge 8, 3) := by decide +kernel
theorem dX6_fault_201 : decode cX6_fault 201 = .ok (.bipush (-6), 2) := by decide +kernel
theorem dX6_fault_203 : decode cX6_fault 203 = .ok (.goto 5, 3) := by decide +kernel
theorem dX6_fault_206 : decode cX6_fault 206 = .ok (.iload 5, 2) := by decide +kernel
theorem dX6_fault_208 : decode cX6_fault 208 = .ok (.ireturn, 1) := by decide +kernel
theorem dX6_sum_0 : decode cX6_sum 0 = .ok (.lconst 0, 1) := by decide +kernel
theorem dX6_sum_1 : decode cX6_sum 1 = .ok (.lstore_n 2, 1) := by decide +kernel
theorem dX6_sum_2 : decode cX6_sum 2 = .ok (.iconst 0, 1) := by decide +kernel
theorem dX6_sum_3 : decode cX6_sum 3 = .ok (.istore 4, 2) := by decide +kernel
theorem dX6_sum_5 : decode cX6_sum 5 = .ok (.iload 4, 2) := by decide +kernel
theorem dX6_sum_7 : decode cX6_sum 7 = .ok (.aload_n 0, 1) := by decide +kernel
theorem dX6_sum_8 : decode cX6_sum 8 = .ok (.getfield 35, 3) := by decide +kernel
theorem dX6_sum_11 : decode cX6_sum 11 = .ok (.iload_n 1, 1) := by decide +kernel
theorem dX6_sum_12 : decode cX6_sum 12 = .ok (.iaload, 1) := by decide +kernel
theorem dX6_sum_13 : decode cX6_sum 13 = .ok (.if_icmp .ge 26, 3) := by decide +kernel
theorem dX6_sum_16 : decode cX6_sum 16 = .ok (.lload_n 2, 1) := by decide +kernel
theorem dX6_sum_17 : decode cX6_sum 17 = .ok (.aload_n 0, 1) := by decide +kernel
theorem dX6_sum_18 : decode cX6_sum 18 = .ok (.getfield 38, 3) := by decide +kernel
theorem dX6_sum_21 : decode cX6_sum 21 = .ok (.sipush 400, 3) := by decide +kernel
theorem dX6_sum_24 : decode cX6_sum 24 = .ok (.iload_n 1, 1) := by decide +kernel
theorem dX6_sum_25 : decode cX6_sum 25 = .ok (.imul, 1) := by decide +kernel
theorem dX6_sum_26 : decode cX6_sum 26 = .ok (.iload 4, 2) := by decide +kernel
theorem dX6_sum_28 : decode cX6_sum 28 = .ok (.iadd, 1) := by decide +kernel
theorem dX6_sum_29 : decode cX6_sum 29 = .ok (.iaload, 1) := by decide +kernel
theorem dX6_sum_30 : decode cX6_sum 30 = .ok (.i2l, 1) := by decide +kernel
theorem dX6_sum_31 : decode cX6_sum 31 = .ok (.ladd, 1) := by decide +kernel
theorem dX6_sum_32 : decode cX6_sum 32 = .ok (.lstore_n 2, 1) := by decide +kernel
theorem dX6_sum_33 : decode cX6_sum 33 = .ok (.iinc 4 1, 3) := by decide +kernel
theorem dX6_sum_36 : decode cX6_sum 36 = .ok (.goto (-31), 3) := by decide +kernel
theorem dX6_sum_39 : decode cX6_sum 39 = .ok (.lload_n 2, 1) := by decide +kernel
theorem dX6_sum_40 : decode cX6_sum 40 = .ok (.lreturn, 1) := by decide +kernel
set_option maxRecDepth 20000 in
theorem ggX6_about_X6_isRow : GoodIn wsX6_about wsX6_isRow := goodIn_r _ [8, 9, 10, 11, 7, 12] (by decide +kernel) (by decide +kernel)
set_option maxRecDepth 20000 in
theorem gX6_about_X6_isRow : GoodIn wsX6_about (va_wsS RX6 97 yX6_isRow wsX6_isRow) := goodIn_app (goodIn_of _ (by decide +kernel)) ggX6_about_X6_isRow
set_option maxRecDepth 20000 in
theorem ggX6_about_X6_in : GoodIn wsX6_about wsX6_in := goodIn_r _ [12] (by decide +kernel) (by decide +kernel)
set_option maxRecDepth 20000 in
theorem gX6_about_X6_in : GoodIn wsX6_about (va_wsS RX6 52 yX6_in wsX6_in) := goodIn_app (goodIn_of _ (by decide +kernel)) ggX6_about_X6_in
set_option maxRecDepth 20000 in
theorem ggX6_about_X6_sum : GoodIn wsX6_about wsX6_sum := goodIn_r _ [16, 3, 4, 17, 18, 19, 20, 21, 22, 23, 24, 25, 26, 27, 28, 29, 30, 31, 32, 33, 34] (by decide +kernel) (by decide +kernel)
set_option maxRecDepth 20000 in
theorem gX6_about_X6_sum : GoodIn wsX6_about (wsV RX6 126 RX6 yX6_sum wsX6_sum) := goodIn_app (goodIn_of _ (by decide +kernel)) ggX6_about_X6_sum
theorem dX6_about_0 : decode cX6_about 0 = .ok (.iload_n 1, 1) := by decide +kernel
theorem dX6_about_1 : decode cX6_about 1 = .ok (.invokestatic 97, 3) := by decide +kernel
theorem dX6_about_4 : decode cX6_about 4 = .ok (.ifCond .eq 15, 3) := by decide +kernel
theorem dX6_about_7 : decode cX6_about 7 = .ok (.iload_n 2, 1) := by decide +kernel
theorem dX6_about_8 : decode cX6_about 8 = .ok (.i2l, 1) := by decide +kernel
theorem dX6_about_9 : decode cX6_about 9 = .ok (.lconst 0, 1) := by decide +kernel
theorem dX6_about_10 : decode cX6_about 10 = .ok (.ldc2_w 118, 3) := by decide +kernel
theorem dX6_about_13 : decode cX6_about 13 = .ok (.invokestatic 52, 3) := by decide +kernel
theorem dX6_about_16 : decode cX6_about 16 = .ok (.ifCond .ne 7, 3) := by decide +kernel
theorem dX6_about_19 : decode cX6_about 19 = .ok (.ldc2_w 124, 3) := by decide +kernel
theorem dX6_about_22 : decode cX6_about 22 = .ok (.lreturn, 1) := by decide +kernel
theorem dX6_about_23 : decode cX6_about 23 = .ok (.iload_n 2, 1) := by decide +kernel
theorem dX6_about_24 : decode cX6_about 24 = .ok (.iconst 2, 1) := by decide +kernel
theorem dX6_about_25 : decode cX6_about 25 = .ok (.if_icmp .ge 23, 3) := by decide +kernel
theorem dX6_about_28 : decode cX6_about 28 = .ok (.iload_n 2, 1) := by decide +kernel
theorem dX6_about_29 : decode cX6_about 29 = .ok (.ifCond .ne 13, 3) := by decide +kernel
theorem dX6_about_32 : decode cX6_about 32 = .ok (.aload_n 0, 1) := by decide +kernel
theorem dX6_about_33 : decode cX6_about 33 = .ok (.getfield 35, 3) := by decide +kernel
theorem dX6_about_36 : decode cX6_about 36 = .ok (.iload_n 1, 1) := by decide +kernel
theorem dX6_about_37 : decode cX6_about 37 = .ok (.iaload, 1) := by decide +kernel
theorem dX6_about_38 : decode cX6_about 38 = .ok (.i2l, 1) := by decide +kernel
theorem dX6_about_39 : decode cX6_about 39 = .ok (.goto 8, 3) := by decide +kernel
theorem dX6_about_42 : decode cX6_about 42 = .ok (.aload_n 0, 1) := by decide +kernel
theorem dX6_about_43 : decode cX6_about 43 = .ok (.iload_n 1, 1) := by decide +kernel
theorem dX6_about_44 : decode cX6_about 44 = .ok (.invokevirtual 126, 3) := by decide +kernel
theorem dX6_about_47 : decode cX6_about 47 = .ok (.lreturn, 1) := by decide +kernel
theorem dX6_about_48 : decode cX6_about 48 = .ok (.lconst 0, 1) := by decide +kernel
theorem dX6_about_49 : decode cX6_about 49 = .ok (.lstore_n 3, 1) := by decide +kernel
theorem dX6_about_50 : decode cX6_about 50 = .ok (.iconst 0, 1) := by decide +kernel
theorem dX6_about_51 : decode cX6_about 51 = .ok (.istore 5, 2) := by decide +kernel
theorem dX6_about_53 : decode cX6_about 53 = .ok (.iload 5, 2) := by decide +kernel
theorem dX6_about_55 : decode cX6_about 55 = .ok (.aload_n 0, 1) := by decide +kernel
theorem dX6_about_56 : decode cX6_about 56 = .ok (.getfield 35, 3) := by decide +kernel
theorem dX6_about_59 : decode cX6_about 59 = .ok (.iload_n 1, 1) := by decide +kernel
theorem dX6_about_60 : decode cX6_about 60 = .ok (.iaload, 1) := by decide +kernel
theorem dX6_about_61 : decode cX6_about 61 = .ok (.if_icmp .ge 41, 3) := by decide +kernel
theorem dX6_about_64 : decode cX6_about 64 = .ok (.lload_n 3, 1) := by decide +kernel
theorem dX6_about_65 : decode cX6_about 65 = .ok (.aload_n 0, 1) := by decide +kernel
theorem dX6_about_66 : decode cX6_about 66 = .ok (.getfield 38, 3) := by decide +kernel
theorem dX6_about_69 : decode cX6_about 69 = .ok (.sipush 400, 3) := by decide +kernel
theorem dX6_about_72 : decode cX6_about 72 = .ok (.iload_n 1, 1) := by decide +kernel
theorem dX6_about_73 : decode cX6_about 73 = .ok (.imul, 1) := by decide +kernel
theorem dX6_about_74 : decode cX6_about 74 = .ok (.iload 5, 2) := by decide +kernel
theorem dX6_about_76 : decode cX6_about 76 = .ok (.iadd, 1) := by decide +kernel
theorem dX6_about_77 : decode cX6_about 77 = .ok (.iaload, 1) := by decide +kernel
theorem dX6_about_78 : decode cX6_about 78 = .ok (.i2l, 1) := by decide +kernel
theorem dX6_about_79 : decode cX6_about 79 = .ok (.aload_n 0, 1) := by decide +kernel
theorem dX6_about_80 : decode cX6_about 80 = .ok (.getfield 38, 3) := by decide +kernel
theorem dX6_about_83 : decode cX6_about 83 = .ok (.sipush 400, 3) := by decide +kernel
theorem dX6_about_86 : decode cX6_about 86 = .ok (.iload_n 1, 1) := by decide +kernel
theorem dX6_about_87 : decode cX6_about 87 = .ok (.imul, 1) := by decide +kernel
theorem dX6_about_88 : decode cX6_about 88 = .ok (.iload 5, 2) := by decide +kernel
theorem dX6_about_90 : decode cX6_about 90 = .ok (.iadd, 1) := by decide +kernel
theorem dX6_about_91 : decode cX6_about 91 = .ok (.iaload, 1) := by decide +kernel
theorem dX6_about_92 : decode cX6_about 92 = .ok (.i2l, 1) := by decide +kernel
theorem dX6_about_93 : decode cX6_about 93 = .ok (.lmul, 1) := by decide +kernel
theorem dX6_about_94 : decode cX6_about 94 = .ok (.ladd, 1) := by decide +kernel
theorem dX6_about_95 : decode cX6_about 95 = .ok (.lstore_n 3, 1) := by decide +kernel
theorem dX6_about_96 : decode cX6_about 96 = .ok (.iinc 5 1, 3) := by decide +kernel
theorem dX6_about_99 : decode cX6_about 99 = .ok (.goto (-46), 3) := by decide +kernel
theorem dX6_about_102 : decode cX6_about 102 = .ok (.aload_n 0, 1) := by decide +kernel
theorem dX6_about_103 : decode cX6_about 103 = .ok (.getfield 35, 3) := by decide +kernel
theorem dX6_about_106 : decode cX6_about 106 = .ok (.iload_n 1, 1) := by decide +kernel
theorem dX6_about_107 : decode cX6_about 107 = .ok (.iaload, 1) := by decide +kernel
theorem dX6_about_108 : decode cX6_about 108 = .ok (.i2l, 1) := by decide +kernel
theorem dX6_about_109 : decode cX6_about 109 = .ok (.lload_n 3, 1) := by decide +kernel
theorem dX6_about_110 : decode cX6_about 110 = .ok (.lmul, 1) := by decide +kernel
theorem dX6_about_111 : decode cX6_about 111 = .ok (.aload_n 0, 1) := by decide +kernel
theorem dX6_about_112 : decode cX6_about 112 = .ok (.iload_n 1, 1) := by decide +kernel
theorem dX6_about_113 : decode cX6_about 113 = .ok (.invokevirtual 126, 3) := by decide +kernel
theorem dX6_about_116 : decode cX6_about 116 = .ok (.aload_n 0, 1) := by decide +kernel
theorem dX6_about_117 : decode cX6_about 117 = .ok (.iload_n 1, 1) := by decide +kernel
theorem dX6_about_118 : decode cX6_about 118 = .ok (.invokevirtual 126, 3) := by decide +kernel
theorem dX6_about_121 : decode cX6_about 121 = .ok (.lmul, 1) := by decide +kernel
theorem dX6_about_122 : decode cX6_about 122 = .ok (.lsub, 1) := by decide +kernel
theorem dX6_about_123 : decode cX6_about 123 = .ok (.lreturn, 1) := by decide +kernel
theorem dX6_waveOf_0 : decode cX6_waveOf 0 = .ok (.aload_n 0, 1) := by decide +kernel
theorem dX6_waveOf_1 : decode cX6_waveOf 1 = .ok (.getfield 35, 3) := by decide +kernel
theorem dX6_waveOf_4 : decode cX6_waveOf 4 = .ok (.iload_n 1, 1) := by decide +kernel
theorem dX6_waveOf_5 : decode cX6_waveOf 5 = .ok (.iaload, 1) := by decide +kernel
theorem dX6_waveOf_6 : decode cX6_waveOf 6 = .ok (.iload_n 2, 1) := by decide +kernel
theorem dX6_waveOf_7 : decode cX6_waveOf 7 = .ok (.idiv, 1) := by decide +kernel
theorem dX6_waveOf_8 : decode cX6_waveOf 8 = .ok (.iload_n 2, 1) := by decide +kernel
theorem dX6_waveOf_9 : decode cX6_waveOf 9 = .ok (.imul, 1) := by decide +kernel
theorem dX6_waveOf_10 : decode cX6_waveOf 10 = .ok (.istore_n 3, 1) := by decide +kernel
theorem dX6_waveOf_11 : decode cX6_waveOf 11 = .ok (.lconst 0, 1) := by decide +kernel
theorem dX6_waveOf_12 : decode cX6_waveOf 12 = .ok (.lstore 4, 2) := by decide +kernel
theorem dX6_waveOf_14 : decode cX6_waveOf 14 = .ok (.lconst 0, 1) := by decide +kernel
theorem dX6_waveOf_15 : decode cX6_waveOf 15 = .ok (.lstore 6, 2) := by decide +kernel
theorem dX6_waveOf_17 : decode cX6_waveOf 17 = .ok (.iconst 0, 1) := by decide +kernel
theorem dX6_waveOf_18 : decode cX6_waveOf 18 = .ok (.istore 8, 2) := by decide +kernel
theorem dX6_waveOf_20 : decode cX6_waveOf 20 = .ok (.iload 8, 2) := by decide +kernel
theorem dX6_waveOf_22 : decode cX6_waveOf 22 = .ok (.iload_n 2, 1) := by decide +kernel
theorem dX6_waveOf_23 : decode cX6_waveOf 23 = .ok (.if_icmp .ge 67, 3) := by decide +kernel
theorem dX6_waveOf_26 : decode cX6_waveOf 26 = .ok (.lconst 0, 1) := by decide +kernel
theorem dX6_waveOf_27 : decode cX6_waveOf 27 = .ok (.lstore 9, 2) := by decide +kernel
theorem dX6_waveOf_29 : decode cX6_waveOf 29 = .ok (.iload 8, 2) := by decide +kernel
theorem dX6_waveOf_31 : decode cX6_waveOf 31 = .ok (.istore 11, 2) := by decide +kernel
theorem dX6_waveOf_33 : decode cX6_waveOf 33 = .ok (.iload 11, 2) := by decide +kernel
theorem dX6_waveOf_35 : decode cX6_waveOf 35 = .ok (.iload_n 3, 1) := by decide +kernel
theorem dX6_waveOf_36 : decode cX6_waveOf 36 = .ok (.if_icmp .ge 31, 3) := by decide +kernel
theorem dX6_waveOf_39 : decode cX6_waveOf 39 = .ok (.lload 9, 2) := by decide +kernel
theorem dX6_waveOf_41 : decode cX6_waveOf 41 = .ok (.aload_n 0, 1) := by decide +kernel
theorem dX6_waveOf_42 : decode cX6_waveOf 42 = .ok (.getfield 38, 3) := by decide +kernel
theorem dX6_waveOf_45 : decode cX6_waveOf 45 = .ok (.sipush 400, 3) := by decide +kernel
theorem dX6_waveOf_48 : decode cX6_waveOf 48 = .ok (.iload_n 1, 1) := by decide +kernel
theorem dX6_waveOf_49 : decode cX6_waveOf 49 = .ok (.imul, 1) := by decide +kernel
theorem dX6_waveOf_50 : decode cX6_waveOf 50 = .ok (.iload 11, 2) := by decide +kernel
theorem dX6_waveOf_52 : decode cX6_waveOf 52 = .ok (.iadd, 1) := by decide +kernel
theorem dX6_waveOf_53 : decode cX6_waveOf 53 = .ok (.iaload, 1) := by decide +kernel
theorem dX6_waveOf_54 : decode cX6_waveOf 54 = .ok (.i2l, 1) := by decide +kernel
theorem dX6_waveOf_55 : decode cX6_waveOf 55 = .ok (.ladd, 1) := by decide +kernel
theorem dX6_waveOf_56 : decode cX6_waveOf 56 = .ok (.lstore 9, 2) := by decide +kernel
theorem dX6_waveOf_58 : decode cX6_waveOf 58 = .ok (.iload 11, 2) := by decide +kernel
theorem dX6_waveOf_60 : decode cX6_waveOf 60 = .ok (.iload_n 2, 1) := by decide +kernel
theorem dX6_waveOf_61 : decode cX6_waveOf 61 = .ok (.iadd, 1) := by decide +kernel
theorem dX6_waveOf_62 : decode cX6_waveOf 62 = .ok (.istore 11, 2) := by decide +kernel
theorem dX6_waveOf_64 : decode cX6_waveOf 64 = .ok (.goto (-31), 3) := by decide +kernel
theorem dX6_waveOf_67 : decode cX6_waveOf 67 = .ok (.lload 4, 2) := by decide +kernel
theorem dX6_waveOf_69 : decode cX6_waveOf 69 = .ok (.lload 9, 2) := by decide +kernel
theorem dX6_waveOf_71 : decode cX6_waveOf 71 = .ok (.lload 9, 2) := by decide +kernel
theorem dX6_waveOf_73 : decode cX6_waveOf 73 = .ok (.lmul, 1) := by decide +kernel
theorem dX6_waveOf_74 : decode cX6_waveOf 74 = .ok (.ladd, 1) := by decide +kernel
theorem dX6_waveOf_75 : decode cX6_waveOf 75 = .ok (.lstore 4, 2) := by decide +kernel
theorem dX6_waveOf_77 : decode cX6_waveOf 77 = .ok (.lload 6, 2) := by decide +kernel
theorem dX6_waveOf_79 : decode cX6_waveOf 79 = .ok (.lload 9, 2) := by decide +kernel
theorem dX6_waveOf_81 : decode cX6_waveOf 81 = .ok (.ladd, 1) := by decide +kernel
theorem dX6_waveOf_82 : decode cX6_waveOf 82 = .ok (.lstore 6, 2) := by decide +kernel
theorem dX6_waveOf_84 : decode cX6_waveOf 84 = .ok (.iinc 8 1, 3) := by decide +kernel
theorem dX6_waveOf_87 : decode cX6_waveOf 87 = .ok (.goto (-67), 3) := by decide +kernel
theorem dX6_waveOf_90 : decode cX6_waveOf 90 = .ok (.iload_n 2, 1) := by decide +kernel
theorem dX6_waveOf_91 : decode cX6_waveOf 91 = .ok (.i2l, 1) := by decide +kernel
theorem dX6_waveOf_92 : decode cX6_waveOf 92 = .ok (.lload 4, 2) := by decide +kernel
theorem dX6_waveOf_94 : decode cX6_waveOf 94 = .ok (.lmul, 1) := by decide +kernel
theorem dX6_waveOf_95 : decode cX6_waveOf 95 = .ok (.lload 6, 2) := by decide +kernel
theorem dX6_waveOf_97 : decode cX6_waveOf 97 = .ok (.lload 6, 2) := by decide +kernel
theorem dX6_waveOf_99 : decode cX6_waveOf 99 = .ok (.lmul, 1) := by decide +kernel
theorem dX6_waveOf_100 : decode cX6_waveOf 100 = .ok (.lsub, 1) := by decide +kernel
theorem dX6_waveOf_101 : decode cX6_waveOf 101 = .ok (.lreturn, 1) := by decide +kernel
set_option maxRecDepth 20000 in
theorem ggX6_wave_X6_isRow : GoodIn wsX6_wave wsX6_isRow := goodIn_r _ [7, 8, 9, 10, 6, 11] (by decide +kernel) (by decide +kernel)
set_option maxRecDepth 20000 in
theorem gX6_wave_X6_isRow : GoodIn wsX6_wave (va_wsS RX6 97 yX6_isRow wsX6_isRow) := goodIn_app (goodIn_of _ (by decide +kernel)) ggX6_wave_X6_isRow
set_option maxRecDepth 20000 in
theorem ggX6_wave_X6_in : GoodIn wsX6_wave wsX6_in := goodIn_r _ [11] (by decide +kernel) (by decide +kernel)
set_option maxRecDepth 20000 in
theorem gX6_wave_X6_in : GoodIn wsX6_wave (va_wsS RX6 52 yX6_in wsX6_in) := goodIn_app (goodIn_of _ (by decide +kernel)) ggX6_wave_X6_in
set_option maxRecDepth 20000 in
theorem ggX6_wave_X6_waveOf : GoodIn wsX6_wave wsX6_waveOf := goodIn_r _ [15, 16, 17, 18, 19, 20, 21, 22, 23, 24, 25, 26, 27, 28, 29, 30, 31, 32, 33, 34, 35] (by decide +kernel) (by decide +kernel)
set_option maxRecDepth 20000 in
theorem gX6_wave_X6_waveOf : GoodIn wsX6_wave (wsV RX6 132 RX6 yX6_waveOf wsX6_waveOf) := goodIn_app (goodIn_of _ (by decide +kernel)) ggX6_wave_X6_waveOf
theorem dX6_wave_0 : decode cX6_wave 0 = .ok (.iload_n 1, 1) := by decide +kernel
theorem dX6_wave_1 : decode cX6_wave 1 = .ok (.invokestatic 97, 3) := by decide +kernel
theorem dX6_wave_4 : decode cX6_wave 4 = .ok (.ifCond .eq 26, 3) := by decide +kernel
theorem dX6_wave_7 : decode cX6_wave 7 = .ok (.iload_n 2, 1) := by decide +kernel
theorem dX6_wave_8 : decode cX6_wave 8 = .ok (.i2l, 1) := by decide +kernel
theorem dX6_wave_9 : decode cX6_wave 9 = .ok (.ldc2_w 118, 3) := by decide +kernel
theorem dX6_wave_12 : decode cX6_wave 12 = .ok (.ldc2_w 130, 3) := by decide +kernel
theorem dX6_wave_15 : decode cX6_wave 15 = .ok (.invokestatic 52, 3) := by decide +kernel
theorem dX6_wave_18 : decode cX6_wave 18 = .ok (.ifCond .eq 12, 3) := by decide +kernel
theorem dX6_wave_21 : decode cX6_wave 21 = .ok (.aload_n 0, 1) := by decide +kernel
theorem dX6_wave_22 : decode cX6_wave 22 = .ok (.iload_n 1, 1) := by decide +kernel
theorem dX6_wave_23 : decode cX6_wave 23 = .ok (.iload_n 2, 1) := by decide +kernel
theorem dX6_wave_24 : decode cX6_wave 24 = .ok (.invokevirtual 132, 3) := by decide +kernel
theorem dX6_wave_27 : decode cX6_wave 27 = .ok (.goto 6, 3) := by decide +kernel
theorem dX6_wave_30 : decode cX6_wave 30 = .ok (.ldc2_w 124, 3) := by decide +kernel
theorem dX6_wave_33 : decode cX6_wave 33 = .ok (.lreturn, 1) := by decide +kernel
theorem dX6_isAbove_0 : decode cX6_isAbove 0 = .ok (.lload_n 0, 1) := by decide +kernel
theorem dX6_isAbove_1 : decode cX6_isAbove 1 = .ok (.lstore 8, 2) := by decide +kernel
theorem dX6_isAbove_3 : decode cX6_isAbove 3 = .ok (.lload_n 2, 1) := by decide +kernel
theorem dX6_isAbove_4 : decode cX6_isAbove 4 = .ok (.lstore 10, 2) := by decide +kernel
theorem dX6_isAbove_6 : decode cX6_isAbove 6 = .ok (.lload 4, 2) := by decide +kernel
theorem dX6_isAbove_8 : decode cX6_isAbove 8 = .ok (.lstore 12, 2) := by decide +kernel
theorem dX6_isAbove_10 : decode cX6_isAbove 10 = .ok (.lload 6, 2) := by decide +kernel
theorem dX6_isAbove_12 : decode cX6_isAbove 12 = .ok (.lstore 14, 2) := by decide +kernel
theorem dX6_isAbove_14 : decode cX6_isAbove 14 = .ok (.iconst 0, 1) := by decide +kernel
theorem dX6_isAbove_15 : decode cX6_isAbove 15 = .ok (.istore 16, 2) := by decide +kernel
theorem dX6_isAbove_17 : decode cX6_isAbove 17 = .ok (.lload 8, 2) := by decide +kernel
theorem dX6_isAbove_19 : decode cX6_isAbove 19 = .ok (.lload 10, 2) := by decide +kernel
theorem dX6_isAbove_21 : decode cX6_isAbove 21 = .ok (.ldiv, 1) := by decide +kernel
theorem dX6_isAbove_22 : decode cX6_isAbove 22 = .ok (.lstore 17, 2) := by decide +kernel
theorem dX6_isAbove_24 : decode cX6_isAbove 24 = .ok (.lload 12, 2) := by decide +kernel
theorem dX6_isAbove_26 : decode cX6_isAbove 26 = .ok (.lload 14, 2) := by decide +kernel
theorem dX6_isAbove_28 : decode cX6_isAbove 28 = .ok (.ldiv, 1) := by decide +kernel
theorem dX6_isAbove_29 : decode cX6_isAbove 29 = .ok (.lstore 19, 2) := by decide +kernel
theorem dX6_isAbove_31 : decode cX6_isAbove 31 = .ok (.lload 17, 2) := by decide +kernel
theorem dX6_isAbove_33 : decode cX6_isAbove 33 = .ok (.lload 19, 2) := by decide +kernel
theorem dX6_isAbove_35 : decode cX6_isAbove 35 = .ok (.lcmp, 1) := by decide +kernel
theorem dX6_isAbove_36 : decode cX6_isAbove 36 = .ok (.ifCond .eq 27, 3) := by decide +kernel
theorem dX6_isAbove_39 : decode cX6_isAbove 39 = .ok (.lload 17, 2) := by decide +kernel
theorem dX6_isAbove_41 : decode cX6_isAbove 41 = .ok (.lload 19, 2) := by decide +kernel
theorem dX6_isAbove_43 : decode cX6_isAbove 43 = .ok (.lcmp, 1) := by decide +kernel
theorem dX6_isAbove_44 : decode cX6_isAbove 44 = .ok (.ifCond .le 7, 3) := by decide +kernel
theorem dX6_isAbove_47 : decode cX6_isAbove 47 = .ok (.iconst 1, 1) := by decide +kernel
theorem dX6_isAbove_48 : decode cX6_isAbove 48 = .ok (.goto 4, 3) := by decide +kernel
theorem dX6_isAbove_51 : decode cX6_isAbove 51 = .ok (.iconst 0, 1) := by decide +kernel
theorem dX6_isAbove_52 : decode cX6_isAbove 52 = .ok (.iload 16, 2) := by decide +kernel
theorem dX6_isAbove_54 : decode cX6_isAbove 54 = .ok (.if_icmp .eq 7, 3) := by decide +kernel
theorem dX6_isAbove_57 : decode cX6_isAbove 57 = .ok (.iconst 1, 1) := by decide +kernel
theorem dX6_isAbove_58 : decode cX6_isAbove 58 = .ok (.goto 4, 3) := by decide +kernel
theorem dX6_isAbove_61 : decode cX6_isAbove 61 = .ok (.iconst 0, 1) := by decide +kernel
theorem dX6_isAbove_62 : decode cX6_isAbove 62 = .ok (.ireturn, 1) := by decide +kernel
theorem dX6_isAbove_63 : decode cX6_isAbove 63 = .ok (.lload 8, 2) := by decide +kernel
theorem dX6_isAbove_65 : decode cX6_isAbove 65 = .ok (.lload 17, 2) := by decide +kernel
theorem dX6_isAbove_67 : decode cX6_isAbove 67 = .ok (.lload 10, 2) := by decide +kernel
theorem dX6_isAbove_69 : decode cX6_isAbove 69 = .ok (.lmul, 1) := by decide +kernel
theorem dX6_isAbove_70 : decode cX6_isAbove 70 = .ok (.lsub, 1) := by decide +kernel
theorem dX6_isAbove_71 : decode cX6_isAbove 71 = .ok (.lstore 21, 2) := by decide +kernel
theorem dX6_isAbove_73 : decode cX6_isAbove 73 = .ok (.lload 12, 2) := by decide +kernel
theorem dX6_isAbove_75 : decode cX6_isAbove 75 = .ok (.lload 19, 2) := by decide +kernel
theorem dX6_isAbove_77 : decode cX6_isAbove 77 = .ok (.lload 14, 2) := by decide +kernel
theorem dX6_isAbove_79 : decode cX6_isAbove 79 = .ok (.lmul, 1) := by decide +kernel
theorem dX6_isAbove_80 : decode cX6_isAbove 80 = .ok (.lsub, 1) := by decide +kernel
theorem dX6_isAbove_81 : decode cX6_isAbove 81 = .ok (.lstore 23, 2) := by decide +kernel
theorem dX6_isAbove_83 : decode cX6_isAbove 83 = .ok (.lload 21, 2) := by decide +kernel
theorem dX6_isAbove_85 : decode cX6_isAbove 85 = .ok (.lconst 0, 1) := by decide +kernel
theorem dX6_isAbove_86 : decode cX6_isAbove 86 = .ok (.lcmp, 1) := by decide +kernel
theorem dX6_isAbove_87 : decode cX6_isAbove 87 = .ok (.ifCond .eq 10, 3) := by decide +kernel
theorem dX6_isAbove_90 : decode cX6_isAbove 90 = .ok (.lload 23, 2) := by decide +kernel
theorem dX6_isAbove_92 : decode cX6_isAbove 92 = .ok (.lconst 0, 1) := by decide +kernel
theorem dX6_isAbove_93 : decode cX6_isAbove 93 = .ok (.lcmp, 1) := by decide +kernel
theorem dX6_isAbove_94 : decode cX6_isAbove 94 = .ok (.ifCond .ne 34, 3) := by decide +kernel
theorem dX6_isAbove_97 : decode cX6_isAbove 97 = .ok (.lload 21, 2) := by decide +kernel
theorem dX6_isAbove_99 : decode cX6_isAbove 99 = .ok (.lload 23, 2) := by decide +kernel
theorem dX6_isAbove_101 : decode cX6_isAbove 101 = .ok (.lcmp, 1) := by decide +kernel
theorem dX6_isAbove_102 : decode cX6_isAbove 102 = .ok (.ifCond .eq 24, 3) := by decide +kernel
theorem dX6_isAbove_105 : decode cX6_isAbove 105 = .ok (.lload 21, 2) := by decide +kernel
theorem dX6_isAbove_107 : decode cX6_isAbove 107 = .ok (.lconst 0, 1) := by decide +kernel
theorem dX6_isAbove_108 : decode cX6_isAbove 108 = .ok (.lcmp, 1) := by decide +kernel
theorem dX6_isAbove_109 : decode cX6_isAbove 109 = .ok (.ifCond .le 7, 3) := by decide +kernel
theorem dX6_isAbove_112 : decode cX6_isAbove 112 = .ok (.iconst 1, 1) := by decide +kernel
theorem dX6_isAbove_113 : decode cX6_isAbove 113 = .ok (.goto 4, 3) := by decide +kernel
theorem dX6_isAbove_116 : decode cX6_isAbove 116 = .ok (.iconst 0, 1) := by decide +kernel
theorem dX6_isAbove_117 : decode cX6_isAbove 117 = .ok (.iload 16, 2) := by decide +kernel
theorem dX6_isAbove_119 : decode cX6_isAbove 119 = .ok (.if_icmp .eq 7, 3) := by decide +kernel
theorem dX6_isAbove_122 : decode cX6_isAbove 122 = .ok (.iconst 1, 1) := by decide +kernel
theorem dX6_isAbove_123 : decode cX6_isAbove 123 = .ok (.goto 4, 3) := by decide +kernel
theorem dX6_isAbove_126 : decode cX6_isAbove 126 = .ok (.iconst 0, 1) := by decide +kernel
theorem dX6_isAbove_127 : decode cX6_isAbove 127 = .ok (.ireturn, 1) := by decide +kernel
theorem dX6_isAbove_128 : decode cX6_isAbove 128 = .ok (.lload 10, 2) := by decide +kernel
theorem dX6_isAbove_130 : decode cX6_isAbove 130 = .ok (.lstore 8, 2) := by decide +kernel
theorem dX6_isAbove_132 : decode cX6_isAbove 132 = .ok (.lload 21, 2) := by decide +kernel
theorem dX6_isAbove_134 : decode cX6_isAbove 134 = .ok (.lstore 10, 2) := by decide +kernel
theorem dX6_isAbove_136 : decode cX6_isAbove 136 = .ok (.lload 14, 2) := by decide +kernel
theorem dX6_isAbove_138 : decode cX6_isAbove 138 = .ok (.lstore 12, 2) := by decide +kernel
theorem dX6_isAbove_140 : decode cX6_isAbove 140 = .ok (.lload 23, 2) := by decide +kernel
theorem dX6_isAbove_142 : decode cX6_isAbove 142 = .ok (.lstore 14, 2) := by decide +kernel
theorem dX6_isAbove_144 : decode cX6_isAbove 144 = .ok (.iload 16, 2) := by decide +kernel
theorem dX6_isAbove_146 : decode cX6_isAbove 146 = .ok (.ifCond .ne 7, 3) := by decide +kernel
theorem dX6_isAbove_149 : decode cX6_isAbove 149 = .ok (.iconst 1, 1) := by decide +kernel
theorem dX6_isAbove_150 : decode cX6_isAbove 150 = .ok (.goto 4, 3) := by decide +kernel
theorem dX6_isAbove_153 : decode cX6_isAbove 153 = .ok (.iconst 0, 1) := by decide +kernel
theorem dX6_isAbove_154 : decode cX6_isAbove 154 = .ok (.istore 16, 2) := by decide +kernel
theorem dX6_isAbove_156 : decode cX6_isAbove 156 = .ok (.goto (-139), 3) := by decide +kernel
set_option maxRecDepth 20000 in
theorem ggX6_greatest_X6_isRow : GoodIn wsX6_greatest wsX6_isRow := goodIn_r _ [7, 8, 9, 10, 6, 11] (by decide +kernel) (by decide +kernel)
set_option maxRecDepth 20000 in
theorem gX6_greatest_X6_isRow : GoodIn wsX6_greatest (va_wsS RX6 97 yX6_isRow wsX6_isRow) := goodIn_app (goodIn_of _ (by decide +kernel)) ggX6_greatest_X6_isRow
set_option maxRecDepth 20000 in
theorem ggX6_greatest_X6_in : GoodIn wsX6_greatest wsX6_in := goodIn_r _ [11] (by decide +kernel) (by decide +kernel)
set_option maxRecDepth 20000 in
theorem gX6_greatest_X6_in : GoodIn wsX6_greatest (va_wsS RX6 52 yX6_in wsX6_in) := goodIn_app (goodIn_of _ (by decide +kernel)) ggX6_greatest_X6_in
set_option maxRecDepth 20000 in
theorem ggX6_greatest_X6_waveOf : GoodIn wsX6_greatest wsX6_waveOf := goodIn_r _ [15, 3, 16, 20, 21, 22, 23, 24, 25, 26, 27, 28, 29, 30, 31, 32, 33, 34, 35, 36, 37] (by decide +kernel) (by decide +kernel)
set_option maxRecDepth 20000 in
theorem gX6_greatest_X6_waveOf : GoodIn wsX6_greatest (wsV RX6 132 RX6 yX6_waveOf wsX6_waveOf) := goodIn_app (goodIn_of _ (by decide +kernel)) ggX6_greatest_X6_waveOf
set_option maxRecDepth 20000 in
theorem ggX6_greatest_X6_isAbove : GoodIn wsX6_greatest wsX6_isAbove := goodIn_r _ [19] (by decide +kernel) (by decide +kernel)
set_option maxRecDepth 20000 in
theorem gX6_greatest_X6_isAbove : GoodIn wsX6_greatest (va_wsS RX6 135 yX6_isAbove wsX6_isAbove) := goodIn_app (goodIn_of _ (by decide +kernel)) ggX6_greatest_X6_isAbove
theorem dX6_greatest_0 : decode cX6_greatest 0 = .ok (.iload_n 1, 1) := by decide +kernel
theorem dX6_greatest_1 : decode cX6_greatest 1 = .ok (.invokestatic 97, 3) := by decide +kernel
theorem dX6_greatest_4 : decode cX6_greatest 4 = .ok (.ifCond .eq 17, 3) := by decide +kernel
theorem dX6_greatest_7 : decode cX6_greatest 7 = .ok (.iload_n 2, 1) := by decide +kernel
theorem dX6_greatest_8 : decode cX6_greatest 8 = .ok (.i2l, 1) := by decide +kernel
theorem dX6_greatest_9 : decode cX6_greatest 9 = .ok (.ldc2_w 118, 3) := by decide +kernel
theorem dX6_greatest_12 : decode cX6_greatest 12 = .ok (.ldc2_w 130, 3) := by decide +kernel
theorem dX6_greatest_15 : decode cX6_greatest 15 = .ok (.invokestatic 52, 3) := by decide +kernel
theorem dX6_greatest_18 : decode cX6_greatest 18 = .ok (.ifCond .ne 6, 3) := by decide +kernel
theorem dX6_greatest_21 : decode cX6_greatest 21 = .ok (.bipush (-2), 2) := by decide +kernel
theorem dX6_greatest_23 : decode cX6_greatest 23 = .ok (.ireturn, 1) := by decide +kernel
theorem dX6_greatest_24 : decode cX6_greatest 24 = .ok (.iconst (-1), 1) := by decide +kernel
theorem dX6_greatest_25 : decode cX6_greatest 25 = .ok (.istore_n 3, 1) := by decide +kernel
theorem dX6_greatest_26 : decode cX6_greatest 26 = .ok (.lconst 0, 1) := by decide +kernel
theorem dX6_greatest_27 : decode cX6_greatest 27 = .ok (.lstore 4, 2) := by decide +kernel
theorem dX6_greatest_29 : decode cX6_greatest 29 = .ok (.lconst 1, 1) := by decide +kernel
theorem dX6_greatest_30 : decode cX6_greatest 30 = .ok (.lstore 6, 2) := by decide +kernel
theorem dX6_greatest_32 : decode cX6_greatest 32 = .ok (.iconst 2, 1) := by decide +kernel
theorem dX6_greatest_33 : decode cX6_greatest 33 = .ok (.istore 8, 2) := by decide +kernel
theorem dX6_greatest_35 : decode cX6_greatest 35 = .ok (.iload 8, 2) := by decide +kernel
theorem dX6_greatest_37 : decode cX6_greatest 37 = .ok (.iload_n 2, 1) := by decide +kernel
theorem dX6_greatest_38 : decode cX6_greatest 38 = .ok (.if_icmp .gt 79, 3) := by decide +kernel
theorem dX6_greatest_41 : decode cX6_greatest 41 = .ok (.iload 8, 2) := by decide +kernel
theorem dX6_greatest_43 : decode cX6_greatest 43 = .ok (.aload_n 0, 1) := by decide +kernel
theorem dX6_greatest_44 : decode cX6_greatest 44 = .ok (.getfield 35, 3) := by decide +kernel
theorem dX6_greatest_47 : decode cX6_greatest 47 = .ok (.iload_n 1, 1) := by decide +kernel
theorem dX6_greatest_48 : decode cX6_greatest 48 = .ok (.iaload, 1) := by decide +kernel
theorem dX6_greatest_49 : decode cX6_greatest 49 = .ok (.iconst 2, 1) := by decide +kernel
theorem dX6_greatest_50 : decode cX6_greatest 50 = .ok (.idiv, 1) := by decide +kernel
theorem dX6_greatest_51 : decode cX6_greatest 51 = .ok (.if_icmp .gt 66, 3) := by decide +kernel
theorem dX6_greatest_54 : decode cX6_greatest 54 = .ok (.aload_n 0, 1) := by decide +kernel
theorem dX6_greatest_55 : decode cX6_greatest 55 = .ok (.iload_n 1, 1) := by decide +kernel
theorem dX6_greatest_56 : decode cX6_greatest 56 = .ok (.iload 8, 2) := by decide +kernel
theorem dX6_greatest_58 : decode cX6_greatest 58 = .ok (.invokevirtual 132, 3) := by decide +kernel
theorem dX6_greatest_61 : decode cX6_greatest 61 = .ok (.lstore 9, 2) := by decide +kernel
theorem dX6_greatest_63 : decode cX6_greatest 63 = .ok (.aload_n 0, 1) := by decide +kernel
theorem dX6_greatest_64 : decode cX6_greatest 64 = .ok (.getfield 35, 3) := by decide +kernel
theorem dX6_greatest_67 : decode cX6_greatest 67 = .ok (.iload_n 1, 1) := by decide +kernel
theorem dX6_greatest_68 : decode cX6_greatest 68 = .ok (.iaload, 1) := by decide +kernel
theorem dX6_greatest_69 : decode cX6_greatest 69 = .ok (.iload 8, 2) := by decide +kernel
theorem dX6_greatest_71 : decode cX6_greatest 71 = .ok (.idiv, 1) := by decide +kernel
theorem dX6_greatest_72 : decode cX6_greatest 72 = .ok (.iload 8, 2) := by decide +kernel
theorem dX6_greatest_74 : decode cX6_greatest 74 = .ok (.imul, 1) := by decide +kernel
theorem dX6_greatest_75 : decode cX6_greatest 75 = .ok (.i2l, 1) := by decide +kernel
theorem dX6_greatest_76 : decode cX6_greatest 76 = .ok (.iload 8, 2) := by decide +kernel
theorem dX6_greatest_78 : decode cX6_greatest 78 = .ok (.i2l, 1) := by decide +kernel
theorem dX6_greatest_79 : decode cX6_greatest 79 = .ok (.lmul, 1) := by decide +kernel
theorem dX6_greatest_80 : decode cX6_greatest 80 = .ok (.lstore 11, 2) := by decide +kernel
theorem dX6_greatest_82 : decode cX6_greatest 82 = .ok (.iload_n 3, 1) := by decide +kernel
theorem dX6_greatest_83 : decode cX6_greatest 83 = .ok (.ifCond .lt 17, 3) := by decide +kernel
theorem dX6_greatest_86 : decode cX6_greatest 86 = .ok (.lload 9, 2) := by decide +kernel
theorem dX6_greatest_88 : decode cX6_greatest 88 = .ok (.lload 11, 2) := by decide +kernel
theorem dX6_greatest_90 : decode cX6_greatest 90 = .ok (.lload 4, 2) := by decide +kernel
theorem dX6_greatest_92 : decode cX6_greatest 92 = .ok (.lload 6, 2) := by decide +kernel
theorem dX6_greatest_94 : decode cX6_greatest 94 = .ok (.invokestatic 135, 3) := by decide +kernel
theorem dX6_greatest_97 : decode cX6_greatest 97 = .ok (.ifCond .eq 14, 3) := by decide +kernel
theorem dX6_greatest_100 : decode cX6_greatest 100 = .ok (.iload 8, 2) := by decide +kernel
theorem dX6_greatest_102 : decode cX6_greatest 102 = .ok (.istore_n 3, 1) := by decide +kernel
theorem dX6_greatest_103 : decode cX6_greatest 103 = .ok (.lload 9, 2) := by decide +kernel
theorem dX6_greatest_105 : decode cX6_greatest 105 = .ok (.lstore 4, 2) := by decide +kernel
theorem dX6_greatest_107 : decode cX6_greatest 107 = .ok (.lload 11, 2) := by decide +kernel
theorem dX6_greatest_109 : decode cX6_greatest 109 = .ok (.lstore 6, 2) := by decide +kernel
theorem dX6_greatest_111 : decode cX6_greatest 111 = .ok (.iinc 8 1, 3) := by decide +kernel
theorem dX6_greatest_114 : decode cX6_greatest 114 = .ok (.goto (-79), 3) := by decide +kernel
theorem dX6_greatest_117 : decode cX6_greatest 117 = .ok (.iload_n 3, 1) := by decide +kernel
theorem dX6_greatest_118 : decode cX6_greatest 118 = .ok (.ireturn, 1) := by decide +kernel
set_option maxRecDepth 20000 in
theorem ggX6_isLaw_X6_in : GoodIn wsX6_isLaw wsX6_in := goodIn_r _ [7] (by decide +kernel) (by decide +kernel)
set_option maxRecDepth 20000 in
theorem gX6_isLaw_X6_in : GoodIn wsX6_isLaw (va_wsS RX6 52 yX6_in wsX6_in) := goodIn_app (goodIn_of _ (by decide +kernel)) ggX6_isLaw_X6_in
theorem dX6_isLaw_0 : decode cX6_isLaw 0 = .ok (.iload_n 0, 1) := by decide +kernel
theorem dX6_isLaw_1 : decode cX6_isLaw 1 = .ok (.i2l, 1) := by decide +kernel
theorem dX6_isLaw_2 : decode cX6_isLaw 2 = .ok (.lconst 1, 1) := by decide +kernel
theorem dX6_isLaw_3 : decode cX6_isLaw 3 = .ok (.ldc2_w 71, 3) := by decide +kernel
theorem dX6_isLaw_6 : decode cX6_isLaw 6 = .ok (.invokestatic 52, 3) := by decide +kernel
theorem dX6_isLaw_9 : decode cX6_isLaw 9 = .ok (.ifCond .eq 31, 3) := by decide +kernel
theorem dX6_isLaw_12 : decode cX6_isLaw 12 = .ok (.iload_n 1, 1) := by decide +kernel
theorem dX6_isLaw_13 : decode cX6_isLaw 13 = .ok (.i2l, 1) := by decide +kernel
theorem dX6_isLaw_14 : decode cX6_isLaw 14 = .ok (.lconst 0, 1) := by decide +kernel
theorem dX6_isLaw_15 : decode cX6_isLaw 15 = .ok (.ldc2_w 104, 3) := by decide +kernel
theorem dX6_isLaw_18 : decode cX6_isLaw 18 = .ok (.invokestatic 52, 3) := by decide +kernel
theorem dX6_isLaw_21 : decode cX6_isLaw 21 = .ok (.ifCond .eq 19, 3) := by decide +kernel
theorem dX6_isLaw_24 : decode cX6_isLaw 24 = .ok (.iload_n 2, 1) := by decide +kernel
theorem dX6_isLaw_25 : decode cX6_isLaw 25 = .ok (.i2l, 1) := by decide +kernel
theorem dX6_isLaw_26 : decode cX6_isLaw 26 = .ok (.lconst 1, 1) := by decide +kernel
theorem dX6_isLaw_27 : decode cX6_isLaw 27 = .ok (.ldc2_w 139, 3) := by decide +kernel
theorem dX6_isLaw_30 : decode cX6_isLaw 30 = .ok (.invokestatic 52, 3) := by decide +kernel
theorem dX6_isLaw_33 : decode cX6_isLaw 33 = .ok (.ifCond .eq 7, 3) := by decide +kernel
theorem dX6_isLaw_36 : decode cX6_isLaw 36 = .ok (.iconst 1, 1) := by decide +kernel
theorem dX6_isLaw_37 : decode cX6_isLaw 37 = .ok (.goto 4, 3) := by decide +kernel
theorem dX6_isLaw_40 : decode cX6_isLaw 40 = .ok (.iconst 0, 1) := by decide +kernel
theorem dX6_isLaw_41 : decode cX6_isLaw 41 = .ok (.ireturn, 1) := by decide +kernel
theorem dX6_run_0 : decode cX6_run 0 = .ok (.iconst 0, 1) := by decide +kernel
theorem dX6_run_1 : decode cX6_run 1 = .ok (.istore 7, 2) := by decide +kernel
theorem dX6_run_3 : decode cX6_run 3 = .ok (.iconst 1, 1) := by decide +kernel
theorem dX6_run_4 : decode cX6_run 4 = .ok (.istore 8, 2) := by decide +kernel
theorem dX6_run_6 : decode cX6_run 6 = .ok (.iload 8, 2) := by decide +kernel
theorem dX6_run_8 : decode cX6_run 8 = .ok (.ifCond .eq 104, 3) := by decide +kernel
theorem dX6_run_11 : decode cX6_run 11 = .ok (.iload_n 2, 1) := by decide +kernel
theorem dX6_run_12 : decode cX6_run 12 = .ok (.iload 7, 2) := by decide +kernel
theorem dX6_run_14 : decode cX6_run 14 = .ok (.iadd, 1) := by decide +kernel
theorem dX6_run_15 : decode cX6_run 15 = .ok (.aload_n 0, 1) := by decide +kernel
theorem dX6_run_16 : decode cX6_run 16 = .ok (.getfield 35, 3) := by decide +kernel
theorem dX6_run_19 : decode cX6_run 19 = .ok (.iload_n 1, 1) := by decide +kernel
theorem dX6_run_20 : decode cX6_run 20 = .ok (.iaload, 1) := by decide +kernel
theorem dX6_run_21 : decode cX6_run 21 = .ok (.if_icmp .ge 91, 3) := by decide +kernel
theorem dX6_run_24 : decode cX6_run 24 = .ok (.ldc2_w 104, 3) := by decide +kernel
theorem dX6_run_27 : decode cX6_run 27 = .ok (.aload_n 0, 1) := by decide +kernel
theorem dX6_run_28 : decode cX6_run 28 = .ok (.getfield 38, 3) := by decide +kernel
theorem dX6_run_31 : decode cX6_run 31 = .ok (.sipush 400, 3) := by decide +kernel
theorem dX6_run_34 : decode cX6_run 34 = .ok (.iload_n 1, 1) := by decide +kernel
theorem dX6_run_35 : decode cX6_run 35 = .ok (.imul, 1) := by decide +kernel
theorem dX6_run_36 : decode cX6_run 36 = .ok (.iload_n 2, 1) := by decide +kernel
theorem dX6_run_37 : decode cX6_run 37 = .ok (.iadd, 1) := by decide +kernel
theorem dX6_run_38 : decode cX6_run 38 = .ok (.iload 7, 2) := by decide +kernel
theorem dX6_run_40 : decode cX6_run 40 = .ok (.iadd, 1) := by decide +kernel
theorem dX6_run_41 : decode cX6_run 41 = .ok (.iaload, 1) := by decide +kernel
theorem dX6_run_42 : decode cX6_run 42 = .ok (.i2l, 1) := by decide +kernel
theorem dX6_run_43 : decode cX6_run 43 = .ok (.lmul, 1) := by decide +kernel
theorem dX6_run_44 : decode cX6_run 44 = .ok (.lstore 9, 2) := by decide +kernel
theorem dX6_run_46 : decode cX6_run 46 = .ok (.iload 5, 2) := by decide +kernel
theorem dX6_run_48 : decode cX6_run 48 = .ok (.ifCond .ne 25, 3) := by decide +kernel
theorem dX6_run_51 : decode cX6_run 51 = .ok (.lload 9, 2) := by decide +kernel
theorem dX6_run_53 : decode cX6_run 53 = .ok (.lload_n 3, 1) := by decide +kernel
theorem dX6_run_54 : decode cX6_run 54 = .ok (.bipush 100, 2) := by decide +kernel
theorem dX6_run_56 : decode cX6_run 56 = .ok (.iload 6, 2) := by decide +kernel
theorem dX6_run_58 : decode cX6_run 58 = .ok (.iadd, 1) := by decide +kernel
theorem dX6_run_59 : decode cX6_run 59 = .ok (.i2l, 1) := by decide +kernel
theorem dX6_run_60 : decode cX6_run 60 = .ok (.lmul, 1) := by decide +kernel
theorem dX6_run_61 : decode cX6_run 61 = .ok (.lcmp, 1) := by decide +kernel
theorem dX6_run_62 : decode cX6_run 62 = .ok (.ifCond .lt 7, 3) := by decide +kernel
theorem dX6_run_65 : decode cX6_run 65 = .ok (.iconst 1, 1) := by decide +kernel
theorem dX6_run_66 : decode cX6_run 66 = .ok (.goto 26, 3) := by decide +kernel
theorem dX6_run_69 : decode cX6_run 69 = .ok (.iconst 0, 1) := by decide +kernel
theorem dX6_run_70 : decode cX6_run 70 = .ok (.goto 22, 3) := by decide +kernel
theorem dX6_run_73 : decode cX6_run 73 = .ok (.lload 9, 2) := by decide +kernel
theorem dX6_run_75 : decode cX6_run 75 = .ok (.lload_n 3, 1) := by decide +kernel
theorem dX6_run_76 : decode cX6_run 76 = .ok (.bipush 100, 2) := by decide +kernel
theorem dX6_run_78 : decode cX6_run 78 = .ok (.iload 6, 2) := by decide +kernel
theorem dX6_run_80 : decode cX6_run 80 = .ok (.isub, 1) := by decide +kernel
theorem dX6_run_81 : decode cX6_run 81 = .ok (.i2l, 1) := by decide +kernel
theorem dX6_run_82 : decode cX6_run 82 = .ok (.lmul, 1) := by decide +kernel
theorem dX6_run_83 : decode cX6_run 83 = .ok (.lcmp, 1) := by decide +kernel
theorem dX6_run_84 : decode cX6_run 84 = .ok (.ifCond .gt 7, 3) := by decide +kernel
theorem dX6_run_87 : decode cX6_run 87 = .ok (.iconst 1, 1) := by decide +kernel
theorem dX6_run_88 : decode cX6_run 88 = .ok (.goto 4, 3) := by decide +kernel
theorem dX6_run_91 : decode cX6_run 91 = .ok (.iconst 0, 1) := by decide +kernel
theorem dX6_run_92 : decode cX6_run 92 = .ok (.istore 8, 2) := by decide +kernel
theorem dX6_run_94 : decode cX6_run 94 = .ok (.iload 7, 2) := by decide +kernel
theorem dX6_run_96 : decode cX6_run 96 = .ok (.iload 8, 2) := by decide +kernel
theorem dX6_run_98 : decode cX6_run 98 = .ok (.ifCond .eq 7, 3) := by decide +kernel
theorem dX6_run_101 : decode cX6_run 101 = .ok (.iconst 1, 1) := by decide +kernel
theorem dX6_run_102 : decode cX6_run 102 = .ok (.goto 4, 3) := by decide +kernel
theorem dX6_run_105 : decode cX6_run 105 = .ok (.iconst 0, 1) := by decide +kernel
theorem dX6_run_106 : decode cX6_run 106 = .ok (.iadd, 1) := by decide +kernel
theorem dX6_run_107 : decode cX6_run 107 = .ok (.istore 7, 2) := by decide +kernel
theorem dX6_run_109 : decode cX6_run 109 = .ok (.goto (-103), 3) := by decide +kernel
theorem dX6_run_112 : decode cX6_run 112 = .ok (.iload 7, 2) := by decide +kernel
theorem dX6_run_114 : decode cX6_run 114 = .ok (.ireturn, 1) := by decide +kernel
set_option maxRecDepth 20000 in
theorem ggX6_places_X6_isRow : GoodIn wsX6_places wsX6_isRow := goodIn_r _ [5, 6, 7, 8, 4, 9] (by decide +kernel) (by decide +kernel)
set_option maxRecDepth 20000 in
theorem gX6_places_X6_isRow : GoodIn wsX6_places (va_wsS RX6 97 yX6_isRow wsX6_isRow) := goodIn_app (goodIn_of _ (by decide +kernel)) ggX6_places_X6_isRow
set_option maxRecDepth 20000 in
theorem ggX6_places_X6_isLaw : GoodIn wsX6_places wsX6_isLaw := goodIn_r _ [12, 13, 14, 15, 7, 8, 4, 9] (by decide +kernel) (by decide +kernel)
set_option maxRecDepth 20000 in
theorem gX6_places_X6_isLaw : GoodIn wsX6_places (va_wsS RX6 141 yX6_isLaw wsX6_isLaw) := goodIn_app (goodIn_of _ (by decide +kernel)) ggX6_places_X6_isLaw
set_option maxRecDepth 20000 in
theorem ggX6_places_X6_in : GoodIn wsX6_places wsX6_in := goodIn_r _ [9] (by decide +kernel) (by decide +kernel)
set_option maxRecDepth 20000 in
theorem gX6_places_X6_in : GoodIn wsX6_places (va_wsS RX6 52 yX6_in wsX6_in) := goodIn_app (goodIn_of _ (by decide +kernel)) ggX6_places_X6_in
set_option maxRecDepth 20000 in
theorem ggX6_places_X6_sum : GoodIn wsX6_places wsX6_sum := goodIn_r _ [19, 1, 20, 25, 26, 27, 28, 29, 30, 31, 32, 33, 34, 35, 36, 37, 38, 39, 40, 41, 42] (by decide +kernel) (by decide +kernel)
set_option maxRecDepth 20000 in
theorem gX6_places_X6_sum : GoodIn wsX6_places (wsV RX6 126 RX6 yX6_sum wsX6_sum) := goodIn_app (goodIn_of _ (by decide +kernel)) ggX6_places_X6_sum
set_option maxRecDepth 20000 in
theorem ggX6_places_X6_run : GoodIn wsX6_places wsX6_run := goodIn_r _ [24, 1, 14, 20, 25, 26, 27, 28, 29, 30, 31, 32, 33, 34, 35, 36, 37, 38, 39, 40, 41, 42] (by decide +kernel) (by decide +kernel)
set_option maxRecDepth 20000 in
theorem gX6_places_X6_run : GoodIn wsX6_places (wsV RX6 145 RX6 yX6_run wsX6_run) := goodIn_app (goodIn_of _ (by decide +kernel)) ggX6_places_X6_run
theorem dX6_places_0 : decode cX6_places 0 = .ok (.iload_n 1, 1) := by decide +kernel
theorem dX6_places_1 : decode cX6_places 1 = .ok (.invokestatic 97, 3) := by decide +kernel
theorem dX6_places_4 : decode cX6_places 4 = .ok (.ifCond .eq 24, 3) := by decide +kernel
theorem dX6_places_7 : decode cX6_places 7 = .ok (.iload_n 2, 1) := by decide +kernel
theorem dX6_places_8 : decode cX6_places 8 = .ok (.iload_n 3, 1) := by decide +kernel
theorem dX6_places_9 : decode cX6_places 9 = .ok (.iload 4, 2) := by decide +kernel
theorem dX6_places_11 : decode cX6_places 11 = .ok (.invokestatic 141, 3) := by decide +kernel
theorem dX6_places_14 : decode cX6_places 14 = .ok (.ifCond .eq 14, 3) := by decide +kernel
theorem dX6_places_17 : decode cX6_places 17 = .ok (.iload 5, 2) := by decide +kernel
theorem dX6_places_19 : decode cX6_places 19 = .ok (.i2l, 1) := by decide +kernel
theorem dX6_places_20 : decode cX6_places 20 = .ok (.lconst 0, 1) := by decide +kernel
theorem dX6_places_21 : decode cX6_places 21 = .ok (.lconst 1, 1) := by decide +kernel
theorem dX6_places_22 : decode cX6_places 22 = .ok (.invokestatic 52, 3) := by decide +kernel
theorem dX6_places_25 : decode cX6_places 25 = .ok (.ifCond .ne 6, 3) := by decide +kernel
theorem dX6_places_28 : decode cX6_places 28 = .ok (.bipush (-2), 2) := by decide +kernel
theorem dX6_places_30 : decode cX6_places 30 = .ok (.ireturn, 1) := by decide +kernel
theorem dX6_places_31 : decode cX6_places 31 = .ok (.aload_n 0, 1) := by decide +kernel
theorem dX6_places_32 : decode cX6_places 32 = .ok (.getfield 35, 3) := by decide +kernel
theorem dX6_places_35 : decode cX6_places 35 = .ok (.iload_n 1, 1) := by decide +kernel
theorem dX6_places_36 : decode cX6_places 36 = .ok (.iaload, 1) := by decide +kernel
theorem dX6_places_37 : decode cX6_places 37 = .ok (.ifCond .ne 7, 3) := by decide +kernel
theorem dX6_places_40 : decode cX6_places 40 = .ok (.lconst 0, 1) := by decide +kernel
theorem dX6_places_41 : decode cX6_places 41 = .ok (.goto 16, 3) := by decide +kernel
theorem dX6_places_44 : decode cX6_places 44 = .ok (.aload_n 0, 1) := by decide +kernel
theorem dX6_places_45 : decode cX6_places 45 = .ok (.iload_n 1, 1) := by decide +kernel
theorem dX6_places_46 : decode cX6_places 46 = .ok (.invokevirtual 126, 3) := by decide +kernel
theorem dX6_places_49 : decode cX6_places 49 = .ok (.aload_n 0, 1) := by decide +kernel
theorem dX6_places_50 : decode cX6_places 50 = .ok (.getfield 35, 3) := by decide +kernel
theorem dX6_places_53 : decode cX6_places 53 = .ok (.iload_n 1, 1) := by decide +kernel
theorem dX6_places_54 : decode cX6_places 54 = .ok (.iaload, 1) := by decide +kernel
theorem dX6_places_55 : decode cX6_places 55 = .ok (.i2l, 1) := by decide +kernel
theorem dX6_places_56 : decode cX6_places 56 = .ok (.ldiv, 1) := by decide +kernel
theorem dX6_places_57 : decode cX6_places 57 = .ok (.lstore 6, 2) := by decide +kernel
theorem dX6_places_59 : decode cX6_places 59 = .ok (.iconst 0, 1) := by decide +kernel
theorem dX6_places_60 : decode cX6_places 60 = .ok (.istore 8, 2) := by decide +kernel
theorem dX6_places_62 : decode cX6_places 62 = .ok (.iconst 0, 1) := by decide +kernel
theorem dX6_places_63 : decode cX6_places 63 = .ok (.istore 9, 2) := by decide +kernel
theorem dX6_places_65 : decode cX6_places 65 = .ok (.iload 9, 2) := by decide +kernel
theorem dX6_places_67 : decode cX6_places 67 = .ok (.aload_n 0, 1) := by decide +kernel
theorem dX6_places_68 : decode cX6_places 68 = .ok (.getfield 35, 3) := by decide +kernel
theorem dX6_places_71 : decode cX6_places 71 = .ok (.iload_n 1, 1) := by decide +kernel
theorem dX6_places_72 : decode cX6_places 72 = .ok (.iaload, 1) := by decide +kernel
theorem dX6_places_73 : decode cX6_places 73 = .ok (.if_icmp .ge 62, 3) := by decide +kernel
theorem dX6_places_76 : decode cX6_places 76 = .ok (.aload_n 0, 1) := by decide +kernel
theorem dX6_places_77 : decode cX6_places 77 = .ok (.iload_n 1, 1) := by decide +kernel
theorem dX6_places_78 : decode cX6_places 78 = .ok (.iload 9, 2) := by decide +kernel
theorem dX6_places_80 : decode cX6_places 80 = .ok (.lload 6, 2) := by decide +kernel
theorem dX6_places_82 : decode cX6_places 82 = .ok (.iload 5, 2) := by decide +kernel
theorem dX6_places_84 : decode cX6_places 84 = .ok (.iload 5, 2) := by decide +kernel
theorem dX6_places_86 : decode cX6_places 86 = .ok (.ifCond .ne 7, 3) := by decide +kernel
theorem dX6_places_89 : decode cX6_places 89 = .ok (.iload_n 2, 1) := by decide +kernel
theorem dX6_places_90 : decode cX6_places 90 = .ok (.goto 4, 3) := by decide +kernel
theorem dX6_places_93 : decode cX6_places 93 = .ok (.iload_n 3, 1) := by decide +kernel
theorem dX6_places_94 : decode cX6_places 94 = .ok (.invokevirtual 145, 3) := by decide +kernel
theorem dX6_places_97 : decode cX6_places 97 = .ok (.istore 10, 2) := by decide +kernel
theorem dX6_places_99 : decode cX6_places 99 = .ok (.iload 8, 2) := by decide +kernel
theorem dX6_places_101 : decode cX6_places 101 = .ok (.iload 10, 2) := by decide +kernel
theorem dX6_places_103 : decode cX6_places 103 = .ok (.iload 4, 2) := by decide +kernel
theorem dX6_places_105 : decode cX6_places 105 = .ok (.if_icmp .lt 7, 3) := by decide +kernel
theorem dX6_places_108 : decode cX6_places 108 = .ok (.iconst 1, 1) := by decide +kernel
theorem dX6_places_109 : decode cX6_places 109 = .ok (.goto 4, 3) := by decide +kernel
theorem dX6_places_112 : decode cX6_places 112 = .ok (.iconst 0, 1) := by decide +kernel
theorem dX6_places_113 : decode cX6_places 113 = .ok (.iadd, 1) := by decide +kernel
theorem dX6_places_114 : decode cX6_places 114 = .ok (.istore 8, 2) := by decide +kernel
theorem dX6_places_116 : decode cX6_places 116 = .ok (.iload 9, 2) := by decide +kernel
theorem dX6_places_118 : decode cX6_places 118 = .ok (.iload 10, 2) := by decide +kernel
theorem dX6_places_120 : decode cX6_places 120 = .ok (.ifCond .le 8, 3) := by decide +kernel
theorem dX6_places_123 : decode cX6_places 123 = .ok (.iload 10, 2) := by decide +kernel
theorem dX6_places_125 : decode cX6_places 125 = .ok (.goto 4, 3) := by decide +kernel
theorem dX6_places_128 : decode cX6_places 128 = .ok (.iconst 1, 1) := by decide +kernel
theorem dX6_places_129 : decode cX6_places 129 = .ok (.iadd, 1) := by decide +kernel
theorem dX6_places_130 : decode cX6_places 130 = .ok (.istore 9, 2) := by decide +kernel
theorem dX6_places_132 : decode cX6_places 132 = .ok (.goto (-67), 3) := by decide +kernel
theorem dX6_places_135 : decode cX6_places 135 = .ok (.iload 8, 2) := by decide +kernel
theorem dX6_places_137 : decode cX6_places 137 = .ok (.ireturn, 1) := by decide +kernel
set_option maxRecDepth 20000 in
theorem ggX6_cleared_X6_isRow : GoodIn wsX6_cleared wsX6_isRow := goodIn_r _ [7, 8, 9, 10, 6, 11] (by decide +kernel) (by decide +kernel)
set_option maxRecDepth 20000 in
theorem gX6_cleared_X6_isRow : GoodIn wsX6_cleared (va_wsS RX6 97 yX6_isRow wsX6_isRow) := goodIn_app (goodIn_of _ (by decide +kernel)) ggX6_cleared_X6_isRow
set_option maxRecDepth 20000 in
theorem ggX6_cleared_X6_isLaw : GoodIn wsX6_cleared wsX6_isLaw := goodIn_r _ [14, 15, 16, 17, 9, 10, 6, 11] (by decide +kernel) (by decide +kernel)
set_option maxRecDepth 20000 in
theorem gX6_cleared_X6_isLaw : GoodIn wsX6_cleared (va_wsS RX6 141 yX6_isLaw wsX6_isLaw) := goodIn_app (goodIn_of _ (by decide +kernel)) ggX6_cleared_X6_isLaw
set_option maxRecDepth 20000 in
theorem ggX6_cleared_X6_sum : GoodIn wsX6_cleared wsX6_sum := goodIn_r _ [21, 1, 3, 34, 35, 36, 37, 38, 39, 40, 41, 42, 43, 44, 45, 46, 47, 48, 49, 50, 51] (by decide +kernel) (by decide +kernel)
set_option maxRecDepth 20000 in
theorem gX6_cleared_X6_sum : GoodIn wsX6_cleared (wsV RX6 126 RX6 yX6_sum wsX6_sum) := goodIn_app (goodIn_of _ (by decide +kernel)) ggX6_cleared_X6_sum
set_option maxRecDepth 20000 in
theorem ggX6_cleared_X6_run : GoodIn wsX6_cleared wsX6_run := goodIn_r _ [25, 1, 16, 3, 34, 35, 36, 37, 38, 39, 40, 41, 42, 43, 44, 45, 46, 47, 48, 49, 50, 51] (by decide +kernel) (by decide +kernel)
set_option maxRecDepth 20000 in
theorem gX6_cleared_X6_run : GoodIn wsX6_cleared (wsV RX6 145 RX6 yX6_run wsX6_run) := goodIn_app (goodIn_of _ (by decide +kernel)) ggX6_cleared_X6_run
set_option maxRecDepth 20000 in
theorem ggX6_cleared_X6_becomes : GoodIn wsX6_cleared wsX6_becomes := goodIn_r _ [29, 2, 3, 1, 30, 31, 6, 32, 33, 9, 10, 11, 34, 35, 36, 37, 38, 39, 40, 41, 42, 43, 44, 45, 46, 47, 48, 49, 50, 51] (by decide +kernel) (by decide +kernel)
set_option maxRecDepth 20000 in
theorem gX6_cleared_X6_becomes : GoodIn wsX6_cleared (wsV RX6 114 RX6 yX6_becomes wsX6_becomes) := goodIn_app (goodIn_of _ (by decide +kernel)) ggX6_cleared_X6_becomes
theorem dX6_cleared_0 : decode cX6_cleared 0 = .ok (.iload_n 1, 1) := by decide +kernel
theorem dX6_cleared_1 : decode cX6_cleared 1 = .ok (.invokestatic 97, 3) := by decide +kernel
theorem dX6_cleared_4 : decode cX6_cleared 4 = .ok (.ifCond .eq 13, 3) := by decide +kernel
theorem dX6_cleared_7 : decode cX6_cleared 7 = .ok (.iload_n 2, 1) := by decide +kernel
theorem dX6_cleared_8 : decode cX6_cleared 8 = .ok (.iload_n 3, 1) := by decide +kernel
theorem dX6_cleared_9 : decode cX6_cleared 9 = .ok (.iload 4, 2) := by decide +kernel
theorem dX6_cleared_11 : decode cX6_cleared 11 = .ok (.invokestatic 141, 3) := by decide +kernel
theorem dX6_cleared_14 : decode cX6_cleared 14 = .ok (.ifCond .ne 6, 3) := by decide +kernel
theorem dX6_cleared_17 : decode cX6_cleared 17 = .ok (.bipush (-2), 2) := by decide +kernel
theorem dX6_cleared_19 : decode cX6_cleared 19 = .ok (.ireturn, 1) := by decide +kernel
theorem dX6_cleared_20 : decode cX6_cleared 20 = .ok (.aload_n 0, 1) := by decide +kernel
theorem dX6_cleared_21 : decode cX6_cleared 21 = .ok (.getfield 35, 3) := by decide +kernel
theorem dX6_cleared_24 : decode cX6_cleared 24 = .ok (.iload_n 1, 1) := by decide +kernel
theorem dX6_cleared_25 : decode cX6_cleared 25 = .ok (.iaload, 1) := by decide +kernel
theorem dX6_cleared_26 : decode cX6_cleared 26 = .ok (.ifCond .ne 7, 3) := by decide +kernel
theorem dX6_cleared_29 : decode cX6_cleared 29 = .ok (.lconst 0, 1) := by decide +kernel
theorem dX6_cleared_30 : decode cX6_cleared 30 = .ok (.goto 16, 3) := by decide +kernel
theorem dX6_cleared_33 : decode cX6_cleared 33 = .ok (.aload_n 0, 1) := by decide +kernel
theorem dX6_cleared_34 : decode cX6_cleared 34 = .ok (.iload_n 1, 1) := by decide +kernel
theorem dX6_cleared_35 : decode cX6_cleared 35 = .ok (.invokevirtual 126, 3) := by decide +kernel
theorem dX6_cleared_38 : decode cX6_cleared 38 = .ok (.aload_n 0, 1) := by decide +kernel
theorem dX6_cleared_39 : decode cX6_cleared 39 = .ok (.getfield 35, 3) := by decide +kernel
theorem dX6_cleared_42 : decode cX6_cleared 42 = .ok (.iload_n 1, 1) := by decide +kernel
theorem dX6_cleared_43 : decode cX6_cleared 43 = .ok (.iaload, 1) := by decide +kernel
theorem dX6_cleared_44 : decode cX6_cleared 44 = .ok (.i2l, 1) := by decide +kernel
theorem dX6_cleared_45 : decode cX6_cleared 45 = .ok (.ldiv, 1) := by decide +kernel
theorem dX6_cleared_46 : decode cX6_cleared 46 = .ok (.lstore 5, 2) := by decide +kernel
theorem dX6_cleared_48 : decode cX6_cleared 48 = .ok (.iconst 0, 1) := by decide +kernel
theorem dX6_cleared_49 : decode cX6_cleared 49 = .ok (.istore 7, 2) := by decide +kernel
theorem dX6_cleared_51 : decode cX6_cleared 51 = .ok (.iconst 0, 1) := by decide +kernel
theorem dX6_cleared_52 : decode cX6_cleared 52 = .ok (.istore 8, 2) := by decide +kernel
theorem dX6_cleared_54 : decode cX6_cleared 54 = .ok (.iconst 0, 1) := by decide +kernel
theorem dX6_cleared_55 : decode cX6_cleared 55 = .ok (.istore 9, 2) := by decide +kernel
theorem dX6_cleared_57 : decode cX6_cleared 57 = .ok (.iconst 0, 1) := by decide +kernel
theorem dX6_cleared_58 : decode cX6_cleared 58 = .ok (.istore 10, 2) := by decide +kernel
theorem dX6_cleared_60 : decode cX6_cleared 60 = .ok (.iload 10, 2) := by decide +kernel
theorem dX6_cleared_62 : decode cX6_cleared 62 = .ok (.aload_n 0, 1) := by decide +kernel
theorem dX6_cleared_63 : decode cX6_cleared 63 = .ok (.getfield 35, 3) := by decide +kernel
theorem dX6_cleared_66 : decode cX6_cleared 66 = .ok (.iload_n 1, 1) := by decide +kernel
theorem dX6_cleared_67 : decode cX6_cleared 67 = .ok (.iaload, 1) := by decide +kernel
theorem dX6_cleared_68 : decode cX6_cleared 68 = .ok (.if_icmp .ge 113, 3) := by decide +kernel
theorem dX6_cleared_71 : decode cX6_cleared 71 = .ok (.aload_n 0, 1) := by decide +kernel
theorem dX6_cleared_72 : decode cX6_cleared 72 = .ok (.iload_n 1, 1) := by decide +kernel
theorem dX6_cleared_73 : decode cX6_cleared 73 = .ok (.iload 10, 2) := by decide +kernel
theorem dX6_cleared_75 : decode cX6_cleared 75 = .ok (.lload 5, 2) := by decide +kernel
theorem dX6_cleared_77 : decode cX6_cleared 77 = .ok (.iconst 0, 1) := by decide +kernel
theorem dX6_cleared_78 : decode cX6_cleared 78 = .ok (.iload_n 2, 1) := by decide +kernel
theorem dX6_cleared_79 : decode cX6_cleared 79 = .ok (.invokevirtual 145, 3) := by decide +kernel
theorem dX6_cleared_82 : decode cX6_cleared 82 = .ok (.istore 11, 2) := by decide +kernel
theorem dX6_cleared_84 : decode cX6_cleared 84 = .ok (.iload 11, 2) := by decide +kernel
theorem dX6_cleared_86 : decode cX6_cleared 86 = .ok (.iload 4, 2) := by decide +kernel
theorem dX6_cleared_88 : decode cX6_cleared 88 = .ok (.if_icmp .lt 8, 3) := by decide +kernel
theorem dX6_cleared_91 : decode cX6_cleared 91 = .ok (.iload 11, 2) := by decide +kernel
theorem dX6_cleared_93 : decode cX6_cleared 93 = .ok (.goto 14, 3) := by decide +kernel
theorem dX6_cleared_96 : decode cX6_cleared 96 = .ok (.aload_n 0, 1) := by decide +kernel
theorem dX6_cleared_97 : decode cX6_cleared 97 = .ok (.iload_n 1, 1) := by decide +kernel
theorem dX6_cleared_98 : decode cX6_cleared 98 = .ok (.iload 10, 2) := by decide +kernel
theorem dX6_cleared_100 : decode cX6_cleared 100 = .ok (.lload 5, 2) := by decide +kernel
theorem dX6_cleared_102 : decode cX6_cleared 102 = .ok (.iconst 1, 1) := by decide +kernel
theorem dX6_cleared_103 : decode cX6_cleared 103 = .ok (.iload_n 3, 1) := by decide +kernel
theorem dX6_cleared_104 : decode cX6_cleared 104 = .ok (.invokevirtual 145, 3) := by decide +kernel
theorem dX6_cleared_107 : decode cX6_cleared 107 = .ok (.istore 11, 2) := by decide +kernel
theorem dX6_cleared_109 : decode cX6_cleared 109 = .ok (.iload 11, 2) := by decide +kernel
theorem dX6_cleared_111 : decode cX6_cleared 111 = .ok (.iload 4, 2) := by decide +kernel
theorem dX6_cleared_113 : decode cX6_cleared 113 = .ok (.if_icmp .lt 16, 3) := by decide +kernel
theorem dX6_cleared_116 : decode cX6_cleared 116 = .ok (.iconst 1, 1) := by decide +kernel
theorem dX6_cleared_117 : decode cX6_cleared 117 = .ok (.istore 9, 2) := by decide +kernel
theorem dX6_cleared_119 : decode cX6_cleared 119 = .ok (.iload 10, 2) := by decide +kernel
theorem dX6_cleared_121 : decode cX6_cleared 121 = .ok (.iload 11, 2) := by decide +kernel
theorem dX6_cleared_123 : decode cX6_cleared 123 = .ok (.iadd, 1) := by decide +kernel
theorem dX6_cleared_124 : decode cX6_cleared 124 = .ok (.istore 10, 2) := by decide +kernel
theorem dX6_cleared_126 : decode cX6_cleared 126 = .ok (.goto 52, 3) := by decide +kernel
theorem dX6_cleared_129 : decode cX6_cleared 129 = .ok (.iload 8, 2) := by decide +kernel
theorem dX6_cleared_131 : decode cX6_cleared 131 = .ok (.iload 9, 2) := by decide +kernel
theorem dX6_cleared_133 : decode cX6_cleared 133 = .ok (.ifCond .eq 12, 3) := by decide +kernel
theorem dX6_cleared_136 : decode cX6_cleared 136 = .ok (.iload 7, 2) := by decide +kernel
theorem dX6_cleared_138 : decode cX6_cleared 138 = .ok (.ifCond .le 7, 3) := by decide +kernel
theorem dX6_cleared_141 : decode cX6_cleared 141 = .ok (.iconst 1, 1) := by decide +kernel
theorem dX6_cleared_142 : decode cX6_cleared 142 = .ok (.goto 4, 3) := by decide +kernel
theorem dX6_cleared_145 : decode cX6_cleared 145 = .ok (.iconst 0, 1) := by decide +kernel
theorem dX6_cleared_146 : decode cX6_cleared 146 = .ok (.iadd, 1) := by decide +kernel
theorem dX6_cleared_147 : decode cX6_cleared 147 = .ok (.istore 8, 2) := by decide +kernel
theorem dX6_cleared_149 : decode cX6_cleared 149 = .ok (.iconst 0, 1) := by decide +kernel
theorem dX6_cleared_150 : decode cX6_cleared 150 = .ok (.istore 9, 2) := by decide +kernel
theorem dX6_cleared_152 : decode cX6_cleared 152 = .ok (.aload_n 0, 1) := by decide +kernel
theorem dX6_cleared_153 : decode cX6_cleared 153 = .ok (.getfield 41, 3) := by decide +kernel
theorem dX6_cleared_156 : decode cX6_cleared 156 = .ok (.iload 7, 2) := by decide +kernel
theorem dX6_cleared_158 : decode cX6_cleared 158 = .ok (.aload_n 0, 1) := by decide +kernel
theorem dX6_cleared_159 : decode cX6_cleared 159 = .ok (.getfield 38, 3) := by decide +kernel
theorem dX6_cleared_162 : decode cX6_cleared 162 = .ok (.sipush 400, 3) := by decide +kernel
theorem dX6_cleared_165 : decode cX6_cleared 165 = .ok (.iload_n 1, 1) := by decide +kernel
theorem dX6_cleared_166 : decode cX6_cleared 166 = .ok (.imul, 1) := by decide +kernel
theorem dX6_cleared_167 : decode cX6_cleared 167 = .ok (.iload 10, 2) := by decide +kernel
theorem dX6_cleared_169 : decode cX6_cleared 169 = .ok (.iadd, 1) := by decide +kernel
theorem dX6_cleared_170 : decode cX6_cleared 170 = .ok (.iaload, 1) := by decide +kernel
theorem dX6_cleared_171 : decode cX6_cleared 171 = .ok (.iastore, 1) := by decide +kernel
theorem dX6_cleared_172 : decode cX6_cleared 172 = .ok (.iinc 7 1, 3) := by decide +kernel
theorem dX6_cleared_175 : decode cX6_cleared 175 = .ok (.iinc 10 1, 3) := by decide +kernel
theorem dX6_cleared_178 : decode cX6_cleared 178 = .ok (.goto (-118), 3) := by decide +kernel
theorem dX6_cleared_181 : decode cX6_cleared 181 = .ok (.aload_n 0, 1) := by decide +kernel
theorem dX6_cleared_182 : decode cX6_cleared 182 = .ok (.iload_n 1, 1) := by decide +kernel
theorem dX6_cleared_183 : decode cX6_cleared 183 = .ok (.iload 7, 2) := by decide +kernel
theorem dX6_cleared_185 : decode cX6_cleared 185 = .ok (.invokevirtual 114, 3) := by decide +kernel
theorem dX6_cleared_188 : decode cX6_cleared 188 = .ok (.istore 11, 2) := by decide +kernel
theorem dX6_cleared_190 : decode cX6_cleared 190 = .ok (.iload 8, 2) := by decide +kernel
theorem dX6_cleared_192 : decode cX6_cleared 192 = .ok (.ireturn, 1) := by decide +kernel
set_option maxRecDepth 20000 in
theorem ggX6_bale_X6_in : GoodIn wsX6_bale wsX6_in := goodIn_r _ [8] (by decide +kernel) (by decide +kernel)
set_option maxRecDepth 20000 in
theorem gX6_bale_X6_in : GoodIn wsX6_bale (va_wsS RX6 52 yX6_in wsX6_in) := goodIn_app (goodIn_of _ (by decide +kernel)) ggX6_bale_X6_in
theorem dX6_bale_0 : decode cX6_bale 0 = .ok (.iload_n 1, 1) := by decide +kernel
theorem dX6_bale_1 : decode cX6_bale 1 = .ok (.i2l, 1) := by decide +kernel
theorem dX6_bale_2 : decode cX6_bale 2 = .ok (.lconst 0, 1) := by decide +kernel
theorem dX6_bale_3 : decode cX6_bale 3 = .ok (.ldc2_w 50, 3) := by decide +kernel
theorem dX6_bale_6 : decode cX6_bale 6 = .ok (.invokestatic 52, 3) := by decide +kernel
theorem dX6_bale_9 : decode cX6_bale 9 = .ok (.ifCond .ne 6, 3) := by decide +kernel
theorem dX6_bale_12 : decode cX6_bale 12 = .ok (.bipush (-2), 2) := by decide +kernel
theorem dX6_bale_14 : decode cX6_bale 14 = .ok (.ireturn, 1) := by decide +kernel
theorem dX6_bale_15 : decode cX6_bale 15 = .ok (.aload_n 0, 1) := by decide +kernel
theorem dX6_bale_16 : decode cX6_bale 16 = .ok (.getfield 149, 3) := by decide +kernel
theorem dX6_bale_19 : decode cX6_bale 19 = .ok (.bipush 12, 2) := by decide +kernel
theorem dX6_bale_21 : decode cX6_bale 21 = .ok (.if_icmp .ne 6, 3) := by decide +kernel
theorem dX6_bale_24 : decode cX6_bale 24 = .ok (.bipush (-4), 2) := by decide +kernel
theorem dX6_bale_26 : decode cX6_bale 26 = .ok (.ireturn, 1) := by decide +kernel
theorem dX6_bale_27 : decode cX6_bale 27 = .ok (.aload_n 0, 1) := by decide +kernel
theorem dX6_bale_28 : decode cX6_bale 28 = .ok (.getfield 44, 3) := by decide +kernel
theorem dX6_bale_31 : decode cX6_bale 31 = .ok (.aload_n 0, 1) := by decide +kernel
theorem dX6_bale_32 : decode cX6_bale 32 = .ok (.getfield 149, 3) := by decide +kernel
theorem dX6_bale_35 : decode cX6_bale 35 = .ok (.iload_n 1, 1) := by decide +kernel
theorem dX6_bale_36 : decode cX6_bale 36 = .ok (.iastore, 1) := by decide +kernel
theorem dX6_bale_37 : decode cX6_bale 37 = .ok (.aload_n 0, 1) := by decide +kernel
theorem dX6_bale_38 : decode cX6_bale 38 = .ok (.dup, 1) := by decide +kernel
theorem dX6_bale_39 : decode cX6_bale 39 = .ok (.getfield 149, 3) := by decide +kernel
theorem dX6_bale_42 : decode cX6_bale 42 = .ok (.iconst 1, 1) := by decide +kernel
theorem dX6_bale_43 : decode cX6_bale 43 = .ok (.iadd, 1) := by decide +kernel
theorem dX6_bale_44 : decode cX6_bale 44 = .ok (.putfield 149, 3) := by decide +kernel
theorem dX6_bale_47 : decode cX6_bale 47 = .ok (.aload_n 0, 1) := by decide +kernel
theorem dX6_bale_48 : decode cX6_bale 48 = .ok (.iconst 0, 1) := by decide +kernel
theorem dX6_bale_49 : decode cX6_bale 49 = .ok (.putfield 152, 3) := by decide +kernel
theorem dX6_bale_52 : decode cX6_bale 52 = .ok (.aload_n 0, 1) := by decide +kernel
theorem dX6_bale_53 : decode cX6_bale 53 = .ok (.getfield 149, 3) := by decide +kernel
theorem dX6_bale_56 : decode cX6_bale 56 = .ok (.iconst 1, 1) := by decide +kernel
theorem dX6_bale_57 : decode cX6_bale 57 = .ok (.isub, 1) := by decide +kernel
theorem dX6_bale_58 : decode cX6_bale 58 = .ok (.ireturn, 1) := by decide +kernel
theorem dX6_clearBales_0 : decode cX6_clearBales 0 = .ok (.aload_n 0, 1) := by decide +kernel
theorem dX6_clearBales_1 : decode cX6_clearBales 1 = .ok (.getfield 149, 3) := by decide +kernel
theorem dX6_clearBales_4 : decode cX6_clearBales 4 = .ok (.istore_n 1, 1) := by decide +kernel
theorem dX6_clearBales_5 : decode cX6_clearBales 5 = .ok (.aload_n 0, 1) := by decide +kernel
theorem dX6_clearBales_6 : decode cX6_clearBales 6 = .ok (.iconst 0, 1) := by decide +kernel
theorem dX6_clearBales_7 : decode cX6_clearBales 7 = .ok (.putfield 149, 3) := by decide +kernel
theorem dX6_clearBales_10 : decode cX6_clearBales 10 = .ok (.aload_n 0, 1) := by decide +kernel
theorem dX6_clearBales_11 : decode cX6_clearBales 11 = .ok (.iconst 0, 1) := by decide +kernel
theorem dX6_clearBales_12 : decode cX6_clearBales 12 = .ok (.putfield 152, 3) := by decide +kernel
theorem dX6_clearBales_15 : decode cX6_clearBales 15 = .ok (.iload_n 1, 1) := by decide +kernel
theorem dX6_clearBales_16 : decode cX6_clearBales 16 = .ok (.ireturn, 1) := by decide +kernel
theorem dX6_nextBale_0 : decode cX6_nextBale 0 = .ok (.iload_n 1, 1) := by decide +kernel
theorem dX6_nextBale_1 : decode cX6_nextBale 1 = .ok (.istore_n 3, 1) := by decide +kernel
theorem dX6_nextBale_2 : decode cX6_nextBale 2 = .ok (.iconst 1, 1) := by decide +kernel
theorem dX6_nextBale_3 : decode cX6_nextBale 3 = .ok (.istore 4, 2) := by decide +kernel
theorem dX6_nextBale_5 : decode cX6_nextBale 5 = .ok (.iload 4, 2) := by decide +kernel
theorem dX6_nextBale_7 : decode cX6_nextBale 7 = .ok (.ifCond .eq 68, 3) := by decide +kernel
theorem dX6_nextBale_10 : decode cX6_nextBale 10 = .ok (.iload_n 3, 1) := by decide +kernel
theorem dX6_nextBale_11 : decode cX6_nextBale 11 = .ok (.aload_n 0, 1) := by decide +kernel
theorem dX6_nextBale_12 : decode cX6_nextBale 12 = .ok (.getfield 149, 3) := by decide +kernel
theorem dX6_nextBale_15 : decode cX6_nextBale 15 = .ok (.if_icmp .ge 60, 3) := by decide +kernel
theorem dX6_nextBale_18 : decode cX6_nextBale 18 = .ok (.iconst 0, 1) := by decide +kernel
theorem dX6_nextBale_19 : decode cX6_nextBale 19 = .ok (.istore 4, 2) := by decide +kernel
theorem dX6_nextBale_21 : decode cX6_nextBale 21 = .ok (.iconst 0, 1) := by decide +kernel
theorem dX6_nextBale_22 : decode cX6_nextBale 22 = .ok (.istore 5, 2) := by decide +kernel
theorem dX6_nextBale_24 : decode cX6_nextBale 24 = .ok (.iload 5, 2) := by decide +kernel
theorem dX6_nextBale_26 : decode cX6_nextBale 26 = .ok (.iload_n 2, 1) := by decide +kernel
theorem dX6_nextBale_27 : decode cX6_nextBale 27 = .ok (.if_icmp .ge 32, 3) := by decide +kernel
theorem dX6_nextBale_30 : decode cX6_nextBale 30 = .ok (.iload 4, 2) := by decide +kernel
theorem dX6_nextBale_32 : decode cX6_nextBale 32 = .ok (.ifCond .ne 14, 3) := by decide +kernel
theorem dX6_nextBale_35 : decode cX6_nextBale 35 = .ok (.aload_n 0, 1) := by decide +kernel
theorem dX6_nextBale_36 : decode cX6_nextBale 36 = .ok (.getfield 47, 3) := by decide +kernel
theorem dX6_nextBale_39 : decode cX6_nextBale 39 = .ok (.iload 5, 2) := by decide +kernel
theorem dX6_nextBale_41 : decode cX6_nextBale 41 = .ok (.iaload, 1) := by decide +kernel
theorem dX6_nextBale_42 : decode cX6_nextBale 42 = .ok (.iload_n 3, 1) := by decide +kernel
theorem dX6_nextBale_43 : decode cX6_nextBale 43 = .ok (.if_icmp .ne 7, 3) := by decide +kernel
theorem dX6_nextBale_46 : decode cX6_nextBale 46 = .ok (.iconst 1, 1) := by decide +kernel
theorem dX6_nextBale_47 : decode cX6_nextBale 47 = .ok (.goto 4, 3) := by decide +kernel
theorem dX6_nextBale_50 : decode cX6_nextBale 50 = .ok (.iconst 0, 1) := by decide +kernel
theorem dX6_nextBale_51 : decode cX6_nextBale 51 = .ok (.istore 4, 2) := by decide +kernel
theorem dX6_nextBale_53 : decode cX6_nextBale 53 = .ok (.iinc 5 1, 3) := by decide +kernel
theorem dX6_nextBale_56 : decode cX6_nextBale 56 = .ok (.goto (-32), 3) := by decide +kernel
theorem dX6_nextBale_59 : decode cX6_nextBale 59 = .ok (.iload_n 3, 1) := by decide +kernel
theorem dX6_nextBale_60 : decode cX6_nextBale 60 = .ok (.iload 4, 2) := by decide +kernel
theorem dX6_nextBale_62 : decode cX6_nextBale 62 = .ok (.ifCond .eq 7, 3) := by decide +kernel
theorem dX6_nextBale_65 : decode cX6_nextBale 65 = .ok (.iconst 1, 1) := by decide +kernel
theorem dX6_nextBale_66 : decode cX6_nextBale 66 = .ok (.goto 4, 3) := by decide +kernel
theorem dX6_nextBale_69 : decode cX6_nextBale 69 = .ok (.iconst 0, 1) := by decide +kernel
theorem dX6_nextBale_70 : decode cX6_nextBale 70 = .ok (.iadd, 1) := by decide +kernel
theorem dX6_nextBale_71 : decode cX6_nextBale 71 = .ok (.istore_n 3, 1) := by decide +kernel
theorem dX6_nextBale_72 : decode cX6_nextBale 72 = .ok (.goto (-67), 3) := by decide +kernel
theorem dX6_nextBale_75 : decode cX6_nextBale 75 = .ok (.iload_n 3, 1) := by decide +kernel
theorem dX6_nextBale_76 : decode cX6_nextBale 76 = .ok (.ireturn, 1) := by decide +kernel
set_option maxRecDepth 20000 in
theorem ggX6_isWhole_X6_in : GoodIn wsX6_isWhole wsX6_in := goodIn_r _ [6] (by decide +kernel) (by decide +kernel)
set_option maxRecDepth 20000 in
theorem gX6_isWhole_X6_in : GoodIn wsX6_isWhole (va_wsS RX6 52 yX6_in wsX6_in) := goodIn_app (goodIn_of _ (by decide +kernel)) ggX6_isWhole_X6_in
theorem dX6_isWhole_0 : decode cX6_isWhole 0 = .ok (.iconst 0, 1) := by decide +kernel
theorem dX6_isWhole_1 : decode cX6_isWhole 1 = .ok (.istore 5, 2) := by decide +kernel
theorem dX6_isWhole_3 : decode cX6_isWhole 3 = .ok (.iload_n 1, 1) := by decide +kernel
theorem dX6_isWhole_4 : decode cX6_isWhole 4 = .ok (.iload_n 2, 1) := by decide +kernel
theorem dX6_isWhole_5 : decode cX6_isWhole 5 = .ok (.isub, 1) := by decide +kernel
theorem dX6_isWhole_6 : decode cX6_isWhole 6 = .ok (.iconst 1, 1) := by decide +kernel
theorem dX6_isWhole_7 : decode cX6_isWhole 7 = .ok (.iadd, 1) := by decide +kernel
theorem dX6_isWhole_8 : decode cX6_isWhole 8 = .ok (.istore 6, 2) := by decide +kernel
theorem dX6_isWhole_10 : decode cX6_isWhole 10 = .ok (.iload 6, 2) := by decide +kernel
theorem dX6_isWhole_12 : decode cX6_isWhole 12 = .ok (.iload_n 1, 1) := by decide +kernel
theorem dX6_isWhole_13 : decode cX6_isWhole 13 = .ok (.if_icmp .gt 26, 3) := by decide +kernel
theorem dX6_isWhole_16 : decode cX6_isWhole 16 = .ok (.iload 5, 2) := by decide +kernel
theorem dX6_isWhole_18 : decode cX6_isWhole 18 = .ok (.aload_n 0, 1) := by decide +kernel
theorem dX6_isWhole_19 : decode cX6_isWhole 19 = .ok (.getfield 44, 3) := by decide +kernel
theorem dX6_isWhole_22 : decode cX6_isWhole 22 = .ok (.aload_n 0, 1) := by decide +kernel
theorem dX6_isWhole_23 : decode cX6_isWhole 23 = .ok (.getfield 47, 3) := by decide +kernel
theorem dX6_isWhole_26 : decode cX6_isWhole 26 = .ok (.iload 6, 2) := by decide +kernel
theorem dX6_isWhole_28 : decode cX6_isWhole 28 = .ok (.iaload, 1) := by decide +kernel
theorem dX6_isWhole_29 : decode cX6_isWhole 29 = .ok (.iaload, 1) := by decide +kernel
theorem dX6_isWhole_30 : decode cX6_isWhole 30 = .ok (.iadd, 1) := by decide +kernel
theorem dX6_isWhole_31 : decode cX6_isWhole 31 = .ok (.istore 5, 2) := by decide +kernel
theorem dX6_isWhole_33 : decode cX6_isWhole 33 = .ok (.iinc 6 1, 3) := by decide +kernel
theorem dX6_isWhole_36 : decode cX6_isWhole 36 = .ok (.goto (-26), 3) := by decide +kernel
theorem dX6_isWhole_39 : decode cX6_isWhole 39 = .ok (.iload 5, 2) := by decide +kernel
theorem dX6_isWhole_41 : decode cX6_isWhole 41 = .ok (.i2l, 1) := by decide +kernel
theorem dX6_isWhole_42 : decode cX6_isWhole 42 = .ok (.iload_n 2, 1) := by decide +kernel
theorem dX6_isWhole_43 : decode cX6_isWhole 43 = .ok (.iload_n 3, 1) := by decide +kernel
theorem dX6_isWhole_44 : decode cX6_isWhole 44 = .ok (.imul, 1) := by decide +kernel
theorem dX6_isWhole_45 : decode cX6_isWhole 45 = .ok (.i2l, 1) := by decide +kernel
theorem dX6_isWhole_46 : decode cX6_isWhole 46 = .ok (.iload_n 2, 1) := by decide +kernel
theorem dX6_isWhole_47 : decode cX6_isWhole 47 = .ok (.iload 4, 2) := by decide +kernel
theorem dX6_isWhole_49 : decode cX6_isWhole 49 = .ok (.imul, 1) := by decide +kernel
theorem dX6_isWhole_50 : decode cX6_isWhole 50 = .ok (.i2l, 1) := by decide +kernel
theorem dX6_isWhole_51 : decode cX6_isWhole 51 = .ok (.invokestatic 52, 3) := by decide +kernel
theorem dX6_isWhole_54 : decode cX6_isWhole 54 = .ok (.ireturn, 1) := by decide +kernel
set_option maxRecDepth 20000 in
theorem ggX6_plan_X6_in : GoodIn wsX6_plan wsX6_in := goodIn_r _ [12] (by decide +kernel) (by decide +kernel)
set_option maxRecDepth 20000 in
theorem gX6_plan_X6_in : GoodIn wsX6_plan (va_wsS RX6 52 yX6_in wsX6_in) := goodIn_app (goodIn_of _ (by decide +kernel)) ggX6_plan_X6_in
set_option maxRecDepth 20000 in
theorem ggX6_plan_X6_nextBale : GoodIn wsX6_plan wsX6_nextBale := goodIn_r _ [16, 4, 7, 22, 23, 24, 25, 26, 27, 28, 29, 30, 31, 32, 33, 34, 35, 36, 37, 38, 39] (by decide +kernel) (by decide +kernel)
set_option maxRecDepth 20000 in
theorem gX6_plan_X6_nextBale : GoodIn wsX6_plan (wsV RX6 163 RX6 yX6_nextBale wsX6_nextBale) := goodIn_app (goodIn_of _ (by decide +kernel)) ggX6_plan_X6_nextBale
set_option maxRecDepth 20000 in
theorem ggX6_plan_X6_isWhole : GoodIn wsX6_plan wsX6_isWhole := goodIn_r _ [20, 21, 7, 9, 10, 11, 12, 22, 23, 24, 25, 26, 27, 28, 29, 30, 31, 32, 33, 34, 35, 36, 37, 38, 39] (by decide +kernel) (by decide +kernel)
set_option maxRecDepth 20000 in
theorem gX6_plan_X6_isWhole : GoodIn wsX6_plan (wsV RX6 167 RX6 yX6_isWhole wsX6_isWhole) := goodIn_app (goodIn_of _ (by decide +kernel)) ggX6_plan_X6_isWhole
theorem dX6_plan_0 : decode cX6_plan 0 = .ok (.iload_n 1, 1) := by decide +kernel
theorem dX6_plan_1 : decode cX6_plan 1 = .ok (.i2l, 1) := by decide +kernel
theorem dX6_plan_2 : decode cX6_plan 2 = .ok (.lconst 1, 1) := by decide +kernel
theorem dX6_plan_3 : decode cX6_plan 3 = .ok (.ldc2_w 155, 3) := by decide +kernel
theorem dX6_plan_6 : decode cX6_plan 6 = .ok (.invokestatic 52, 3) := by decide +kernel
theorem dX6_plan_9 : decode cX6_plan 9 = .ok (.ifCond .eq 28, 3) := by decide +kernel
theorem dX6_plan_12 : decode cX6_plan 12 = .ok (.iload_n 2, 1) := by decide +kernel
theorem dX6_plan_13 : decode cX6_plan 13 = .ok (.i2l, 1) := by decide +kernel
theorem dX6_plan_14 : decode cX6_plan 14 = .ok (.lconst 0, 1) := by decide +kernel
theorem dX6_plan_15 : decode cX6_plan 15 = .ok (.ldc2_w 50, 3) := by decide +kernel
theorem dX6_plan_18 : decode cX6_plan 18 = .ok (.invokestatic 52, 3) := by decide +kernel
theorem dX6_plan_21 : decode cX6_plan 21 = .ok (.ifCond .eq 16, 3) := by decide +kernel
theorem dX6_plan_24 : decode cX6_plan 24 = .ok (.iload_n 3, 1) := by decide +kernel
theorem dX6_plan_25 : decode cX6_plan 25 = .ok (.i2l, 1) := by decide +kernel
theorem dX6_plan_26 : decode cX6_plan 26 = .ok (.iload_n 2, 1) := by decide +kernel
theorem dX6_plan_27 : decode cX6_plan 27 = .ok (.i2l, 1) := by decide +kernel
theorem dX6_plan_28 : decode cX6_plan 28 = .ok (.ldc2_w 50, 3) := by decide +kernel
theorem dX6_plan_31 : decode cX6_plan 31 = .ok (.invokestatic 52, 3) := by decide +kernel
theorem dX6_plan_34 : decode cX6_plan 34 = .ok (.ifCond .ne 6, 3) := by decide +kernel
theorem dX6_plan_37 : decode cX6_plan 37 = .ok (.bipush (-2), 2) := by decide +kernel
theorem dX6_plan_39 : decode cX6_plan 39 = .ok (.ireturn, 1) := by decide +kernel
theorem dX6_plan_40 : decode cX6_plan 40 = .ok (.aload_n 0, 1) := by decide +kernel
theorem dX6_plan_41 : decode cX6_plan 41 = .ok (.iconst 0, 1) := by decide +kernel
theorem dX6_plan_42 : decode cX6_plan 42 = .ok (.putfield 152, 3) := by decide +kernel
theorem dX6_plan_45 : decode cX6_plan 45 = .ok (.aload_n 0, 1) := by decide +kernel
theorem dX6_plan_46 : decode cX6_plan 46 = .ok (.getfield 149, 3) := by decide +kernel
theorem dX6_plan_49 : decode cX6_plan 49 = .ok (.iload_n 1, 1) := by decide +kernel
theorem dX6_plan_50 : decode cX6_plan 50 = .ok (.irem, 1) := by decide +kernel
theorem dX6_plan_51 : decode cX6_plan 51 = .ok (.ifCond .eq 6, 3) := by decide +kernel
theorem dX6_plan_54 : decode cX6_plan 54 = .ok (.bipush (-3), 2) := by decide +kernel
theorem dX6_plan_56 : decode cX6_plan 56 = .ok (.ireturn, 1) := by decide +kernel
theorem dX6_plan_57 : decode cX6_plan 57 = .ok (.aload_n 0, 1) := by decide +kernel
theorem dX6_plan_58 : decode cX6_plan 58 = .ok (.iconst 0, 1) := by decide +kernel
theorem dX6_plan_59 : decode cX6_plan 59 = .ok (.putfield 157, 3) := by decide +kernel
theorem dX6_plan_62 : decode cX6_plan 62 = .ok (.aload_n 0, 1) := by decide +kernel
theorem dX6_plan_63 : decode cX6_plan 63 = .ok (.iload_n 1, 1) := by decide +kernel
theorem dX6_plan_64 : decode cX6_plan 64 = .ok (.putfield 160, 3) := by decide +kernel
theorem dX6_plan_67 : decode cX6_plan 67 = .ok (.iconst 0, 1) := by decide +kernel
theorem dX6_plan_68 : decode cX6_plan 68 = .ok (.istore 4, 2) := by decide +kernel
theorem dX6_plan_70 : decode cX6_plan 70 = .ok (.iconst 0, 1) := by decide +kernel
theorem dX6_plan_71 : decode cX6_plan 71 = .ok (.istore 5, 2) := by decide +kernel
theorem dX6_plan_73 : decode cX6_plan 73 = .ok (.iload 4, 2) := by decide +kernel
theorem dX6_plan_75 : decode cX6_plan 75 = .ok (.ifCond .lt 221, 3) := by decide +kernel
theorem dX6_plan_78 : decode cX6_plan 78 = .ok (.iload 4, 2) := by decide +kernel
theorem dX6_plan_80 : decode cX6_plan 80 = .ok (.aload_n 0, 1) := by decide +kernel
theorem dX6_plan_81 : decode cX6_plan 81 = .ok (.getfield 149, 3) := by decide +kernel
theorem dX6_plan_84 : decode cX6_plan 84 = .ok (.if_icmp .ge 212, 3) := by decide +kernel
theorem dX6_plan_87 : decode cX6_plan 87 = .ok (.iload 4, 2) := by decide +kernel
theorem dX6_plan_89 : decode cX6_plan 89 = .ok (.iload_n 1, 1) := by decide +kernel
theorem dX6_plan_90 : decode cX6_plan 90 = .ok (.irem, 1) := by decide +kernel
theorem dX6_plan_91 : decode cX6_plan 91 = .ok (.ifCond .ne 7, 3) := by decide +kernel
theorem dX6_plan_94 : decode cX6_plan 94 = .ok (.iconst 1, 1) := by decide +kernel
theorem dX6_plan_95 : decode cX6_plan 95 = .ok (.goto 4, 3) := by decide +kernel
theorem dX6_plan_98 : decode cX6_plan 98 = .ok (.iconst 0, 1) := by decide +kernel
theorem dX6_plan_99 : decode cX6_plan 99 = .ok (.istore 6, 2) := by decide +kernel
theorem dX6_plan_101 : decode cX6_plan 101 = .ok (.iload 6, 2) := by decide +kernel
theorem dX6_plan_103 : decode cX6_plan 103 = .ok (.ifCond .eq 15, 3) := by decide +kernel
theorem dX6_plan_106 : decode cX6_plan 106 = .ok (.iload 5, 2) := by decide +kernel
theorem dX6_plan_108 : decode cX6_plan 108 = .ok (.ifCond .le 10, 3) := by decide +kernel
theorem dX6_plan_111 : decode cX6_plan 111 = .ok (.aload_n 0, 1) := by decide +kernel
theorem dX6_plan_112 : decode cX6_plan 112 = .ok (.getfield 149, 3) := by decide +kernel
theorem dX6_plan_115 : decode cX6_plan 115 = .ok (.goto 20, 3) := by decide +kernel
theorem dX6_plan_118 : decode cX6_plan 118 = .ok (.aload_n 0, 1) := by decide +kernel
theorem dX6_plan_119 : decode cX6_plan 119 = .ok (.iload 6, 2) := by decide +kernel
theorem dX6_plan_121 : decode cX6_plan 121 = .ok (.ifCond .eq 7, 3) := by decide +kernel
theorem dX6_plan_124 : decode cX6_plan 124 = .ok (.iconst 0, 1) := by decide +kernel
theorem dX6_plan_125 : decode cX6_plan 125 = .ok (.goto 5, 3) := by decide +kernel
theorem dX6_plan_128 : decode cX6_plan 128 = .ok (.iload 5, 2) := by decide +kernel
theorem dX6_plan_130 : decode cX6_plan 130 = .ok (.iload 4, 2) := by decide +kernel
theorem dX6_plan_132 : decode cX6_plan 132 = .ok (.invokevirtual 163, 3) := by decide +kernel
theorem dX6_plan_135 : decode cX6_plan 135 = .ok (.istore 7, 2) := by decide +kernel
theorem dX6_plan_137 : decode cX6_plan 137 = .ok (.iload 7, 2) := by decide +kernel
theorem dX6_plan_139 : decode cX6_plan 139 = .ok (.aload_n 0, 1) := by decide +kernel
theorem dX6_plan_140 : decode cX6_plan 140 = .ok (.getfield 149, 3) := by decide +kernel
theorem dX6_plan_143 : decode cX6_plan 143 = .ok (.if_icmp .ne 29, 3) := by decide +kernel
theorem dX6_plan_146 : decode cX6_plan 146 = .ok (.iinc 4 (-1), 3) := by decide +kernel
theorem dX6_plan_149 : decode cX6_plan 149 = .ok (.iload 4, 2) := by decide +kernel
theorem dX6_plan_151 : decode cX6_plan 151 = .ok (.ifCond .lt 15, 3) := by decide +kernel
theorem dX6_plan_154 : decode cX6_plan 154 = .ok (.aload_n 0, 1) := by decide +kernel
theorem dX6_plan_155 : decode cX6_plan 155 = .ok (.getfield 47, 3) := by decide +kernel
theorem dX6_plan_158 : decode cX6_plan 158 = .ok (.iload 4, 2) := by decide +kernel
theorem dX6_plan_160 : decode cX6_plan 160 = .ok (.iaload, 1) := by decide +kernel
theorem dX6_plan_161 : decode cX6_plan 161 = .ok (.iconst 1, 1) := by decide +kernel
theorem dX6_plan_162 : decode cX6_plan 162 = .ok (.iadd, 1) := by decide +kernel
theorem dX6_plan_163 : decode cX6_plan 163 = .ok (.goto 4, 3) := by decide +kernel
theorem dX6_plan_166 : decode cX6_plan 166 = .ok (.iconst 0, 1) := by decide +kernel
theorem dX6_plan_167 : decode cX6_plan 167 = .ok (.istore 5, 2) := by decide +kernel
theorem dX6_plan_169 : decode cX6_plan 169 = .ok (.goto 124, 3) := by decide +kernel
theorem dX6_plan_172 : decode cX6_plan 172 = .ok (.iload 6, 2) := by decide +kernel
theorem dX6_plan_174 : decode cX6_plan 174 = .ok (.ifCond .ne 15, 3) := by decide +kernel
theorem dX6_plan_177 : decode cX6_plan 177 = .ok (.aload_n 0, 1) := by decide +kernel
theorem dX6_plan_178 : decode cX6_plan 178 = .ok (.getfield 157, 3) := by decide +kernel
theorem dX6_plan_181 : decode cX6_plan 181 = .ok (.ldc 166, 2) := by decide +kernel
theorem dX6_plan_183 : decode cX6_plan 183 = .ok (.if_icmp .ne 6, 3) := by decide +kernel
theorem dX6_plan_186 : decode cX6_plan 186 = .ok (.bipush (-5), 2) := by decide +kernel
theorem dX6_plan_188 : decode cX6_plan 188 = .ok (.ireturn, 1) := by decide +kernel
theorem dX6_plan_189 : decode cX6_plan 189 = .ok (.aload_n 0, 1) := by decide +kernel
theorem dX6_plan_190 : decode cX6_plan 190 = .ok (.dup, 1) := by decide +kernel
theorem dX6_plan_191 : decode cX6_plan 191 = .ok (.getfield 157, 3) := by decide +kernel
theorem dX6_plan_194 : decode cX6_plan 194 = .ok (.iload 6, 2) := by decide +kernel
theorem dX6_plan_196 : decode cX6_plan 196 = .ok (.ifCond .eq 7, 3) := by decide +kernel
theorem dX6_plan_199 : decode cX6_plan 199 = .ok (.iconst 0, 1) := by decide +kernel
theorem dX6_plan_200 : decode cX6_plan 200 = .ok (.goto 4, 3) := by decide +kernel
theorem dX6_plan_203 : decode cX6_plan 203 = .ok (.iconst 1, 1) := by decide +kernel
theorem dX6_plan_204 : decode cX6_plan 204 = .ok (.iadd, 1) := by decide +kernel
theorem dX6_plan_205 : decode cX6_plan 205 = .ok (.putfield 157, 3) := by decide +kernel
theorem dX6_plan_208 : decode cX6_plan 208 = .ok (.aload_n 0, 1) := by decide +kernel
theorem dX6_plan_209 : decode cX6_plan 209 = .ok (.getfield 47, 3) := by decide +kernel
theorem dX6_plan_212 : decode cX6_plan 212 = .ok (.iload 4, 2) := by decide +kernel
theorem dX6_plan_214 : decode cX6_plan 214 = .ok (.iload 7, 2) := by decide +kernel
theorem dX6_plan_216 : decode cX6_plan 216 = .ok (.iastore, 1) := by decide +kernel
theorem dX6_plan_217 : decode cX6_plan 217 = .ok (.iload 4, 2) := by decide +kernel
theorem dX6_plan_219 : decode cX6_plan 219 = .ok (.iload_n 1, 1) := by decide +kernel
theorem dX6_plan_220 : decode cX6_plan 220 = .ok (.irem, 1) := by decide +kernel
theorem dX6_plan_221 : decode cX6_plan 221 = .ok (.iload_n 1, 1) := by decide +kernel
theorem dX6_plan_222 : decode cX6_plan 222 = .ok (.iconst 1, 1) := by decide +kernel
theorem dX6_plan_223 : decode cX6_plan 223 = .ok (.isub, 1) := by decide +kernel
theorem dX6_plan_224 : decode cX6_plan 224 = .ok (.if_icmp .lt 15, 3) := by decide +kernel
theorem dX6_plan_227 : decode cX6_plan 227 = .ok (.aload_n 0, 1) := by decide +kernel
theorem dX6_plan_228 : decode cX6_plan 228 = .ok (.iload 4, 2) := by decide +kernel
theorem dX6_plan_230 : decode cX6_plan 230 = .ok (.iload_n 1, 1) := by decide +kernel
theorem dX6_plan_231 : decode cX6_plan 231 = .ok (.iload_n 2, 1) := by decide +kernel
theorem dX6_plan_232 : decode cX6_plan 232 = .ok (.iload_n 3, 1) := by decide +kernel
theorem dX6_plan_233 : decode cX6_plan 233 = .ok (.invokevirtual 167, 3) := by decide +kernel
theorem dX6_plan_236 : decode cX6_plan 236 = .ok (.ifCond .eq 7, 3) := by decide +kernel
theorem dX6_plan_239 : decode cX6_plan 239 = .ok (.iconst 1, 1) := by decide +kernel
theorem dX6_plan_240 : decode cX6_plan 240 = .ok (.goto 4, 3) := by decide +kernel
theorem dX6_plan_243 : decode cX6_plan 243 = .ok (.iconst 0, 1) := by decide +kernel
theorem dX6_plan_244 : decode cX6_plan 244 = .ok (.istore 8, 2) := by decide +kernel
theorem dX6_plan_246 : decode cX6_plan 246 = .ok (.iload 8, 2) := by decide +kernel
theorem dX6_plan_248 : decode cX6_plan 248 = .ok (.ifCond .eq 24, 3) := by decide +kernel
theorem dX6_plan_251 : decode cX6_plan 251 = .ok (.iload 4, 2) := by decide +kernel
theorem dX6_plan_253 : decode cX6_plan 253 = .ok (.iload_n 1, 1) := by decide +kernel
end
section
theorem dX6_plan_254 : decode cX6_plan 254 = .ok (.irem, 1) := by decide +kernel
theorem dX6_plan_255 : decode cX6_plan 255 = .ok (.iload_n 1, 1) := by decide +kernel
theorem dX6_plan_256 : decode cX6_plan 256 = .ok (.iconst 1, 1) := by decide +kernel
theorem dX6_plan_257 : decode cX6_plan 257 = .ok (.isub, 1) := by decide +kernel
theorem dX6_plan_258 : decode cX6_plan 258 = .ok (.if_icmp .ne 7, 3) := by decide +kernel
theorem dX6_plan_261 : decode cX6_plan 261 = .ok (.iconst 0, 1) := by decide +kernel
theorem dX6_plan_262 : decode cX6_plan 262 = .ok (.goto 14, 3) := by decide +kernel
theorem dX6_plan_265 : decode cX6_plan 265 = .ok (.iload 7, 2) := by decide +kernel
theorem dX6_plan_267 : decode cX6_plan 267 = .ok (.iconst 1, 1) := by decide +kernel
theorem dX6_plan_268 : decode cX6_plan 268 = .ok (.iadd, 1) := by decide +kernel
theorem dX6_plan_269 : decode cX6_plan 269 = .ok (.goto 7, 3) := by decide +kernel
theorem dX6_plan_272 : decode cX6_plan 272 = .ok (.iload 7, 2) := by decide +kernel
theorem dX6_plan_274 : decode cX6_plan 274 = .ok (.iconst 1, 1) := by decide +kernel
theorem dX6_plan_275 : decode cX6_plan 275 = .ok (.iadd, 1) := by decide +kernel
theorem dX6_plan_276 : decode cX6_plan 276 = .ok (.istore 5, 2) := by decide +kernel
theorem dX6_plan_278 : decode cX6_plan 278 = .ok (.iload 4, 2) := by decide +kernel
theorem dX6_plan_280 : decode cX6_plan 280 = .ok (.iload 8, 2) := by decide +kernel
theorem dX6_plan_282 : decode cX6_plan 282 = .ok (.ifCond .eq 7, 3) := by decide +kernel
theorem dX6_plan_285 : decode cX6_plan 285 = .ok (.iconst 1, 1) := by decide +kernel
theorem dX6_plan_286 : decode cX6_plan 286 = .ok (.goto 4, 3) := by decide +kernel
theorem dX6_plan_289 : decode cX6_plan 289 = .ok (.iconst 0, 1) := by decide +kernel
theorem dX6_plan_290 : decode cX6_plan 290 = .ok (.iadd, 1) := by decide +kernel
theorem dX6_plan_291 : decode cX6_plan 291 = .ok (.istore 4, 2) := by decide +kernel
theorem dX6_plan_293 : decode cX6_plan 293 = .ok (.goto (-220), 3) := by decide +kernel
theorem dX6_plan_296 : decode cX6_plan 296 = .ok (.iload 4, 2) := by decide +kernel
theorem dX6_plan_298 : decode cX6_plan 298 = .ok (.ifCond .ge 5, 3) := by decide +kernel
theorem dX6_plan_301 : decode cX6_plan 301 = .ok (.iconst (-1), 1) := by decide +kernel
theorem dX6_plan_302 : decode cX6_plan 302 = .ok (.ireturn, 1) := by decide +kernel
theorem dX6_plan_303 : decode cX6_plan 303 = .ok (.aload_n 0, 1) := by decide +kernel
theorem dX6_plan_304 : decode cX6_plan 304 = .ok (.aload_n 0, 1) := by decide +kernel
theorem dX6_plan_305 : decode cX6_plan 305 = .ok (.getfield 149, 3) := by decide +kernel
theorem dX6_plan_308 : decode cX6_plan 308 = .ok (.iload_n 1, 1) := by decide +kernel
theorem dX6_plan_309 : decode cX6_plan 309 = .ok (.idiv, 1) := by decide +kernel
theorem dX6_plan_310 : decode cX6_plan 310 = .ok (.putfield 152, 3) := by decide +kernel
theorem dX6_plan_313 : decode cX6_plan 313 = .ok (.aload_n 0, 1) := by decide +kernel
theorem dX6_plan_314 : decode cX6_plan 314 = .ok (.getfield 152, 3) := by decide +kernel
theorem dX6_plan_317 : decode cX6_plan 317 = .ok (.ireturn, 1) := by decide +kernel
set_option maxRecDepth 20000 in
theorem ggX6_planAt_X6_in : GoodIn wsX6_planAt wsX6_in := goodIn_r _ [7] (by decide +kernel) (by decide +kernel)
set_option maxRecDepth 20000 in
theorem gX6_planAt_X6_in : GoodIn wsX6_planAt (va_wsS RX6 52 yX6_in wsX6_in) := goodIn_app (goodIn_of _ (by decide +kernel)) ggX6_planAt_X6_in
theorem dX6_planAt_0 : decode cX6_planAt 0 = .ok (.iload_n 1, 1) := by decide +kernel
theorem dX6_planAt_1 : decode cX6_planAt 1 = .ok (.i2l, 1) := by decide +kernel
theorem dX6_planAt_2 : decode cX6_planAt 2 = .ok (.lconst 0, 1) := by decide +kernel
theorem dX6_planAt_3 : decode cX6_planAt 3 = .ok (.aload_n 0, 1) := by decide +kernel
theorem dX6_planAt_4 : decode cX6_planAt 4 = .ok (.getfield 152, 3) := by decide +kernel
theorem dX6_planAt_7 : decode cX6_planAt 7 = .ok (.iconst 1, 1) := by decide +kernel
theorem dX6_planAt_8 : decode cX6_planAt 8 = .ok (.isub, 1) := by decide +kernel
theorem dX6_planAt_9 : decode cX6_planAt 9 = .ok (.i2l, 1) := by decide +kernel
theorem dX6_planAt_10 : decode cX6_planAt 10 = .ok (.invokestatic 52, 3) := by decide +kernel
theorem dX6_planAt_13 : decode cX6_planAt 13 = .ok (.ifCond .eq 35, 3) := by decide +kernel
theorem dX6_planAt_16 : decode cX6_planAt 16 = .ok (.iload_n 2, 1) := by decide +kernel
theorem dX6_planAt_17 : decode cX6_planAt 17 = .ok (.i2l, 1) := by decide +kernel
theorem dX6_planAt_18 : decode cX6_planAt 18 = .ok (.lconst 0, 1) := by decide +kernel
theorem dX6_planAt_19 : decode cX6_planAt 19 = .ok (.aload_n 0, 1) := by decide +kernel
theorem dX6_planAt_20 : decode cX6_planAt 20 = .ok (.getfield 160, 3) := by decide +kernel
theorem dX6_planAt_23 : decode cX6_planAt 23 = .ok (.iconst 1, 1) := by decide +kernel
theorem dX6_planAt_24 : decode cX6_planAt 24 = .ok (.isub, 1) := by decide +kernel
theorem dX6_planAt_25 : decode cX6_planAt 25 = .ok (.i2l, 1) := by decide +kernel
theorem dX6_planAt_26 : decode cX6_planAt 26 = .ok (.invokestatic 52, 3) := by decide +kernel
theorem dX6_planAt_29 : decode cX6_planAt 29 = .ok (.ifCond .eq 19, 3) := by decide +kernel
theorem dX6_planAt_32 : decode cX6_planAt 32 = .ok (.aload_n 0, 1) := by decide +kernel
theorem dX6_planAt_33 : decode cX6_planAt 33 = .ok (.getfield 47, 3) := by decide +kernel
theorem dX6_planAt_36 : decode cX6_planAt 36 = .ok (.aload_n 0, 1) := by decide +kernel
theorem dX6_planAt_37 : decode cX6_planAt 37 = .ok (.getfield 160, 3) := by decide +kernel
theorem dX6_planAt_40 : decode cX6_planAt 40 = .ok (.iload_n 1, 1) := by decide +kernel
theorem dX6_planAt_41 : decode cX6_planAt 41 = .ok (.imul, 1) := by decide +kernel
theorem dX6_planAt_42 : decode cX6_planAt 42 = .ok (.iload_n 2, 1) := by decide +kernel
theorem dX6_planAt_43 : decode cX6_planAt 43 = .ok (.iadd, 1) := by decide +kernel
theorem dX6_planAt_44 : decode cX6_planAt 44 = .ok (.iaload, 1) := by decide +kernel
theorem dX6_planAt_45 : decode cX6_planAt 45 = .ok (.goto 4, 3) := by decide +kernel
theorem dX6_planAt_48 : decode cX6_planAt 48 = .ok (.iconst (-1), 1) := by decide +kernel
theorem dX6_planAt_49 : decode cX6_planAt 49 = .ok (.ireturn, 1) := by decide +kernel
theorem dX6_tries_0 : decode cX6_tries 0 = .ok (.aload_n 0, 1) := by decide +kernel
theorem dX6_tries_1 : decode cX6_tries 1 = .ok (.getfield 157, 3) := by decide +kernel
theorem dX6_tries_4 : decode cX6_tries 4 = .ok (.ireturn, 1) := by decide +kernel
theorem dX6_manyOf_0 : decode cX6_manyOf 0 = .ok (.iconst 0, 1) := by decide +kernel
theorem dX6_manyOf_1 : decode cX6_manyOf 1 = .ok (.istore_n 2, 1) := by decide +kernel
theorem dX6_manyOf_2 : decode cX6_manyOf 2 = .ok (.iconst 0, 1) := by decide +kernel
theorem dX6_manyOf_3 : decode cX6_manyOf 3 = .ok (.istore_n 3, 1) := by decide +kernel
theorem dX6_manyOf_4 : decode cX6_manyOf 4 = .ok (.iload_n 3, 1) := by decide +kernel
theorem dX6_manyOf_5 : decode cX6_manyOf 5 = .ok (.aload_n 0, 1) := by decide +kernel
theorem dX6_manyOf_6 : decode cX6_manyOf 6 = .ok (.getfield 64, 3) := by decide +kernel
theorem dX6_manyOf_9 : decode cX6_manyOf 9 = .ok (.if_icmp .ge 23, 3) := by decide +kernel
theorem dX6_manyOf_12 : decode cX6_manyOf 12 = .ok (.iload_n 1, 1) := by decide +kernel
theorem dX6_manyOf_13 : decode cX6_manyOf 13 = .ok (.iconst 1, 1) := by decide +kernel
theorem dX6_manyOf_14 : decode cX6_manyOf 14 = .ok (.if_icmp .ne 18, 3) := by decide +kernel
theorem dX6_manyOf_17 : decode cX6_manyOf 17 = .ok (.iload_n 2, 1) := by decide +kernel
theorem dX6_manyOf_18 : decode cX6_manyOf 18 = .ok (.aload_n 0, 1) := by decide +kernel
theorem dX6_manyOf_19 : decode cX6_manyOf 19 = .ok (.getfield 29, 3) := by decide +kernel
theorem dX6_manyOf_22 : decode cX6_manyOf 22 = .ok (.iload_n 3, 1) := by decide +kernel
theorem dX6_manyOf_23 : decode cX6_manyOf 23 = .ok (.iaload, 1) := by decide +kernel
theorem dX6_manyOf_24 : decode cX6_manyOf 24 = .ok (.iadd, 1) := by decide +kernel
theorem dX6_manyOf_25 : decode cX6_manyOf 25 = .ok (.istore_n 2, 1) := by decide +kernel
theorem dX6_manyOf_26 : decode cX6_manyOf 26 = .ok (.iinc 3 1, 3) := by decide +kernel
theorem dX6_manyOf_29 : decode cX6_manyOf 29 = .ok (.goto (-25), 3) := by decide +kernel
theorem dX6_manyOf_32 : decode cX6_manyOf 32 = .ok (.iconst 0, 1) := by decide +kernel
theorem dX6_manyOf_33 : decode cX6_manyOf 33 = .ok (.istore_n 3, 1) := by decide +kernel
theorem dX6_manyOf_34 : decode cX6_manyOf 34 = .ok (.iload_n 3, 1) := by decide +kernel
theorem dX6_manyOf_35 : decode cX6_manyOf 35 = .ok (.bipush 8, 2) := by decide +kernel
theorem dX6_manyOf_37 : decode cX6_manyOf 37 = .ok (.if_icmp .ge 23, 3) := by decide +kernel
theorem dX6_manyOf_40 : decode cX6_manyOf 40 = .ok (.iload_n 1, 1) := by decide +kernel
theorem dX6_manyOf_41 : decode cX6_manyOf 41 = .ok (.iconst 4, 1) := by decide +kernel
theorem dX6_manyOf_42 : decode cX6_manyOf 42 = .ok (.if_icmp .ne 18, 3) := by decide +kernel
theorem dX6_manyOf_45 : decode cX6_manyOf 45 = .ok (.iload_n 2, 1) := by decide +kernel
theorem dX6_manyOf_46 : decode cX6_manyOf 46 = .ok (.aload_n 0, 1) := by decide +kernel
theorem dX6_manyOf_47 : decode cX6_manyOf 47 = .ok (.getfield 35, 3) := by decide +kernel
theorem dX6_manyOf_50 : decode cX6_manyOf 50 = .ok (.iload_n 3, 1) := by decide +kernel
theorem dX6_manyOf_51 : decode cX6_manyOf 51 = .ok (.iaload, 1) := by decide +kernel
theorem dX6_manyOf_52 : decode cX6_manyOf 52 = .ok (.iadd, 1) := by decide +kernel
theorem dX6_manyOf_53 : decode cX6_manyOf 53 = .ok (.istore_n 2, 1) := by decide +kernel
theorem dX6_manyOf_54 : decode cX6_manyOf 54 = .ok (.iinc 3 1, 3) := by decide +kernel
theorem dX6_manyOf_57 : decode cX6_manyOf 57 = .ok (.goto (-23), 3) := by decide +kernel
theorem dX6_manyOf_60 : decode cX6_manyOf 60 = .ok (.iload_n 1, 1) := by decide +kernel
theorem dX6_manyOf_61 : decode cX6_manyOf 61 = .ok (.ifCond .ne 10, 3) := by decide +kernel
theorem dX6_manyOf_64 : decode cX6_manyOf 64 = .ok (.aload_n 0, 1) := by decide +kernel
theorem dX6_manyOf_65 : decode cX6_manyOf 65 = .ok (.getfield 64, 3) := by decide +kernel
theorem dX6_manyOf_68 : decode cX6_manyOf 68 = .ok (.goto 28, 3) := by decide +kernel
theorem dX6_manyOf_71 : decode cX6_manyOf 71 = .ok (.iload_n 1, 1) := by decide +kernel
theorem dX6_manyOf_72 : decode cX6_manyOf 72 = .ok (.iconst 2, 1) := by decide +kernel
theorem dX6_manyOf_73 : decode cX6_manyOf 73 = .ok (.if_icmp .ne 10, 3) := by decide +kernel
theorem dX6_manyOf_76 : decode cX6_manyOf 76 = .ok (.aload_n 0, 1) := by decide +kernel
theorem dX6_manyOf_77 : decode cX6_manyOf 77 = .ok (.getfield 149, 3) := by decide +kernel
theorem dX6_manyOf_80 : decode cX6_manyOf 80 = .ok (.goto 16, 3) := by decide +kernel
theorem dX6_manyOf_83 : decode cX6_manyOf 83 = .ok (.iload_n 1, 1) := by decide +kernel
theorem dX6_manyOf_84 : decode cX6_manyOf 84 = .ok (.iconst 3, 1) := by decide +kernel
theorem dX6_manyOf_85 : decode cX6_manyOf 85 = .ok (.if_icmp .ne 10, 3) := by decide +kernel
theorem dX6_manyOf_88 : decode cX6_manyOf 88 = .ok (.aload_n 0, 1) := by decide +kernel
theorem dX6_manyOf_89 : decode cX6_manyOf 89 = .ok (.getfield 152, 3) := by decide +kernel
theorem dX6_manyOf_92 : decode cX6_manyOf 92 = .ok (.goto 4, 3) := by decide +kernel
theorem dX6_manyOf_95 : decode cX6_manyOf 95 = .ok (.iload_n 2, 1) := by decide +kernel
theorem dX6_manyOf_96 : decode cX6_manyOf 96 = .ok (.ireturn, 1) := by decide +kernel
set_option maxRecDepth 20000 in
theorem ggX6_many_X6_in : GoodIn wsX6_many wsX6_in := goodIn_r _ [5] (by decide +kernel) (by decide +kernel)
set_option maxRecDepth 20000 in
theorem gX6_many_X6_in : GoodIn wsX6_many (va_wsS RX6 52 yX6_in wsX6_in) := goodIn_app (goodIn_of _ (by decide +kernel)) ggX6_many_X6_in
set_option maxRecDepth 20000 in
theorem ggX6_many_X6_manyOf : GoodIn wsX6_many wsX6_manyOf := goodIn_r _ [9, 10, 11, 12, 13, 14, 15, 16, 17, 18, 19, 20, 21, 22, 23, 24, 25, 26, 27, 28, 29, 30, 31, 32] (by decide +kernel) (by decide +kernel)
set_option maxRecDepth 20000 in
theorem gX6_many_X6_manyOf : GoodIn wsX6_many (wsV RX6 173 RX6 yX6_manyOf wsX6_manyOf) := goodIn_app (goodIn_of _ (by decide +kernel)) ggX6_many_X6_manyOf
theorem dX6_many_0 : decode cX6_many 0 = .ok (.iload_n 1, 1) := by decide +kernel
theorem dX6_many_1 : decode cX6_many 1 = .ok (.i2l, 1) := by decide +kernel
theorem dX6_many_2 : decode cX6_many 2 = .ok (.lconst 0, 1) := by decide +kernel
theorem dX6_many_3 : decode cX6_many 3 = .ok (.ldc2_w 171, 3) := by decide +kernel
theorem dX6_many_6 : decode cX6_many 6 = .ok (.invokestatic 52, 3) := by decide +kernel
theorem dX6_many_9 : decode cX6_many 9 = .ok (.ifCond .eq 11, 3) := by decide +kernel
theorem dX6_many_12 : decode cX6_many 12 = .ok (.aload_n 0, 1) := by decide +kernel
theorem dX6_many_13 : decode cX6_many 13 = .ok (.iload_n 1, 1) := by decide +kernel
theorem dX6_many_14 : decode cX6_many 14 = .ok (.invokevirtual 173, 3) := by decide +kernel
theorem dX6_many_17 : decode cX6_many 17 = .ok (.goto 5, 3) := by decide +kernel
theorem dX6_many_20 : decode cX6_many 20 = .ok (.bipush (-2), 2) := by decide +kernel
theorem dX6_many_22 : decode cX6_many 22 = .ok (.ireturn, 1) := by decide +kernel
set_option maxRecDepth 20000 in
theorem ggX6_digest_X6_manyOf : GoodIn wsX6_digest wsX6_manyOf := goodIn_r _ [13, 3, 14, 4, 15, 6, 32, 33, 34, 35, 36, 37, 38, 39, 40, 41, 42, 43, 44, 45, 46, 47, 48, 49] (by decide +kernel) (by decide +kernel)
set_option maxRecDepth 20000 in
theorem gX6_digest_X6_manyOf : GoodIn wsX6_digest (wsV RX6 173 RX6 yX6_manyOf wsX6_manyOf) := goodIn_app (goodIn_of _ (by decide +kernel)) ggX6_digest_X6_manyOf
set_option maxRecDepth 20000 in
theorem ggX6_digest_X6_countOf : GoodIn wsX6_digest wsX6_countOf := goodIn_r _ [19, 20, 21, 22, 23, 24, 25, 26, 27, 28, 29, 30, 12, 31, 32, 33, 34, 35, 36, 37, 38, 39, 40, 41, 42, 43, 44, 45, 46, 47, 48, 49] (by decide +kernel) (by decide +kernel)
set_option maxRecDepth 20000 in
theorem gX6_digest_X6_countOf : GoodIn wsX6_digest (wsV RX6 81 RX6 yX6_countOf wsX6_countOf) := goodIn_app (goodIn_of _ (by decide +kernel)) ggX6_digest_X6_countOf
theorem dX6_digest_0 : decode cX6_digest 0 = .ok (.ldc2_w 177, 3) := by decide +kernel
theorem dX6_digest_3 : decode cX6_digest 3 = .ok (.lstore_n 1, 1) := by decide +kernel
theorem dX6_digest_4 : decode cX6_digest 4 = .ok (.iconst 0, 1) := by decide +kernel
theorem dX6_digest_5 : decode cX6_digest 5 = .ok (.istore_n 3, 1) := by decide +kernel
theorem dX6_digest_6 : decode cX6_digest 6 = .ok (.iload_n 3, 1) := by decide +kernel
theorem dX6_digest_7 : decode cX6_digest 7 = .ok (.iconst 5, 1) := by decide +kernel
theorem dX6_digest_8 : decode cX6_digest 8 = .ok (.if_icmp .ge 22, 3) := by decide +kernel
theorem dX6_digest_11 : decode cX6_digest 11 = .ok (.ldc2_w 179, 3) := by decide +kernel
theorem dX6_digest_14 : decode cX6_digest 14 = .ok (.lload_n 1, 1) := by decide +kernel
theorem dX6_digest_15 : decode cX6_digest 15 = .ok (.lmul, 1) := by decide +kernel
theorem dX6_digest_16 : decode cX6_digest 16 = .ok (.aload_n 0, 1) := by decide +kernel
theorem dX6_digest_17 : decode cX6_digest 17 = .ok (.iload_n 3, 1) := by decide +kernel
theorem dX6_digest_18 : decode cX6_digest 18 = .ok (.invokevirtual 173, 3) := by decide +kernel
theorem dX6_digest_21 : decode cX6_digest 21 = .ok (.i2l, 1) := by decide +kernel
theorem dX6_digest_22 : decode cX6_digest 22 = .ok (.ladd, 1) := by decide +kernel
theorem dX6_digest_23 : decode cX6_digest 23 = .ok (.lstore_n 1, 1) := by decide +kernel
theorem dX6_digest_24 : decode cX6_digest 24 = .ok (.iinc 3 1, 3) := by decide +kernel
theorem dX6_digest_27 : decode cX6_digest 27 = .ok (.goto (-21), 3) := by decide +kernel
theorem dX6_digest_30 : decode cX6_digest 30 = .ok (.ldc2_w 179, 3) := by decide +kernel
theorem dX6_digest_33 : decode cX6_digest 33 = .ok (.lload_n 1, 1) := by decide +kernel
theorem dX6_digest_34 : decode cX6_digest 34 = .ok (.lmul, 1) := by decide +kernel
theorem dX6_digest_35 : decode cX6_digest 35 = .ok (.aload_n 0, 1) := by decide +kernel
theorem dX6_digest_36 : decode cX6_digest 36 = .ok (.aload_n 0, 1) := by decide +kernel
theorem dX6_digest_37 : decode cX6_digest 37 = .ok (.getfield 64, 3) := by decide +kernel
theorem dX6_digest_40 : decode cX6_digest 40 = .ok (.iconst 0, 1) := by decide +kernel
theorem dX6_digest_41 : decode cX6_digest 41 = .ok (.invokevirtual 81, 3) := by decide +kernel
theorem dX6_digest_44 : decode cX6_digest 44 = .ok (.ladd, 1) := by decide +kernel
theorem dX6_digest_45 : decode cX6_digest 45 = .ok (.lstore_n 1, 1) := by decide +kernel
theorem dX6_digest_46 : decode cX6_digest 46 = .ok (.ldc2_w 179, 3) := by decide +kernel
theorem dX6_digest_49 : decode cX6_digest 49 = .ok (.lload_n 1, 1) := by decide +kernel
theorem dX6_digest_50 : decode cX6_digest 50 = .ok (.lmul, 1) := by decide +kernel
theorem dX6_digest_51 : decode cX6_digest 51 = .ok (.aload_n 0, 1) := by decide +kernel
theorem dX6_digest_52 : decode cX6_digest 52 = .ok (.aload_n 0, 1) := by decide +kernel
theorem dX6_digest_53 : decode cX6_digest 53 = .ok (.getfield 64, 3) := by decide +kernel
theorem dX6_digest_56 : decode cX6_digest 56 = .ok (.iconst 1, 1) := by decide +kernel
theorem dX6_digest_57 : decode cX6_digest 57 = .ok (.invokevirtual 81, 3) := by decide +kernel
theorem dX6_digest_60 : decode cX6_digest 60 = .ok (.ladd, 1) := by decide +kernel
theorem dX6_digest_61 : decode cX6_digest 61 = .ok (.lstore_n 1, 1) := by decide +kernel
theorem dX6_digest_62 : decode cX6_digest 62 = .ok (.iconst 0, 1) := by decide +kernel
theorem dX6_digest_63 : decode cX6_digest 63 = .ok (.istore_n 3, 1) := by decide +kernel
theorem dX6_digest_64 : decode cX6_digest 64 = .ok (.iload_n 3, 1) := by decide +kernel
theorem dX6_digest_65 : decode cX6_digest 65 = .ok (.bipush 8, 2) := by decide +kernel
theorem dX6_digest_67 : decode cX6_digest 67 = .ok (.if_icmp .ge 50, 3) := by decide +kernel
theorem dX6_digest_70 : decode cX6_digest 70 = .ok (.iconst 0, 1) := by decide +kernel
theorem dX6_digest_71 : decode cX6_digest 71 = .ok (.istore 4, 2) := by decide +kernel
theorem dX6_digest_73 : decode cX6_digest 73 = .ok (.iload 4, 2) := by decide +kernel
theorem dX6_digest_75 : decode cX6_digest 75 = .ok (.aload_n 0, 1) := by decide +kernel
theorem dX6_digest_76 : decode cX6_digest 76 = .ok (.getfield 35, 3) := by decide +kernel
theorem dX6_digest_79 : decode cX6_digest 79 = .ok (.iload_n 3, 1) := by decide +kernel
theorem dX6_digest_80 : decode cX6_digest 80 = .ok (.iaload, 1) := by decide +kernel
theorem dX6_digest_81 : decode cX6_digest 81 = .ok (.if_icmp .ge 30, 3) := by decide +kernel
theorem dX6_digest_84 : decode cX6_digest 84 = .ok (.ldc2_w 179, 3) := by decide +kernel
theorem dX6_digest_87 : decode cX6_digest 87 = .ok (.lload_n 1, 1) := by decide +kernel
theorem dX6_digest_88 : decode cX6_digest 88 = .ok (.lmul, 1) := by decide +kernel
theorem dX6_digest_89 : decode cX6_digest 89 = .ok (.aload_n 0, 1) := by decide +kernel
theorem dX6_digest_90 : decode cX6_digest 90 = .ok (.getfield 38, 3) := by decide +kernel
theorem dX6_digest_93 : decode cX6_digest 93 = .ok (.sipush 400, 3) := by decide +kernel
theorem dX6_digest_96 : decode cX6_digest 96 = .ok (.iload_n 3, 1) := by decide +kernel
theorem dX6_digest_97 : decode cX6_digest 97 = .ok (.imul, 1) := by decide +kernel
theorem dX6_digest_98 : decode cX6_digest 98 = .ok (.iload 4, 2) := by decide +kernel
theorem dX6_digest_100 : decode cX6_digest 100 = .ok (.iadd, 1) := by decide +kernel
theorem dX6_digest_101 : decode cX6_digest 101 = .ok (.iaload, 1) := by decide +kernel
theorem dX6_digest_102 : decode cX6_digest 102 = .ok (.i2l, 1) := by decide +kernel
theorem dX6_digest_103 : decode cX6_digest 103 = .ok (.ladd, 1) := by decide +kernel
theorem dX6_digest_104 : decode cX6_digest 104 = .ok (.lstore_n 1, 1) := by decide +kernel
theorem dX6_digest_105 : decode cX6_digest 105 = .ok (.iinc 4 1, 3) := by decide +kernel
theorem dX6_digest_108 : decode cX6_digest 108 = .ok (.goto (-35), 3) := by decide +kernel
theorem dX6_digest_111 : decode cX6_digest 111 = .ok (.iinc 3 1, 3) := by decide +kernel
theorem dX6_digest_114 : decode cX6_digest 114 = .ok (.goto (-50), 3) := by decide +kernel
theorem dX6_digest_117 : decode cX6_digest 117 = .ok (.iconst 0, 1) := by decide +kernel
theorem dX6_digest_118 : decode cX6_digest 118 = .ok (.istore_n 3, 1) := by decide +kernel
theorem dX6_digest_119 : decode cX6_digest 119 = .ok (.iload_n 3, 1) := by decide +kernel
theorem dX6_digest_120 : decode cX6_digest 120 = .ok (.aload_n 0, 1) := by decide +kernel
theorem dX6_digest_121 : decode cX6_digest 121 = .ok (.getfield 152, 3) := by decide +kernel
theorem dX6_digest_124 : decode cX6_digest 124 = .ok (.aload_n 0, 1) := by decide +kernel
theorem dX6_digest_125 : decode cX6_digest 125 = .ok (.getfield 160, 3) := by decide +kernel
theorem dX6_digest_128 : decode cX6_digest 128 = .ok (.imul, 1) := by decide +kernel
theorem dX6_digest_129 : decode cX6_digest 129 = .ok (.if_icmp .ge 23, 3) := by decide +kernel
theorem dX6_digest_132 : decode cX6_digest 132 = .ok (.ldc2_w 179, 3) := by decide +kernel
theorem dX6_digest_135 : decode cX6_digest 135 = .ok (.lload_n 1, 1) := by decide +kernel
theorem dX6_digest_136 : decode cX6_digest 136 = .ok (.lmul, 1) := by decide +kernel
theorem dX6_digest_137 : decode cX6_digest 137 = .ok (.aload_n 0, 1) := by decide +kernel
theorem dX6_digest_138 : decode cX6_digest 138 = .ok (.getfield 47, 3) := by decide +kernel
theorem dX6_digest_141 : decode cX6_digest 141 = .ok (.iload_n 3, 1) := by decide +kernel
theorem dX6_digest_142 : decode cX6_digest 142 = .ok (.iaload, 1) := by decide +kernel
theorem dX6_digest_143 : decode cX6_digest 143 = .ok (.i2l, 1) := by decide +kernel
theorem dX6_digest_144 : decode cX6_digest 144 = .ok (.ladd, 1) := by decide +kernel
theorem dX6_digest_145 : decode cX6_digest 145 = .ok (.lstore_n 1, 1) := by decide +kernel
theorem dX6_digest_146 : decode cX6_digest 146 = .ok (.iinc 3 1, 3) := by decide +kernel
theorem dX6_digest_149 : decode cX6_digest 149 = .ok (.goto (-30), 3) := by decide +kernel
theorem dX6_digest_152 : decode cX6_digest 152 = .ok (.lload_n 1, 1) := by decide +kernel
theorem dX6_digest_153 : decode cX6_digest 153 = .ok (.lreturn, 1) := by decide +kernel
end
section
theorem dJ9_max_7cf53_0 : decode cJ9_max_7cf53 0 = .ok (.iload_n 0, 1) := by decide +kernel
theorem dJ9_max_7cf53_1 : decode cJ9_max_7cf53 1 = .ok (.iload_n 1, 1) := by decide +kernel
theorem dJ9_max_7cf53_2 : decode cJ9_max_7cf53 2 = .ok (.if_icmp .lt 7, 3) := by decide +kernel
theorem dJ9_max_7cf53_5 : decode cJ9_max_7cf53 5 = .ok (.iload_n 0, 1) := by decide +kernel
theorem dJ9_max_7cf53_6 : decode cJ9_max_7cf53 6 = .ok (.goto 4, 3) := by decide +kernel
theorem dJ9_max_7cf53_9 : decode cJ9_max_7cf53 9 = .ok (.iload_n 1, 1) := by decide +kernel
theorem dJ9_max_7cf53_10 : decode cJ9_max_7cf53 10 = .ok (.ireturn, 1) := by decide +kernel
theorem dJ9_min_7cf53_0 : decode cJ9_min_7cf53 0 = .ok (.iload_n 0, 1) := by decide +kernel
theorem dJ9_min_7cf53_1 : decode cJ9_min_7cf53 1 = .ok (.iload_n 1, 1) := by decide +kernel
theorem dJ9_min_7cf53_2 : decode cJ9_min_7cf53 2 = .ok (.if_icmp .gt 7, 3) := by decide +kernel
theorem dJ9_min_7cf53_5 : decode cJ9_min_7cf53 5 = .ok (.iload_n 0, 1) := by decide +kernel
theorem dJ9_min_7cf53_6 : decode cJ9_min_7cf53 6 = .ok (.goto 4, 3) := by decide +kernel
theorem dJ9_min_7cf53_9 : decode cJ9_min_7cf53 9 = .ok (.iload_n 1, 1) := by decide +kernel
theorem dJ9_min_7cf53_10 : decode cJ9_min_7cf53 10 = .ok (.ireturn, 1) := by decide +kernel
end
section
theorem dL_law_0 : decode cL_law 0 = .ok (.new 7, 3) := by decide +kernel
theorem dL_law_3 : decode cL_law 3 = .ok (.dup, 1) := by decide +kernel
theorem dL_law_4 : decode cL_law 4 = .ok (.invokespecial 9, 3) := by decide +kernel
theorem dL_law_7 : decode cL_law 7 = .ok (.astore_n 1, 1) := by decide +kernel
theorem dL_law_8 : decode cL_law 8 = .ok (.new 10, 3) := by decide +kernel
theorem dL_law_11 : decode cL_law 11 = .ok (.dup, 1) := by decide +kernel
theorem dL_law_12 : decode cL_law 12 = .ok (.invokespecial 12, 3) := by decide +kernel
theorem dL_law_15 : decode cL_law 15 = .ok (.astore_n 2, 1) := by decide +kernel
theorem dL_law_16 : decode cL_law 16 = .ok (.iconst 0, 1) := by decide +kernel
theorem dL_law_17 : decode cL_law 17 = .ok (.istore_n 3, 1) := by decide +kernel
theorem dL_law_18 : decode cL_law 18 = .ok (.iload_n 3, 1) := by decide +kernel
theorem dL_law_19 : decode cL_law 19 = .ok (.aload_n 0, 1) := by decide +kernel
theorem dL_law_20 : decode cL_law 20 = .ok (.arraylength, 1) := by decide +kernel
theorem dL_law_21 : decode cL_law 21 = .ok (.bipush 6, 2) := by decide +kernel
theorem dL_law_23 : decode cL_law 23 = .ok (.isub, 1) := by decide +kernel
theorem dL_law_24 : decode cL_law 24 = .ok (.if_icmp .gt 1064, 3) := by decide +kernel
theorem dL_law_27 : decode cL_law 27 = .ok (.aload_n 0, 1) := by decide +kernel
theorem dL_law_28 : decode cL_law 28 = .ok (.iload_n 3, 1) := by decide +kernel
theorem dL_law_29 : decode cL_law 29 = .ok (.iaload, 1) := by decide +kernel
theorem dL_law_30 : decode cL_law 30 = .ok (.bipush 31, 2) := by decide +kernel
theorem dL_law_32 : decode cL_law 32 = .ok (.iand, 1) := by decide +kernel
theorem dL_law_33 : decode cL_law 33 = .ok (.tableswitch 1049 0 26 #[123, 156, 209, 242, 255, 289, 333, 376, 409, 472, 495, 528, 561, 594, 627, 670, 704, 738, 771, 834, 887, 910, 923, 966, 999, 1012, 1035], 123) := by decide +kernel
theorem dL_law_156 : decode cL_law 156 = .ok (.aload_n 1, 1) := by decide +kernel
theorem dL_law_157 : decode cL_law 157 = .ok (.aload_n 0, 1) := by decide +kernel
theorem dL_law_158 : decode cL_law 158 = .ok (.iload_n 3, 1) := by decide +kernel
theorem dL_law_159 : decode cL_law 159 = .ok (.iconst 1, 1) := by decide +kernel
theorem dL_law_160 : decode cL_law 160 = .ok (.iadd, 1) := by decide +kernel
theorem dL_law_161 : decode cL_law 161 = .ok (.iaload, 1) := by decide +kernel
theorem dL_law_162 : decode cL_law 162 = .ok (.aload_n 0, 1) := by decide +kernel
theorem dL_law_163 : decode cL_law 163 = .ok (.iload_n 3, 1) := by decide +kernel
theorem dL_law_164 : decode cL_law 164 = .ok (.iconst 2, 1) := by decide +kernel
theorem dL_law_165 : decode cL_law 165 = .ok (.iadd, 1) := by decide +kernel
theorem dL_law_166 : decode cL_law 166 = .ok (.iaload, 1) := by decide +kernel
theorem dL_law_167 : decode cL_law 167 = .ok (.invokevirtual 13, 3) := by decide +kernel
theorem dL_law_170 : decode cL_law 170 = .ok (.aload_n 2, 1) := by decide +kernel
theorem dL_law_171 : decode cL_law 171 = .ok (.aload_n 0, 1) := by decide +kernel
theorem dL_law_172 : decode cL_law 172 = .ok (.iload_n 3, 1) := by decide +kernel
theorem dL_law_173 : decode cL_law 173 = .ok (.iconst 1, 1) := by decide +kernel
theorem dL_law_174 : decode cL_law 174 = .ok (.iadd, 1) := by decide +kernel
theorem dL_law_175 : decode cL_law 175 = .ok (.iaload, 1) := by decide +kernel
theorem dL_law_176 : decode cL_law 176 = .ok (.aload_n 0, 1) := by decide +kernel
theorem dL_law_177 : decode cL_law 177 = .ok (.iload_n 3, 1) := by decide +kernel
theorem dL_law_178 : decode cL_law 178 = .ok (.iconst 2, 1) := by decide +kernel
theorem dL_law_179 : decode cL_law 179 = .ok (.iadd, 1) := by decide +kernel
theorem dL_law_180 : decode cL_law 180 = .ok (.iaload, 1) := by decide +kernel
theorem dL_law_181 : decode cL_law 181 = .ok (.invokevirtual 17, 3) := by decide +kernel
theorem dL_law_184 : decode cL_law 184 = .ok (.if_icmp .eq 898, 3) := by decide +kernel
theorem dL_law_187 : decode cL_law 187 = .ok (.iconst 0, 1) := by decide +kernel
theorem dL_law_188 : decode cL_law 188 = .ok (.ireturn, 1) := by decide +kernel
theorem dL_law_189 : decode cL_law 189 = .ok (.aload_n 1, 1) := by decide +kernel
theorem dL_law_190 : decode cL_law 190 = .ok (.aload_n 0, 1) := by decide +kernel
theorem dL_law_191 : decode cL_law 191 = .ok (.iload_n 3, 1) := by decide +kernel
theorem dL_law_192 : decode cL_law 192 = .ok (.iconst 1, 1) := by decide +kernel
theorem dL_law_193 : decode cL_law 193 = .ok (.iadd, 1) := by decide +kernel
theorem dL_law_194 : decode cL_law 194 = .ok (.iaload, 1) := by decide +kernel
theorem dL_law_195 : decode cL_law 195 = .ok (.aload_n 0, 1) := by decide +kernel
theorem dL_law_196 : decode cL_law 196 = .ok (.iload_n 3, 1) := by decide +kernel
theorem dL_law_197 : decode cL_law 197 = .ok (.iconst 2, 1) := by decide +kernel
theorem dL_law_198 : decode cL_law 198 = .ok (.iadd, 1) := by decide +kernel
theorem dL_law_199 : decode cL_law 199 = .ok (.iaload, 1) := by decide +kernel
theorem dL_law_200 : decode cL_law 200 = .ok (.aload_n 0, 1) := by decide +kernel
theorem dL_law_201 : decode cL_law 201 = .ok (.iload_n 3, 1) := by decide +kernel
theorem dL_law_202 : decode cL_law 202 = .ok (.iconst 3, 1) := by decide +kernel
theorem dL_law_203 : decode cL_law 203 = .ok (.iadd, 1) := by decide +kernel
theorem dL_law_204 : decode cL_law 204 = .ok (.iaload, 1) := by decide +kernel
theorem dL_law_205 : decode cL_law 205 = .ok (.aload_n 0, 1) := by decide +kernel
theorem dL_law_206 : decode cL_law 206 = .ok (.iload_n 3, 1) := by decide +kernel
theorem dL_law_207 : decode cL_law 207 = .ok (.iconst 4, 1) := by decide +kernel
theorem dL_law_208 : decode cL_law 208 = .ok (.iadd, 1) := by decide +kernel
theorem dL_law_209 : decode cL_law 209 = .ok (.iaload, 1) := by decide +kernel
theorem dL_law_210 : decode cL_law 210 = .ok (.invokevirtual 18, 3) := by decide +kernel
theorem dL_law_213 : decode cL_law 213 = .ok (.aload_n 2, 1) := by decide +kernel
theorem dL_law_214 : decode cL_law 214 = .ok (.aload_n 0, 1) := by decide +kernel
theorem dL_law_215 : decode cL_law 215 = .ok (.iload_n 3, 1) := by decide +kernel
theorem dL_law_216 : decode cL_law 216 = .ok (.iconst 1, 1) := by decide +kernel
theorem dL_law_217 : decode cL_law 217 = .ok (.iadd, 1) := by decide +kernel
theorem dL_law_218 : decode cL_law 218 = .ok (.iaload, 1) := by decide +kernel
theorem dL_law_219 : decode cL_law 219 = .ok (.aload_n 0, 1) := by decide +kernel
theorem dL_law_220 : decode cL_law 220 = .ok (.iload_n 3, 1) := by decide +kernel
theorem dL_law_221 : decode cL_law 221 = .ok (.iconst 2, 1) := by decide +kernel
theorem dL_law_222 : decode cL_law 222 = .ok (.iadd, 1) := by decide +kernel
theorem dL_law_223 : decode cL_law 223 = .ok (.iaload, 1) := by decide +kernel
theorem dL_law_224 : decode cL_law 224 = .ok (.aload_n 0, 1) := by decide +kernel
theorem dL_law_225 : decode cL_law 225 = .ok (.iload_n 3, 1) := by decide +kernel
theorem dL_law_226 : decode cL_law 226 = .ok (.iconst 3, 1) := by decide +kernel
theorem dL_law_227 : decode cL_law 227 = .ok (.iadd, 1) := by decide +kernel
theorem dL_law_228 : decode cL_law 228 = .ok (.iaload, 1) := by decide +kernel
theorem dL_law_229 : decode cL_law 229 = .ok (.aload_n 0, 1) := by decide +kernel
theorem dL_law_230 : decode cL_law 230 = .ok (.iload_n 3, 1) := by decide +kernel
theorem dL_law_231 : decode cL_law 231 = .ok (.iconst 4, 1) := by decide +kernel
theorem dL_law_232 : decode cL_law 232 = .ok (.iadd, 1) := by decide +kernel
theorem dL_law_233 : decode cL_law 233 = .ok (.iaload, 1) := by decide +kernel
theorem dL_law_234 : decode cL_law 234 = .ok (.invokevirtual 22, 3) := by decide +kernel
theorem dL_law_237 : decode cL_law 237 = .ok (.if_icmp .eq 845, 3) := by decide +kernel
theorem dL_law_240 : decode cL_law 240 = .ok (.iconst 0, 1) := by decide +kernel
theorem dL_law_241 : decode cL_law 241 = .ok (.ireturn, 1) := by decide +kernel
theorem dL_law_242 : decode cL_law 242 = .ok (.aload_n 1, 1) := by decide +kernel
theorem dL_law_243 : decode cL_law 243 = .ok (.aload_n 0, 1) := by decide +kernel
theorem dL_law_244 : decode cL_law 244 = .ok (.iload_n 3, 1) := by decide +kernel
theorem dL_law_245 : decode cL_law 245 = .ok (.iconst 1, 1) := by decide +kernel
theorem dL_law_246 : decode cL_law 246 = .ok (.iadd, 1) := by decide +kernel
theorem dL_law_247 : decode cL_law 247 = .ok (.iaload, 1) := by decide +kernel
theorem dL_law_248 : decode cL_law 248 = .ok (.aload_n 0, 1) := by decide +kernel
theorem dL_law_249 : decode cL_law 249 = .ok (.iload_n 3, 1) := by decide +kernel
theorem dL_law_250 : decode cL_law 250 = .ok (.iconst 2, 1) := by decide +kernel
theorem dL_law_251 : decode cL_law 251 = .ok (.iadd, 1) := by decide +kernel
theorem dL_law_252 : decode cL_law 252 = .ok (.iaload, 1) := by decide +kernel
theorem dL_law_253 : decode cL_law 253 = .ok (.invokevirtual 23, 3) := by decide +kernel
theorem dL_law_256 : decode cL_law 256 = .ok (.aload_n 2, 1) := by decide +kernel
theorem dL_law_257 : decode cL_law 257 = .ok (.aload_n 0, 1) := by decide +kernel
theorem dL_law_258 : decode cL_law 258 = .ok (.iload_n 3, 1) := by decide +kernel
theorem dL_law_259 : decode cL_law 259 = .ok (.iconst 1, 1) := by decide +kernel
theorem dL_law_260 : decode cL_law 260 = .ok (.iadd, 1) := by decide +kernel
theorem dL_law_261 : decode cL_law 261 = .ok (.iaload, 1) := by decide +kernel
theorem dL_law_262 : decode cL_law 262 = .ok (.aload_n 0, 1) := by decide +kernel
theorem dL_law_263 : decode cL_law 263 = .ok (.iload_n 3, 1) := by decide +kernel
theorem dL_law_264 : decode cL_law 264 = .ok (.iconst 2, 1) := by decide +kernel
theorem dL_law_265 : decode cL_law 265 = .ok (.iadd, 1) := by decide +kernel
theorem dL_law_266 : decode cL_law 266 = .ok (.iaload, 1) := by decide +kernel
theorem dL_law_267 : decode cL_law 267 = .ok (.invokevirtual 26, 3) := by decide +kernel
theorem dL_law_270 : decode cL_law 270 = .ok (.if_icmp .eq 812, 3) := by decide +kernel
theorem dL_law_273 : decode cL_law 273 = .ok (.iconst 0, 1) := by decide +kernel
theorem dL_law_274 : decode cL_law 274 = .ok (.ireturn, 1) := by decide +kernel
theorem dL_law_275 : decode cL_law 275 = .ok (.aload_n 1, 1) := by decide +kernel
theorem dL_law_276 : decode cL_law 276 = .ok (.invokevirtual 27, 3) := by decide +kernel
theorem dL_law_279 : decode cL_law 279 = .ok (.aload_n 2, 1) := by decide +kernel
theorem dL_law_280 : decode cL_law 280 = .ok (.invokevirtual 31, 3) := by decide +kernel
theorem dL_law_283 : decode cL_law 283 = .ok (.if_icmp .eq 799, 3) := by decide +kernel
theorem dL_law_286 : decode cL_law 286 = .ok (.iconst 0, 1) := by decide +kernel
theorem dL_law_287 : decode cL_law 287 = .ok (.ireturn, 1) := by decide +kernel
theorem dL_law_288 : decode cL_law 288 = .ok (.aload_n 1, 1) := by decide +kernel
theorem dL_law_289 : decode cL_law 289 = .ok (.aload_n 0, 1) := by decide +kernel
theorem dL_law_290 : decode cL_law 290 = .ok (.iload_n 3, 1) := by decide +kernel
theorem dL_law_291 : decode cL_law 291 = .ok (.iconst 1, 1) := by decide +kernel
theorem dL_law_292 : decode cL_law 292 = .ok (.iadd, 1) := by decide +kernel
theorem dL_law_293 : decode cL_law 293 = .ok (.iaload, 1) := by decide +kernel
theorem dL_law_294 : decode cL_law 294 = .ok (.aload_n 0, 1) := by decide +kernel
theorem dL_law_295 : decode cL_law 295 = .ok (.iload_n 3, 1) := by decide +kernel
theorem dL_law_296 : decode cL_law 296 = .ok (.iconst 2, 1) := by decide +kernel
theorem dL_law_297 : decode cL_law 297 = .ok (.iadd, 1) := by decide +kernel
theorem dL_law_298 : decode cL_law 298 = .ok (.iaload, 1) := by decide +kernel
theorem dL_law_299 : decode cL_law 299 = .ok (.invokevirtual 32, 3) := by decide +kernel
theorem dL_law_302 : decode cL_law 302 = .ok (.aload_n 2, 1) := by decide +kernel
theorem dL_law_303 : decode cL_law 303 = .ok (.aload_n 0, 1) := by decide +kernel
theorem dL_law_304 : decode cL_law 304 = .ok (.iload_n 3, 1) := by decide +kernel
theorem dL_law_305 : decode cL_law 305 = .ok (.iconst 1, 1) := by decide +kernel
theorem dL_law_306 : decode cL_law 306 = .ok (.iadd, 1) := by decide +kernel
theorem dL_law_307 : decode cL_law 307 = .ok (.iaload, 1) := by decide +kernel
theorem dL_law_308 : decode cL_law 308 = .ok (.aload_n 0, 1) := by decide +kernel
theorem dL_law_309 : decode cL_law 309 = .ok (.iload_n 3, 1) := by decide +kernel
theorem dL_law_310 : decode cL_law 310 = .ok (.iconst 2, 1) := by decide +kernel
theorem dL_law_311 : decode cL_law 311 = .ok (.iadd, 1) := by decide +kernel
theorem dL_law_312 : decode cL_law 312 = .ok (.iaload, 1) := by decide +kernel
theorem dL_law_313 : decode cL_law 313 = .ok (.invokevirtual 36, 3) := by decide +kernel
theorem dL_law_316 : decode cL_law 316 = .ok (.lcmp, 1) := by decide +kernel
theorem dL_law_317 : decode cL_law 317 = .ok (.ifCond .eq 765, 3) := by decide +kernel
theorem dL_law_320 : decode cL_law 320 = .ok (.iconst 0, 1) := by decide +kernel
theorem dL_law_321 : decode cL_law 321 = .ok (.ireturn, 1) := by decide +kernel
theorem dL_law_322 : decode cL_law 322 = .ok (.aload_n 1, 1) := by decide +kernel
theorem dL_law_323 : decode cL_law 323 = .ok (.aload_n 0, 1) := by decide +kernel
theorem dL_law_324 : decode cL_law 324 = .ok (.iload_n 3, 1) := by decide +kernel
theorem dL_law_325 : decode cL_law 325 = .ok (.iconst 1, 1) := by decide +kernel
theorem dL_law_326 : decode cL_law 326 = .ok (.iadd, 1) := by decide +kernel
theorem dL_law_327 : decode cL_law 327 = .ok (.iaload, 1) := by decide +kernel
theorem dL_law_328 : decode cL_law 328 = .ok (.aload_n 0, 1) := by decide +kernel
theorem dL_law_329 : decode cL_law 329 = .ok (.iload_n 3, 1) := by decide +kernel
theorem dL_law_330 : decode cL_law 330 = .ok (.iconst 2, 1) := by decide +kernel
theorem dL_law_331 : decode cL_law 331 = .ok (.iadd, 1) := by decide +kernel
theorem dL_law_332 : decode cL_law 332 = .ok (.iaload, 1) := by decide +kernel
theorem dL_law_333 : decode cL_law 333 = .ok (.aload_n 0, 1) := by decide +kernel
theorem dL_law_334 : decode cL_law 334 = .ok (.iload_n 3, 1) := by decide +kernel
theorem dL_law_335 : decode cL_law 335 = .ok (.iconst 3, 1) := by decide +kernel
theorem dL_law_336 : decode cL_law 336 = .ok (.iadd, 1) := by decide +kernel
theorem dL_law_337 : decode cL_law 337 = .ok (.iaload, 1) := by decide +kernel
theorem dL_law_338 : decode cL_law 338 = .ok (.invokevirtual 37, 3) := by decide +kernel
theorem dL_law_341 : decode cL_law 341 = .ok (.aload_n 2, 1) := by decide +kernel
theorem dL_law_342 : decode cL_law 342 = .ok (.aload_n 0, 1) := by decide +kernel
theorem dL_law_343 : decode cL_law 343 = .ok (.iload_n 3, 1) := by decide +kernel
theorem dL_law_344 : decode cL_law 344 = .ok (.iconst 1, 1) := by decide +kernel
theorem dL_law_345 : decode cL_law 345 = .ok (.iadd, 1) := by decide +kernel
theorem dL_law_346 : decode cL_law 346 = .ok (.iaload, 1) := by decide +kernel
theorem dL_law_347 : decode cL_law 347 = .ok (.aload_n 0, 1) := by decide +kernel
theorem dL_law_348 : decode cL_law 348 = .ok (.iload_n 3, 1) := by decide +kernel
theorem dL_law_349 : decode cL_law 349 = .ok (.iconst 2, 1) := by decide +kernel
theorem dL_law_350 : decode cL_law 350 = .ok (.iadd, 1) := by decide +kernel
theorem dL_law_351 : decode cL_law 351 = .ok (.iaload, 1) := by decide +kernel
theorem dL_law_352 : decode cL_law 352 = .ok (.aload_n 0, 1) := by decide +kernel
theorem dL_law_353 : decode cL_law 353 = .ok (.iload_n 3, 1) := by decide +kernel
theorem dL_law_354 : decode cL_law 354 = .ok (.iconst 3, 1) := by decide +kernel
theorem dL_law_355 : decode cL_law 355 = .ok (.iadd, 1) := by decide +kernel
theorem dL_law_356 : decode cL_law 356 = .ok (.iaload, 1) := by decide +kernel
theorem dL_law_357 : decode cL_law 357 = .ok (.invokevirtual 41, 3) := by decide +kernel
theorem dL_law_360 : decode cL_law 360 = .ok (.lcmp, 1) := by decide +kernel
theorem dL_law_361 : decode cL_law 361 = .ok (.ifCond .eq 721, 3) := by decide +kernel
theorem dL_law_364 : decode cL_law 364 = .ok (.iconst 0, 1) := by decide +kernel
theorem dL_law_365 : decode cL_law 365 = .ok (.ireturn, 1) := by decide +kernel
theorem dL_law_366 : decode cL_law 366 = .ok (.aload_n 1, 1) := by decide +kernel
theorem dL_law_367 : decode cL_law 367 = .ok (.aload_n 0, 1) := by decide +kernel
theorem dL_law_368 : decode cL_law 368 = .ok (.iload_n 3, 1) := by decide +kernel
theorem dL_law_369 : decode cL_law 369 = .ok (.iconst 1, 1) := by decide +kernel
theorem dL_law_370 : decode cL_law 370 = .ok (.iadd, 1) := by decide +kernel
theorem dL_law_371 : decode cL_law 371 = .ok (.iaload, 1) := by decide +kernel
theorem dL_law_372 : decode cL_law 372 = .ok (.aload_n 0, 1) := by decide +kernel
theorem dL_law_373 : decode cL_law 373 = .ok (.iload_n 3, 1) := by decide +kernel
theorem dL_law_374 : decode cL_law 374 = .ok (.iconst 2, 1) := by decide +kernel
theorem dL_law_375 : decode cL_law 375 = .ok (.iadd, 1) := by decide +kernel
theorem dL_law_376 : decode cL_law 376 = .ok (.iaload, 1) := by decide +kernel
theorem dL_law_377 : decode cL_law 377 = .ok (.aload_n 0, 1) := by decide +kernel
theorem dL_law_378 : decode cL_law 378 = .ok (.iload_n 3, 1) := by decide +kernel
theorem dL_law_379 : decode cL_law 379 = .ok (.iconst 3, 1) := by decide +kernel
theorem dL_law_380 : decode cL_law 380 = .ok (.iadd, 1) := by decide +kernel
theorem dL_law_381 : decode cL_law 381 = .ok (.iaload, 1) := by decide +kernel
theorem dL_law_382 : decode cL_law 382 = .ok (.invokevirtual 42, 3) := by decide +kernel
theorem dL_law_385 : decode cL_law 385 = .ok (.aload_n 2, 1) := by decide +kernel
theorem dL_law_386 : decode cL_law 386 = .ok (.aload_n 0, 1) := by decide +kernel
theorem dL_law_387 : decode cL_law 387 = .ok (.iload_n 3, 1) := by decide +kernel
theorem dL_law_388 : decode cL_law 388 = .ok (.iconst 1, 1) := by decide +kernel
theorem dL_law_389 : decode cL_law 389 = .ok (.iadd, 1) := by decide +kernel
theorem dL_law_390 : decode cL_law 390 = .ok (.iaload, 1) := by decide +kernel
theorem dL_law_391 : decode cL_law 391 = .ok (.aload_n 0, 1) := by decide +kernel
theorem dL_law_392 : decode cL_law 392 = .ok (.iload_n 3, 1) := by decide +kernel
theorem dL_law_393 : decode cL_law 393 = .ok (.iconst 2, 1) := by decide +kernel
theorem dL_law_394 : decode cL_law 394 = .ok (.iadd, 1) := by decide +kernel
theorem dL_law_395 : decode cL_law 395 = .ok (.iaload, 1) := by decide +kernel
theorem dL_law_396 : decode cL_law 396 = .ok (.aload_n 0, 1) := by decide +kernel
theorem dL_law_397 : decode cL_law 397 = .ok (.iload_n 3, 1) := by decide +kernel
theorem dL_law_398 : decode cL_law 398 = .ok (.iconst 3, 1) := by decide +kernel
theorem dL_law_399 : decode cL_law 399 = .ok (.iadd, 1) := by decide +kernel
theorem dL_law_400 : decode cL_law 400 = .ok (.iaload, 1) := by decide +kernel
theorem dL_law_401 : decode cL_law 401 = .ok (.invokevirtual 46, 3) := by decide +kernel
theorem dL_law_404 : decode cL_law 404 = .ok (.if_icmp .eq 678, 3) := by decide +kernel
theorem dL_law_407 : decode cL_law 407 = .ok (.iconst 0, 1) := by decide +kernel
theorem dL_law_408 : decode cL_law 408 = .ok (.ireturn, 1) := by decide +kernel
theorem dL_law_409 : decode cL_law 409 = .ok (.aload_n 1, 1) := by decide +kernel
theorem dL_law_410 : decode cL_law 410 = .ok (.aload_n 0, 1) := by decide +kernel
theorem dL_law_411 : decode cL_law 411 = .ok (.iload_n 3, 1) := by decide +kernel
theorem dL_law_412 : decode cL_law 412 = .ok (.iconst 1, 1) := by decide +kernel
theorem dL_law_413 : decode cL_law 413 = .ok (.iadd, 1) := by decide +kernel
theorem dL_law_414 : decode cL_law 414 = .ok (.iaload, 1) := by decide +kernel
theorem dL_law_415 : decode cL_law 415 = .ok (.aload_n 0, 1) := by decide +kernel
theorem dL_law_416 : decode cL_law 416 = .ok (.iload_n 3, 1) := by decide +kernel
theorem dL_law_417 : decode cL_law 417 = .ok (.iconst 2, 1) := by decide +kernel
theorem dL_law_418 : decode cL_law 418 = .ok (.iadd, 1) := by decide +kernel
theorem dL_law_419 : decode cL_law 419 = .ok (.iaload, 1) := by decide +kernel
theorem dL_law_420 : decode cL_law 420 = .ok (.invokevirtual 47, 3) := by decide +kernel
theorem dL_law_423 : decode cL_law 423 = .ok (.aload_n 2, 1) := by decide +kernel
theorem dL_law_424 : decode cL_law 424 = .ok (.aload_n 0, 1) := by decide +kernel
theorem dL_law_425 : decode cL_law 425 = .ok (.iload_n 3, 1) := by decide +kernel
theorem dL_law_426 : decode cL_law 426 = .ok (.iconst 1, 1) := by decide +kernel
theorem dL_law_427 : decode cL_law 427 = .ok (.iadd, 1) := by decide +kernel
theorem dL_law_428 : decode cL_law 428 = .ok (.iaload, 1) := by decide +kernel
theorem dL_law_429 : decode cL_law 429 = .ok (.aload_n 0, 1) := by decide +kernel
theorem dL_law_430 : decode cL_law 430 = .ok (.iload_n 3, 1) := by decide +kernel
theorem dL_law_431 : decode cL_law 431 = .ok (.iconst 2, 1) := by decide +kernel
theorem dL_law_432 : decode cL_law 432 = .ok (.iadd, 1) := by decide +kernel
theorem dL_law_433 : decode cL_law 433 = .ok (.iaload, 1) := by decide +kernel
theorem dL_law_434 : decode cL_law 434 = .ok (.invokevirtual 50, 3) := by decide +kernel
theorem dL_law_437 : decode cL_law 437 = .ok (.if_icmp .eq 645, 3) := by decide +kernel
theorem dL_law_440 : decode cL_law 440 = .ok (.iconst 0, 1) := by decide +kernel
theorem dL_law_441 : decode cL_law 441 = .ok (.ireturn, 1) := by decide +kernel
theorem dL_law_442 : decode cL_law 442 = .ok (.aload_n 1, 1) := by decide +kernel
theorem dL_law_443 : decode cL_law 443 = .ok (.aload_n 0, 1) := by decide +kernel
theorem dL_law_444 : decode cL_law 444 = .ok (.iload_n 3, 1) := by decide +kernel
theorem dL_law_445 : decode cL_law 445 = .ok (.iconst 1, 1) := by decide +kernel
theorem dL_law_446 : decode cL_law 446 = .ok (.iadd, 1) := by decide +kernel
theorem dL_law_447 : decode cL_law 447 = .ok (.iaload, 1) := by decide +kernel
theorem dL_law_448 : decode cL_law 448 = .ok (.aload_n 0, 1) := by decide +kernel
theorem dL_law_449 : decode cL_law 449 = .ok (.iload_n 3, 1) := by decide +kernel
theorem dL_law_450 : decode cL_law 450 = .ok (.iconst 2, 1) := by decide +kernel
theorem dL_law_451 : decode cL_law 451 = .ok (.iadd, 1) := by decide +kernel
theorem dL_law_452 : decode cL_law 452 = .ok (.iaload, 1) := by decide +kernel
theorem dL_law_453 : decode cL_law 453 = .ok (.aload_n 0, 1) := by decide +kernel
theorem dL_law_454 : decode cL_law 454 = .ok (.iload_n 3, 1) := by decide +kernel
theorem dL_law_455 : decode cL_law 455 = .ok (.iconst 3, 1) := by decide +kernel
theorem dL_law_456 : decode cL_law 456 = .ok (.iadd, 1) := by decide +kernel
theorem dL_law_457 : decode cL_law 457 = .ok (.iaload, 1) := by decide +kernel
theorem dL_law_458 : decode cL_law 458 = .ok (.aload_n 0, 1) := by decide +kernel
theorem dL_law_459 : decode cL_law 459 = .ok (.iload_n 3, 1) := by decide +kernel
theorem dL_law_460 : decode cL_law 460 = .ok (.iconst 4, 1) := by decide +kernel
theorem dL_law_461 : decode cL_law 461 = .ok (.iadd, 1) := by decide +kernel
theorem dL_law_462 : decode cL_law 462 = .ok (.iaload, 1) := by decide +kernel
theorem dL_law_463 : decode cL_law 463 = .ok (.aload_n 0, 1) := by decide +kernel
theorem dL_law_464 : decode cL_law 464 = .ok (.iload_n 3, 1) := by decide +kernel
theorem dL_law_465 : decode cL_law 465 = .ok (.iconst 5, 1) := by decide +kernel
theorem dL_law_466 : decode cL_law 466 = .ok (.iadd, 1) := by decide +kernel
theorem dL_law_467 : decode cL_law 467 = .ok (.iaload, 1) := by decide +kernel
theorem dL_law_468 : decode cL_law 468 = .ok (.invokevirtual 51, 3) := by decide +kernel
theorem dL_law_471 : decode cL_law 471 = .ok (.aload_n 2, 1) := by decide +kernel
theorem dL_law_472 : decode cL_law 472 = .ok (.aload_n 0, 1) := by decide +kernel
theorem dL_law_473 : decode cL_law 473 = .ok (.iload_n 3, 1) := by decide +kernel
theorem dL_law_474 : decode cL_law 474 = .ok (.iconst 1, 1) := by decide +kernel
theorem dL_law_475 : decode cL_law 475 = .ok (.iadd, 1) := by decide +kernel
theorem dL_law_476 : decode cL_law 476 = .ok (.iaload, 1) := by decide +kernel
theorem dL_law_477 : decode cL_law 477 = .ok (.aload_n 0, 1) := by decide +kernel
theorem dL_law_478 : decode cL_law 478 = .ok (.iload_n 3, 1) := by decide +kernel
theorem dL_law_479 : decode cL_law 479 = .ok (.iconst 2, 1) := by decide +kernel
theorem dL_law_480 : decode cL_law 480 = .ok (.iadd, 1) := by decide +kernel
theorem dL_law_481 : decode cL_law 481 = .ok (.iaload, 1) := by decide +kernel
theorem dL_law_482 : decode cL_law 482 = .ok (.aload_n 0, 1) := by decide +kernel
theorem dL_law_483 : decode cL_law 483 = .ok (.iload_n 3, 1) := by decide +kernel
theorem dL_law_484 : decode cL_law 484 = .ok (.iconst 3, 1) := by decide +kernel
theorem dL_law_485 : decode cL_law 485 = .ok (.iadd, 1) := by decide +kernel
theorem dL_law_486 : decode cL_law 486 = .ok (.iaload, 1) := by decide +kernel
theorem dL_law_487 : decode cL_law 487 = .ok (.aload_n 0, 1) := by decide +kernel
theorem dL_law_488 : decode cL_law 488 = .ok (.iload_n 3, 1) := by decide +kernel
theorem dL_law_489 : decode cL_law 489 = .ok (.iconst 4, 1) := by decide +kernel
theorem dL_law_490 : decode cL_law 490 = .ok (.iadd, 1) := by decide +kernel
theorem dL_law_491 : decode cL_law 491 = .ok (.iaload, 1) := by decide +kernel
theorem dL_law_492 : decode cL_law 492 = .ok (.aload_n 0, 1) := by decide +kernel
theorem dL_law_493 : decode cL_law 493 = .ok (.iload_n 3, 1) := by decide +kernel
theorem dL_law_494 : decode cL_law 494 = .ok (.iconst 5, 1) := by decide +kernel
theorem dL_law_495 : decode cL_law 495 = .ok (.iadd, 1) := by decide +kernel
theorem dL_law_496 : decode cL_law 496 = .ok (.iaload, 1) := by decide +kernel
theorem dL_law_497 : decode cL_law 497 = .ok (.invokevirtual 55, 3) := by decide +kernel
theorem dL_law_500 : decode cL_law 500 = .ok (.if_icmp .eq 582, 3) := by decide +kernel
theorem dL_law_503 : decode cL_law 503 = .ok (.iconst 0, 1) := by decide +kernel
theorem dL_law_504 : decode cL_law 504 = .ok (.ireturn, 1) := by decide +kernel
theorem dL_law_505 : decode cL_law 505 = .ok (.aload_n 1, 1) := by decide +kernel
theorem dL_law_506 : decode cL_law 506 = .ok (.aload_n 0, 1) := by decide +kernel
theorem dL_law_507 : decode cL_law 507 = .ok (.iload_n 3, 1) := by decide +kernel
theorem dL_law_508 : decode cL_law 508 = .ok (.iconst 1, 1) := by decide +kernel
theorem dL_law_509 : decode cL_law 509 = .ok (.iadd, 1) := by decide +kernel
theorem dL_law_510 : decode cL_law 510 = .ok (.iaload, 1) := by decide +kernel
theorem dL_law_511 : decode cL_law 511 = .ok (.invokevirtual 56, 3) := by decide +kernel
theorem dL_law_514 : decode cL_law 514 = .ok (.aload_n 2, 1) := by decide +kernel
theorem dL_law_515 : decode cL_law 515 = .ok (.aload_n 0, 1) := by decide +kernel
theorem dL_law_516 : decode cL_law 516 = .ok (.iload_n 3, 1) := by decide +kernel
theorem dL_law_517 : decode cL_law 517 = .ok (.iconst 1, 1) := by decide +kernel
theorem dL_law_518 : decode cL_law 518 = .ok (.iadd, 1) := by decide +kernel
theorem dL_law_519 : decode cL_law 519 = .ok (.iaload, 1) := by decide +kernel
theorem dL_law_520 : decode cL_law 520 = .ok (.invokevirtual 60, 3) := by decide +kernel
theorem dL_law_523 : decode cL_law 523 = .ok (.if_icmp .eq 559, 3) := by decide +kernel
theorem dL_law_526 : decode cL_law 526 = .ok (.iconst 0, 1) := by decide +kernel
theorem dL_law_527 : decode cL_law 527 = .ok (.ireturn, 1) := by decide +kernel
theorem dL_law_528 : decode cL_law 528 = .ok (.aload_n 1, 1) := by decide +kernel
theorem dL_law_529 : decode cL_law 529 = .ok (.aload_n 0, 1) := by decide +kernel
theorem dL_law_530 : decode cL_law 530 = .ok (.iload_n 3, 1) := by decide +kernel
theorem dL_law_531 : decode cL_law 531 = .ok (.iconst 1, 1) := by decide +kernel
theorem dL_law_532 : decode cL_law 532 = .ok (.iadd, 1) := by decide +kernel
theorem dL_law_533 : decode cL_law 533 = .ok (.iaload, 1) := by decide +kernel
theorem dL_law_534 : decode cL_law 534 = .ok (.aload_n 0, 1) := by decide +kernel
theorem dL_law_535 : decode cL_law 535 = .ok (.iload_n 3, 1) := by decide +kernel
theorem dL_law_536 : decode cL_law 536 = .ok (.iconst 2, 1) := by decide +kernel
theorem dL_law_537 : decode cL_law 537 = .ok (.iadd, 1) := by decide +kernel
theorem dL_law_538 : decode cL_law 538 = .ok (.iaload, 1) := by decide +kernel
theorem dL_law_539 : decode cL_law 539 = .ok (.invokevirtual 61, 3) := by decide +kernel
theorem dL_law_542 : decode cL_law 542 = .ok (.aload_n 2, 1) := by decide +kernel
theorem dL_law_543 : decode cL_law 543 = .ok (.aload_n 0, 1) := by decide +kernel
theorem dL_law_544 : decode cL_law 544 = .ok (.iload_n 3, 1) := by decide +kernel
theorem dL_law_545 : decode cL_law 545 = .ok (.iconst 1, 1) := by decide +kernel
theorem dL_law_546 : decode cL_law 546 = .ok (.iadd, 1) := by decide +kernel
theorem dL_law_547 : decode cL_law 547 = .ok (.iaload, 1) := by decide +kernel
theorem dL_law_548 : decode cL_law 548 = .ok (.aload_n 0, 1) := by decide +kernel
theorem dL_law_549 : decode cL_law 549 = .ok (.iload_n 3, 1) := by decide +kernel
theorem dL_law_550 : decode cL_law 550 = .ok (.iconst 2, 1) := by decide +kernel
theorem dL_law_551 : decode cL_law 551 = .ok (.iadd, 1) := by decide +kernel
theorem dL_law_552 : decode cL_law 552 = .ok (.iaload, 1) := by decide +kernel
theorem dL_law_553 : decode cL_law 553 = .ok (.invokevirtual 64, 3) := by decide +kernel
theorem dL_law_556 : decode cL_law 556 = .ok (.if_icmp .eq 526, 3) := by decide +kernel
theorem dL_law_559 : decode cL_law 559 = .ok (.iconst 0, 1) := by decide +kernel
theorem dL_law_560 : decode cL_law 560 = .ok (.ireturn, 1) := by decide +kernel
theorem dL_law_561 : decode cL_law 561 = .ok (.aload_n 1, 1) := by decide +kernel
theorem dL_law_562 : decode cL_law 562 = .ok (.aload_n 0, 1) := by decide +kernel
theorem dL_law_563 : decode cL_law 563 = .ok (.iload_n 3, 1) := by decide +kernel
theorem dL_law_564 : decode cL_law 564 = .ok (.iconst 1, 1) := by decide +kernel
theorem dL_law_565 : decode cL_law 565 = .ok (.iadd, 1) := by decide +kernel
theorem dL_law_566 : decode cL_law 566 = .ok (.iaload, 1) := by decide +kernel
theorem dL_law_567 : decode cL_law 567 = .ok (.aload_n 0, 1) := by decide +kernel
theorem dL_law_568 : decode cL_law 568 = .ok (.iload_n 3, 1) := by decide +kernel
theorem dL_law_569 : decode cL_law 569 = .ok (.iconst 2, 1) := by decide +kernel
theorem dL_law_570 : decode cL_law 570 = .ok (.iadd, 1) := by decide +kernel
theorem dL_law_571 : decode cL_law 571 = .ok (.iaload, 1) := by decide +kernel
theorem dL_law_572 : decode cL_law 572 = .ok (.invokevirtual 65, 3) := by decide +kernel
theorem dL_law_575 : decode cL_law 575 = .ok (.aload_n 2, 1) := by decide +kernel
theorem dL_law_576 : decode cL_law 576 = .ok (.aload_n 0, 1) := by decide +kernel
theorem dL_law_577 : decode cL_law 577 = .ok (.iload_n 3, 1) := by decide +kernel
theorem dL_law_578 : decode cL_law 578 = .ok (.iconst 1, 1) := by decide +kernel
theorem dL_law_579 : decode cL_law 579 = .ok (.iadd, 1) := by decide +kernel
theorem dL_law_580 : decode cL_law 580 = .ok (.iaload, 1) := by decide +kernel
theorem dL_law_581 : decode cL_law 581 = .ok (.aload_n 0, 1) := by decide +kernel
theorem dL_law_582 : decode cL_law 582 = .ok (.iload_n 3, 1) := by decide +kernel
theorem dL_law_583 : decode cL_law 583 = .ok (.iconst 2, 1) := by decide +kernel
theorem dL_law_584 : decode cL_law 584 = .ok (.iadd, 1) := by decide +kernel
theorem dL_law_585 : decode cL_law 585 = .ok (.iaload, 1) := by decide +kernel
theorem dL_law_586 : decode cL_law 586 = .ok (.invokevirtual 68, 3) := by decide +kernel
theorem dL_law_589 : decode cL_law 589 = .ok (.if_icmp .eq 493, 3) := by decide +kernel
theorem dL_law_592 : decode cL_law 592 = .ok (.iconst 0, 1) := by decide +kernel
theorem dL_law_593 : decode cL_law 593 = .ok (.ireturn, 1) := by decide +kernel
theorem dL_law_594 : decode cL_law 594 = .ok (.aload_n 1, 1) := by decide +kernel
theorem dL_law_595 : decode cL_law 595 = .ok (.aload_n 0, 1) := by decide +kernel
theorem dL_law_596 : decode cL_law 596 = .ok (.iload_n 3, 1) := by decide +kernel
theorem dL_law_597 : decode cL_law 597 = .ok (.iconst 1, 1) := by decide +kernel
theorem dL_law_598 : decode cL_law 598 = .ok (.iadd, 1) := by decide +kernel
theorem dL_law_599 : decode cL_law 599 = .ok (.iaload, 1) := by decide +kernel
theorem dL_law_600 : decode cL_law 600 = .ok (.aload_n 0, 1) := by decide +kernel
theorem dL_law_601 : decode cL_law 601 = .ok (.iload_n 3, 1) := by decide +kernel
theorem dL_law_602 : decode cL_law 602 = .ok (.iconst 2, 1) := by decide +kernel
theorem dL_law_603 : decode cL_law 603 = .ok (.iadd, 1) := by decide +kernel
theorem dL_law_604 : decode cL_law 604 = .ok (.iaload, 1) := by decide +kernel
theorem dL_law_605 : decode cL_law 605 = .ok (.invokevirtual 69, 3) := by decide +kernel
theorem dL_law_608 : decode cL_law 608 = .ok (.aload_n 2, 1) := by decide +kernel
theorem dL_law_609 : decode cL_law 609 = .ok (.aload_n 0, 1) := by decide +kernel
theorem dL_law_610 : decode cL_law 610 = .ok (.iload_n 3, 1) := by decide +kernel
theorem dL_law_611 : decode cL_law 611 = .ok (.iconst 1, 1) := by decide +kernel
theorem dL_law_612 : decode cL_law 612 = .ok (.iadd, 1) := by decide +kernel
theorem dL_law_613 : decode cL_law 613 = .ok (.iaload, 1) := by decide +kernel
theorem dL_law_614 : decode cL_law 614 = .ok (.aload_n 0, 1) := by decide +kernel
theorem dL_law_615 : decode cL_law 615 = .ok (.iload_n 3, 1) := by decide +kernel
theorem dL_law_616 : decode cL_law 616 = .ok (.iconst 2, 1) := by decide +kernel
theorem dL_law_617 : decode cL_law 617 = .ok (.iadd, 1) := by decide +kernel
theorem dL_law_618 : decode cL_law 618 = .ok (.iaload, 1) := by decide +kernel
theorem dL_law_619 : decode cL_law 619 = .ok (.invokevirtual 72, 3) := by decide +kernel
theorem dL_law_622 : decode cL_law 622 = .ok (.if_icmp .eq 460, 3) := by decide +kernel
theorem dL_law_625 : decode cL_law 625 = .ok (.iconst 0, 1) := by decide +kernel
theorem dL_law_626 : decode cL_law 626 = .ok (.ireturn, 1) := by decide +kernel
theorem dL_law_627 : decode cL_law 627 = .ok (.aload_n 1, 1) := by decide +kernel
theorem dL_law_628 : decode cL_law 628 = .ok (.aload_n 0, 1) := by decide +kernel
theorem dL_law_629 : decode cL_law 629 = .ok (.iload_n 3, 1) := by decide +kernel
theorem dL_law_630 : decode cL_law 630 = .ok (.iconst 1, 1) := by decide +kernel
theorem dL_law_631 : decode cL_law 631 = .ok (.iadd, 1) := by decide +kernel
theorem dL_law_632 : decode cL_law 632 = .ok (.iaload, 1) := by decide +kernel
theorem dL_law_633 : decode cL_law 633 = .ok (.aload_n 0, 1) := by decide +kernel
theorem dL_law_634 : decode cL_law 634 = .ok (.iload_n 3, 1) := by decide +kernel
theorem dL_law_635 : decode cL_law 635 = .ok (.iconst 2, 1) := by decide +kernel
theorem dL_law_636 : decode cL_law 636 = .ok (.iadd, 1) := by decide +kernel
theorem dL_law_637 : decode cL_law 637 = .ok (.iaload, 1) := by decide +kernel
theorem dL_law_638 : decode cL_law 638 = .ok (.invokevirtual 73, 3) := by decide +kernel
theorem dL_law_641 : decode cL_law 641 = .ok (.aload_n 2, 1) := by decide +kernel
theorem dL_law_642 : decode cL_law 642 = .ok (.aload_n 0, 1) := by decide +kernel
theorem dL_law_643 : decode cL_law 643 = .ok (.iload_n 3, 1) := by decide +kernel
theorem dL_law_644 : decode cL_law 644 = .ok (.iconst 1, 1) := by decide +kernel
theorem dL_law_645 : decode cL_law 645 = .ok (.iadd, 1) := by decide +kernel
theorem dL_law_646 : decode cL_law 646 = .ok (.iaload, 1) := by decide +kernel
theorem dL_law_647 : decode cL_law 647 = .ok (.aload_n 0, 1) := by decide +kernel
theorem dL_law_648 : decode cL_law 648 = .ok (.iload_n 3, 1) := by decide +kernel
theorem dL_law_649 : decode cL_law 649 = .ok (.iconst 2, 1) := by decide +kernel
theorem dL_law_650 : decode cL_law 650 = .ok (.iadd, 1) := by decide +kernel
theorem dL_law_651 : decode cL_law 651 = .ok (.iaload, 1) := by decide +kernel
theorem dL_law_652 : decode cL_law 652 = .ok (.invokevirtual 76, 3) := by decide +kernel
theorem dL_law_655 : decode cL_law 655 = .ok (.if_icmp .eq 427, 3) := by decide +kernel
theorem dL_law_658 : decode cL_law 658 = .ok (.iconst 0, 1) := by decide +kernel
theorem dL_law_659 : decode cL_law 659 = .ok (.ireturn, 1) := by decide +kernel
theorem dL_law_660 : decode cL_law 660 = .ok (.aload_n 1, 1) := by decide +kernel
theorem dL_law_661 : decode cL_law 661 = .ok (.aload_n 0, 1) := by decide +kernel
theorem dL_law_662 : decode cL_law 662 = .ok (.iload_n 3, 1) := by decide +kernel
theorem dL_law_663 : decode cL_law 663 = .ok (.iconst 1, 1) := by decide +kernel
theorem dL_law_664 : decode cL_law 664 = .ok (.iadd, 1) := by decide +kernel
theorem dL_law_665 : decode cL_law 665 = .ok (.iaload, 1) := by decide +kernel
theorem dL_law_666 : decode cL_law 666 = .ok (.aload_n 0, 1) := by decide +kernel
theorem dL_law_667 : decode cL_law 667 = .ok (.iload_n 3, 1) := by decide +kernel
theorem dL_law_668 : decode cL_law 668 = .ok (.iconst 2, 1) := by decide +kernel
theorem dL_law_669 : decode cL_law 669 = .ok (.iadd, 1) := by decide +kernel
theorem dL_law_670 : decode cL_law 670 = .ok (.iaload, 1) := by decide +kernel
theorem dL_law_671 : decode cL_law 671 = .ok (.aload_n 0, 1) := by decide +kernel
theorem dL_law_672 : decode cL_law 672 = .ok (.iload_n 3, 1) := by decide +kernel
theorem dL_law_673 : decode cL_law 673 = .ok (.iconst 3, 1) := by decide +kernel
theorem dL_law_674 : decode cL_law 674 = .ok (.iadd, 1) := by decide +kernel
theorem dL_law_675 : decode cL_law 675 = .ok (.iaload, 1) := by decide +kernel
theorem dL_law_676 : decode cL_law 676 = .ok (.invokevirtual 77, 3) := by decide +kernel
theorem dL_law_679 : decode cL_law 679 = .ok (.aload_n 2, 1) := by decide +kernel
theorem dL_law_680 : decode cL_law 680 = .ok (.aload_n 0, 1) := by decide +kernel
theorem dL_law_681 : decode cL_law 681 = .ok (.iload_n 3, 1) := by decide +kernel
theorem dL_law_682 : decode cL_law 682 = .ok (.iconst 1, 1) := by decide +kernel
theorem dL_law_683 : decode cL_law 683 = .ok (.iadd, 1) := by decide +kernel
theorem dL_law_684 : decode cL_law 684 = .ok (.iaload, 1) := by decide +kernel
theorem dL_law_685 : decode cL_law 685 = .ok (.aload_n 0, 1) := by decide +kernel
theorem dL_law_686 : decode cL_law 686 = .ok (.iload_n 3, 1) := by decide +kernel
theorem dL_law_687 : decode cL_law 687 = .ok (.iconst 2, 1) := by decide +kernel
theorem dL_law_688 : decode cL_law 688 = .ok (.iadd, 1) := by decide +kernel
theorem dL_law_689 : decode cL_law 689 = .ok (.iaload, 1) := by decide +kernel
theorem dL_law_690 : decode cL_law 690 = .ok (.aload_n 0, 1) := by decide +kernel
theorem dL_law_691 : decode cL_law 691 = .ok (.iload_n 3, 1) := by decide +kernel
theorem dL_law_692 : decode cL_law 692 = .ok (.iconst 3, 1) := by decide +kernel
theorem dL_law_693 : decode cL_law 693 = .ok (.iadd, 1) := by decide +kernel
theorem dL_law_694 : decode cL_law 694 = .ok (.iaload, 1) := by decide +kernel
theorem dL_law_695 : decode cL_law 695 = .ok (.invokevirtual 80, 3) := by decide +kernel
theorem dL_law_698 : decode cL_law 698 = .ok (.if_icmp .eq 384, 3) := by decide +kernel
theorem dL_law_701 : decode cL_law 701 = .ok (.iconst 0, 1) := by decide +kernel
theorem dL_law_702 : decode cL_law 702 = .ok (.ireturn, 1) := by decide +kernel
theorem dL_law_703 : decode cL_law 703 = .ok (.aload_n 1, 1) := by decide +kernel
theorem dL_law_704 : decode cL_law 704 = .ok (.aload_n 0, 1) := by decide +kernel
theorem dL_law_705 : decode cL_law 705 = .ok (.iload_n 3, 1) := by decide +kernel
theorem dL_law_706 : decode cL_law 706 = .ok (.iconst 1, 1) := by decide +kernel
theorem dL_law_707 : decode cL_law 707 = .ok (.iadd, 1) := by decide +kernel
theorem dL_law_708 : decode cL_law 708 = .ok (.iaload, 1) := by decide +kernel
theorem dL_law_709 : decode cL_law 709 = .ok (.aload_n 0, 1) := by decide +kernel
theorem dL_law_710 : decode cL_law 710 = .ok (.iload_n 3, 1) := by decide +kernel
theorem dL_law_711 : decode cL_law 711 = .ok (.iconst 2, 1) := by decide +kernel
theorem dL_law_712 : decode cL_law 712 = .ok (.iadd, 1) := by decide +kernel
theorem dL_law_713 : decode cL_law 713 = .ok (.iaload, 1) := by decide +kernel
theorem dL_law_714 : decode cL_law 714 = .ok (.invokevirtual 81, 3) := by decide +kernel
theorem dL_law_717 : decode cL_law 717 = .ok (.aload_n 2, 1) := by decide +kernel
theorem dL_law_718 : decode cL_law 718 = .ok (.aload_n 0, 1) := by decide +kernel
theorem dL_law_719 : decode cL_law 719 = .ok (.iload_n 3, 1) := by decide +kernel
theorem dL_law_720 : decode cL_law 720 = .ok (.iconst 1, 1) := by decide +kernel
theorem dL_law_721 : decode cL_law 721 = .ok (.iadd, 1) := by decide +kernel
theorem dL_law_722 : decode cL_law 722 = .ok (.iaload, 1) := by decide +kernel
theorem dL_law_723 : decode cL_law 723 = .ok (.aload_n 0, 1) := by decide +kernel
theorem dL_law_724 : decode cL_law 724 = .ok (.iload_n 3, 1) := by decide +kernel
theorem dL_law_725 : decode cL_law 725 = .ok (.iconst 2, 1) := by decide +kernel
theorem dL_law_726 : decode cL_law 726 = .ok (.iadd, 1) := by decide +kernel
theorem dL_law_727 : decode cL_law 727 = .ok (.iaload, 1) := by decide +kernel
theorem dL_law_728 : decode cL_law 728 = .ok (.invokevirtual 84, 3) := by decide +kernel
theorem dL_law_731 : decode cL_law 731 = .ok (.lcmp, 1) := by decide +kernel
theorem dL_law_732 : decode cL_law 732 = .ok (.ifCond .eq 350, 3) := by decide +kernel
theorem dL_law_735 : decode cL_law 735 = .ok (.iconst 0, 1) := by decide +kernel
theorem dL_law_736 : decode cL_law 736 = .ok (.ireturn, 1) := by decide +kernel
theorem dL_law_737 : decode cL_law 737 = .ok (.aload_n 1, 1) := by decide +kernel
theorem dL_law_738 : decode cL_law 738 = .ok (.aload_n 0, 1) := by decide +kernel
theorem dL_law_739 : decode cL_law 739 = .ok (.iload_n 3, 1) := by decide +kernel
theorem dL_law_740 : decode cL_law 740 = .ok (.iconst 1, 1) := by decide +kernel
theorem dL_law_741 : decode cL_law 741 = .ok (.iadd, 1) := by decide +kernel
theorem dL_law_742 : decode cL_law 742 = .ok (.iaload, 1) := by decide +kernel
theorem dL_law_743 : decode cL_law 743 = .ok (.aload_n 0, 1) := by decide +kernel
theorem dL_law_744 : decode cL_law 744 = .ok (.iload_n 3, 1) := by decide +kernel
theorem dL_law_745 : decode cL_law 745 = .ok (.iconst 2, 1) := by decide +kernel
theorem dL_law_746 : decode cL_law 746 = .ok (.iadd, 1) := by decide +kernel
theorem dL_law_747 : decode cL_law 747 = .ok (.iaload, 1) := by decide +kernel
theorem dL_law_748 : decode cL_law 748 = .ok (.invokevirtual 85, 3) := by decide +kernel
theorem dL_law_751 : decode cL_law 751 = .ok (.aload_n 2, 1) := by decide +kernel
theorem dL_law_752 : decode cL_law 752 = .ok (.aload_n 0, 1) := by decide +kernel
theorem dL_law_753 : decode cL_law 753 = .ok (.iload_n 3, 1) := by decide +kernel
theorem dL_law_754 : decode cL_law 754 = .ok (.iconst 1, 1) := by decide +kernel
theorem dL_law_755 : decode cL_law 755 = .ok (.iadd, 1) := by decide +kernel
theorem dL_law_756 : decode cL_law 756 = .ok (.iaload, 1) := by decide +kernel
theorem dL_law_757 : decode cL_law 757 = .ok (.aload_n 0, 1) := by decide +kernel
theorem dL_law_758 : decode cL_law 758 = .ok (.iload_n 3, 1) := by decide +kernel
theorem dL_law_759 : decode cL_law 759 = .ok (.iconst 2, 1) := by decide +kernel
theorem dL_law_760 : decode cL_law 760 = .ok (.iadd, 1) := by decide +kernel
theorem dL_law_761 : decode cL_law 761 = .ok (.iaload, 1) := by decide +kernel
theorem dL_law_762 : decode cL_law 762 = .ok (.invokevirtual 88, 3) := by decide +kernel
theorem dL_law_765 : decode cL_law 765 = .ok (.lcmp, 1) := by decide +kernel
theorem dL_law_766 : decode cL_law 766 = .ok (.ifCond .eq 316, 3) := by decide +kernel
theorem dL_law_769 : decode cL_law 769 = .ok (.iconst 0, 1) := by decide +kernel
theorem dL_law_770 : decode cL_law 770 = .ok (.ireturn, 1) := by decide +kernel
theorem dL_law_771 : decode cL_law 771 = .ok (.aload_n 1, 1) := by decide +kernel
theorem dL_law_772 : decode cL_law 772 = .ok (.aload_n 0, 1) := by decide +kernel
theorem dL_law_773 : decode cL_law 773 = .ok (.iload_n 3, 1) := by decide +kernel
theorem dL_law_774 : decode cL_law 774 = .ok (.iconst 1, 1) := by decide +kernel
theorem dL_law_775 : decode cL_law 775 = .ok (.iadd, 1) := by decide +kernel
theorem dL_law_776 : decode cL_law 776 = .ok (.iaload, 1) := by decide +kernel
theorem dL_law_777 : decode cL_law 777 = .ok (.aload_n 0, 1) := by decide +kernel
theorem dL_law_778 : decode cL_law 778 = .ok (.iload_n 3, 1) := by decide +kernel
theorem dL_law_779 : decode cL_law 779 = .ok (.iconst 2, 1) := by decide +kernel
theorem dL_law_780 : decode cL_law 780 = .ok (.iadd, 1) := by decide +kernel
theorem dL_law_781 : decode cL_law 781 = .ok (.iaload, 1) := by decide +kernel
theorem dL_law_782 : decode cL_law 782 = .ok (.invokevirtual 89, 3) := by decide +kernel
theorem dL_law_785 : decode cL_law 785 = .ok (.aload_n 2, 1) := by decide +kernel
theorem dL_law_786 : decode cL_law 786 = .ok (.aload_n 0, 1) := by decide +kernel
theorem dL_law_787 : decode cL_law 787 = .ok (.iload_n 3, 1) := by decide +kernel
theorem dL_law_788 : decode cL_law 788 = .ok (.iconst 1, 1) := by decide +kernel
theorem dL_law_789 : decode cL_law 789 = .ok (.iadd, 1) := by decide +kernel
theorem dL_law_790 : decode cL_law 790 = .ok (.iaload, 1) := by decide +kernel
theorem dL_law_791 : decode cL_law 791 = .ok (.aload_n 0, 1) := by decide +kernel
theorem dL_law_792 : decode cL_law 792 = .ok (.iload_n 3, 1) := by decide +kernel
theorem dL_law_793 : decode cL_law 793 = .ok (.iconst 2, 1) := by decide +kernel
theorem dL_law_794 : decode cL_law 794 = .ok (.iadd, 1) := by decide +kernel
theorem dL_law_795 : decode cL_law 795 = .ok (.iaload, 1) := by decide +kernel
theorem dL_law_796 : decode cL_law 796 = .ok (.invokevirtual 92, 3) := by decide +kernel
theorem dL_law_799 : decode cL_law 799 = .ok (.if_icmp .eq 283, 3) := by decide +kernel
theorem dL_law_802 : decode cL_law 802 = .ok (.iconst 0, 1) := by decide +kernel
theorem dL_law_803 : decode cL_law 803 = .ok (.ireturn, 1) := by decide +kernel
theorem dL_law_804 : decode cL_law 804 = .ok (.aload_n 1, 1) := by decide +kernel
theorem dL_law_805 : decode cL_law 805 = .ok (.aload_n 0, 1) := by decide +kernel
theorem dL_law_806 : decode cL_law 806 = .ok (.iload_n 3, 1) := by decide +kernel
theorem dL_law_807 : decode cL_law 807 = .ok (.iconst 1, 1) := by decide +kernel
theorem dL_law_808 : decode cL_law 808 = .ok (.iadd, 1) := by decide +kernel
theorem dL_law_809 : decode cL_law 809 = .ok (.iaload, 1) := by decide +kernel
theorem dL_law_810 : decode cL_law 810 = .ok (.aload_n 0, 1) := by decide +kernel
theorem dL_law_811 : decode cL_law 811 = .ok (.iload_n 3, 1) := by decide +kernel
theorem dL_law_812 : decode cL_law 812 = .ok (.iconst 2, 1) := by decide +kernel
theorem dL_law_813 : decode cL_law 813 = .ok (.iadd, 1) := by decide +kernel
theorem dL_law_814 : decode cL_law 814 = .ok (.iaload, 1) := by decide +kernel
theorem dL_law_815 : decode cL_law 815 = .ok (.aload_n 0, 1) := by decide +kernel
theorem dL_law_816 : decode cL_law 816 = .ok (.iload_n 3, 1) := by decide +kernel
theorem dL_law_817 : decode cL_law 817 = .ok (.iconst 3, 1) := by decide +kernel
theorem dL_law_818 : decode cL_law 818 = .ok (.iadd, 1) := by decide +kernel
theorem dL_law_819 : decode cL_law 819 = .ok (.iaload, 1) := by decide +kernel
theorem dL_law_820 : decode cL_law 820 = .ok (.aload_n 0, 1) := by decide +kernel
theorem dL_law_821 : decode cL_law 821 = .ok (.iload_n 3, 1) := by decide +kernel
theorem dL_law_822 : decode cL_law 822 = .ok (.iconst 4, 1) := by decide +kernel
theorem dL_law_823 : decode cL_law 823 = .ok (.iadd, 1) := by decide +kernel
theorem dL_law_824 : decode cL_law 824 = .ok (.iaload, 1) := by decide +kernel
theorem dL_law_825 : decode cL_law 825 = .ok (.aload_n 0, 1) := by decide +kernel
theorem dL_law_826 : decode cL_law 826 = .ok (.iload_n 3, 1) := by decide +kernel
theorem dL_law_827 : decode cL_law 827 = .ok (.iconst 5, 1) := by decide +kernel
theorem dL_law_828 : decode cL_law 828 = .ok (.iadd, 1) := by decide +kernel
theorem dL_law_829 : decode cL_law 829 = .ok (.iaload, 1) := by decide +kernel
theorem dL_law_830 : decode cL_law 830 = .ok (.invokevirtual 93, 3) := by decide +kernel
theorem dL_law_833 : decode cL_law 833 = .ok (.aload_n 2, 1) := by decide +kernel
theorem dL_law_834 : decode cL_law 834 = .ok (.aload_n 0, 1) := by decide +kernel
theorem dL_law_835 : decode cL_law 835 = .ok (.iload_n 3, 1) := by decide +kernel
theorem dL_law_836 : decode cL_law 836 = .ok (.iconst 1, 1) := by decide +kernel
theorem dL_law_837 : decode cL_law 837 = .ok (.iadd, 1) := by decide +kernel
theorem dL_law_838 : decode cL_law 838 = .ok (.iaload, 1) := by decide +kernel
theorem dL_law_839 : decode cL_law 839 = .ok (.aload_n 0, 1) := by decide +kernel
theorem dL_law_840 : decode cL_law 840 = .ok (.iload_n 3, 1) := by decide +kernel
theorem dL_law_841 : decode cL_law 841 = .ok (.iconst 2, 1) := by decide +kernel
theorem dL_law_842 : decode cL_law 842 = .ok (.iadd, 1) := by decide +kernel
theorem dL_law_843 : decode cL_law 843 = .ok (.iaload, 1) := by decide +kernel
theorem dL_law_844 : decode cL_law 844 = .ok (.aload_n 0, 1) := by decide +kernel
theorem dL_law_845 : decode cL_law 845 = .ok (.iload_n 3, 1) := by decide +kernel
theorem dL_law_846 : decode cL_law 846 = .ok (.iconst 3, 1) := by decide +kernel
theorem dL_law_847 : decode cL_law 847 = .ok (.iadd, 1) := by decide +kernel
theorem dL_law_848 : decode cL_law 848 = .ok (.iaload, 1) := by decide +kernel
theorem dL_law_849 : decode cL_law 849 = .ok (.aload_n 0, 1) := by decide +kernel
theorem dL_law_850 : decode cL_law 850 = .ok (.iload_n 3, 1) := by decide +kernel
theorem dL_law_851 : decode cL_law 851 = .ok (.iconst 4, 1) := by decide +kernel
theorem dL_law_852 : decode cL_law 852 = .ok (.iadd, 1) := by decide +kernel
theorem dL_law_853 : decode cL_law 853 = .ok (.iaload, 1) := by decide +kernel
theorem dL_law_854 : decode cL_law 854 = .ok (.aload_n 0, 1) := by decide +kernel
theorem dL_law_855 : decode cL_law 855 = .ok (.iload_n 3, 1) := by decide +kernel
theorem dL_law_856 : decode cL_law 856 = .ok (.iconst 5, 1) := by decide +kernel
theorem dL_law_857 : decode cL_law 857 = .ok (.iadd, 1) := by decide +kernel
theorem dL_law_858 : decode cL_law 858 = .ok (.iaload, 1) := by decide +kernel
theorem dL_law_859 : decode cL_law 859 = .ok (.invokevirtual 96, 3) := by decide +kernel
theorem dL_law_862 : decode cL_law 862 = .ok (.if_icmp .eq 220, 3) := by decide +kernel
theorem dL_law_865 : decode cL_law 865 = .ok (.iconst 0, 1) := by decide +kernel
theorem dL_law_866 : decode cL_law 866 = .ok (.ireturn, 1) := by decide +kernel
theorem dL_law_867 : decode cL_law 867 = .ok (.aload_n 1, 1) := by decide +kernel
theorem dL_law_868 : decode cL_law 868 = .ok (.aload_n 0, 1) := by decide +kernel
theorem dL_law_869 : decode cL_law 869 = .ok (.iload_n 3, 1) := by decide +kernel
theorem dL_law_870 : decode cL_law 870 = .ok (.iconst 1, 1) := by decide +kernel
theorem dL_law_871 : decode cL_law 871 = .ok (.iadd, 1) := by decide +kernel
theorem dL_law_872 : decode cL_law 872 = .ok (.iaload, 1) := by decide +kernel
theorem dL_law_873 : decode cL_law 873 = .ok (.aload_n 0, 1) := by decide +kernel
theorem dL_law_874 : decode cL_law 874 = .ok (.iload_n 3, 1) := by decide +kernel
theorem dL_law_875 : decode cL_law 875 = .ok (.iconst 2, 1) := by decide +kernel
theorem dL_law_876 : decode cL_law 876 = .ok (.iadd, 1) := by decide +kernel
theorem dL_law_877 : decode cL_law 877 = .ok (.iaload, 1) := by decide +kernel
theorem dL_law_878 : decode cL_law 878 = .ok (.aload_n 0, 1) := by decide +kernel
theorem dL_law_879 : decode cL_law 879 = .ok (.iload_n 3, 1) := by decide +kernel
theorem dL_law_880 : decode cL_law 880 = .ok (.iconst 3, 1) := by decide +kernel
theorem dL_law_881 : decode cL_law 881 = .ok (.iadd, 1) := by decide +kernel
theorem dL_law_882 : decode cL_law 882 = .ok (.iaload, 1) := by decide +kernel
theorem dL_law_883 : decode cL_law 883 = .ok (.aload_n 0, 1) := by decide +kernel
theorem dL_law_884 : decode cL_law 884 = .ok (.iload_n 3, 1) := by decide +kernel
theorem dL_law_885 : decode cL_law 885 = .ok (.iconst 4, 1) := by decide +kernel
theorem dL_law_886 : decode cL_law 886 = .ok (.iadd, 1) := by decide +kernel
theorem dL_law_887 : decode cL_law 887 = .ok (.iaload, 1) := by decide +kernel
theorem dL_law_888 : decode cL_law 888 = .ok (.invokevirtual 97, 3) := by decide +kernel
theorem dL_law_891 : decode cL_law 891 = .ok (.aload_n 2, 1) := by decide +kernel
theorem dL_law_892 : decode cL_law 892 = .ok (.aload_n 0, 1) := by decide +kernel
theorem dL_law_893 : decode cL_law 893 = .ok (.iload_n 3, 1) := by decide +kernel
theorem dL_law_894 : decode cL_law 894 = .ok (.iconst 1, 1) := by decide +kernel
theorem dL_law_895 : decode cL_law 895 = .ok (.iadd, 1) := by decide +kernel
theorem dL_law_896 : decode cL_law 896 = .ok (.iaload, 1) := by decide +kernel
theorem dL_law_897 : decode cL_law 897 = .ok (.aload_n 0, 1) := by decide +kernel
theorem dL_law_898 : decode cL_law 898 = .ok (.iload_n 3, 1) := by decide +kernel
theorem dL_law_899 : decode cL_law 899 = .ok (.iconst 2, 1) := by decide +kernel
theorem dL_law_900 : decode cL_law 900 = .ok (.iadd, 1) := by decide +kernel
theorem dL_law_901 : decode cL_law 901 = .ok (.iaload, 1) := by decide +kernel
theorem dL_law_902 : decode cL_law 902 = .ok (.aload_n 0, 1) := by decide +kernel
theorem dL_law_903 : decode cL_law 903 = .ok (.iload_n 3, 1) := by decide +kernel
theorem dL_law_904 : decode cL_law 904 = .ok (.iconst 3, 1) := by decide +kernel
theorem dL_law_905 : decode cL_law 905 = .ok (.iadd, 1) := by decide +kernel
theorem dL_law_906 : decode cL_law 906 = .ok (.iaload, 1) := by decide +kernel
theorem dL_law_907 : decode cL_law 907 = .ok (.aload_n 0, 1) := by decide +kernel
theorem dL_law_908 : decode cL_law 908 = .ok (.iload_n 3, 1) := by decide +kernel
theorem dL_law_909 : decode cL_law 909 = .ok (.iconst 4, 1) := by decide +kernel
theorem dL_law_910 : decode cL_law 910 = .ok (.iadd, 1) := by decide +kernel
theorem dL_law_911 : decode cL_law 911 = .ok (.iaload, 1) := by decide +kernel
theorem dL_law_912 : decode cL_law 912 = .ok (.invokevirtual 100, 3) := by decide +kernel
theorem dL_law_915 : decode cL_law 915 = .ok (.if_icmp .eq 167, 3) := by decide +kernel
theorem dL_law_918 : decode cL_law 918 = .ok (.iconst 0, 1) := by decide +kernel
theorem dL_law_919 : decode cL_law 919 = .ok (.ireturn, 1) := by decide +kernel
theorem dL_law_920 : decode cL_law 920 = .ok (.aload_n 1, 1) := by decide +kernel
theorem dL_law_921 : decode cL_law 921 = .ok (.aload_n 0, 1) := by decide +kernel
theorem dL_law_922 : decode cL_law 922 = .ok (.iload_n 3, 1) := by decide +kernel
theorem dL_law_923 : decode cL_law 923 = .ok (.iconst 1, 1) := by decide +kernel
theorem dL_law_924 : decode cL_law 924 = .ok (.iadd, 1) := by decide +kernel
theorem dL_law_925 : decode cL_law 925 = .ok (.iaload, 1) := by decide +kernel
theorem dL_law_926 : decode cL_law 926 = .ok (.invokevirtual 101, 3) := by decide +kernel
theorem dL_law_929 : decode cL_law 929 = .ok (.aload_n 2, 1) := by decide +kernel
theorem dL_law_930 : decode cL_law 930 = .ok (.aload_n 0, 1) := by decide +kernel
theorem dL_law_931 : decode cL_law 931 = .ok (.iload_n 3, 1) := by decide +kernel
theorem dL_law_932 : decode cL_law 932 = .ok (.iconst 1, 1) := by decide +kernel
theorem dL_law_933 : decode cL_law 933 = .ok (.iadd, 1) := by decide +kernel
theorem dL_law_934 : decode cL_law 934 = .ok (.iaload, 1) := by decide +kernel
theorem dL_law_935 : decode cL_law 935 = .ok (.invokevirtual 104, 3) := by decide +kernel
theorem dL_law_938 : decode cL_law 938 = .ok (.if_icmp .eq 144, 3) := by decide +kernel
theorem dL_law_941 : decode cL_law 941 = .ok (.iconst 0, 1) := by decide +kernel
theorem dL_law_942 : decode cL_law 942 = .ok (.ireturn, 1) := by decide +kernel
theorem dL_law_943 : decode cL_law 943 = .ok (.aload_n 1, 1) := by decide +kernel
theorem dL_law_944 : decode cL_law 944 = .ok (.invokevirtual 105, 3) := by decide +kernel
theorem dL_law_947 : decode cL_law 947 = .ok (.aload_n 2, 1) := by decide +kernel
theorem dL_law_948 : decode cL_law 948 = .ok (.invokevirtual 108, 3) := by decide +kernel
theorem dL_law_951 : decode cL_law 951 = .ok (.if_icmp .eq 131, 3) := by decide +kernel
theorem dL_law_954 : decode cL_law 954 = .ok (.iconst 0, 1) := by decide +kernel
theorem dL_law_955 : decode cL_law 955 = .ok (.ireturn, 1) := by decide +kernel
theorem dL_law_956 : decode cL_law 956 = .ok (.aload_n 1, 1) := by decide +kernel
theorem dL_law_957 : decode cL_law 957 = .ok (.aload_n 0, 1) := by decide +kernel
theorem dL_law_958 : decode cL_law 958 = .ok (.iload_n 3, 1) := by decide +kernel
theorem dL_law_959 : decode cL_law 959 = .ok (.iconst 1, 1) := by decide +kernel
theorem dL_law_960 : decode cL_law 960 = .ok (.iadd, 1) := by decide +kernel
theorem dL_law_961 : decode cL_law 961 = .ok (.iaload, 1) := by decide +kernel
theorem dL_law_962 : decode cL_law 962 = .ok (.aload_n 0, 1) := by decide +kernel
theorem dL_law_963 : decode cL_law 963 = .ok (.iload_n 3, 1) := by decide +kernel
theorem dL_law_964 : decode cL_law 964 = .ok (.iconst 2, 1) := by decide +kernel
theorem dL_law_965 : decode cL_law 965 = .ok (.iadd, 1) := by decide +kernel
theorem dL_law_966 : decode cL_law 966 = .ok (.iaload, 1) := by decide +kernel
theorem dL_law_967 : decode cL_law 967 = .ok (.aload_n 0, 1) := by decide +kernel
theorem dL_law_968 : decode cL_law 968 = .ok (.iload_n 3, 1) := by decide +kernel
theorem dL_law_969 : decode cL_law 969 = .ok (.iconst 3, 1) := by decide +kernel
theorem dL_law_970 : decode cL_law 970 = .ok (.iadd, 1) := by decide +kernel
theorem dL_law_971 : decode cL_law 971 = .ok (.iaload, 1) := by decide +kernel
theorem dL_law_972 : decode cL_law 972 = .ok (.invokevirtual 109, 3) := by decide +kernel
theorem dL_law_975 : decode cL_law 975 = .ok (.aload_n 2, 1) := by decide +kernel
theorem dL_law_976 : decode cL_law 976 = .ok (.aload_n 0, 1) := by decide +kernel
theorem dL_law_977 : decode cL_law 977 = .ok (.iload_n 3, 1) := by decide +kernel
theorem dL_law_978 : decode cL_law 978 = .ok (.iconst 1, 1) := by decide +kernel
theorem dL_law_979 : decode cL_law 979 = .ok (.iadd, 1) := by decide +kernel
theorem dL_law_980 : decode cL_law 980 = .ok (.iaload, 1) := by decide +kernel
theorem dL_law_981 : decode cL_law 981 = .ok (.aload_n 0, 1) := by decide +kernel
theorem dL_law_982 : decode cL_law 982 = .ok (.iload_n 3, 1) := by decide +kernel
theorem dL_law_983 : decode cL_law 983 = .ok (.iconst 2, 1) := by decide +kernel
theorem dL_law_984 : decode cL_law 984 = .ok (.iadd, 1) := by decide +kernel
theorem dL_law_985 : decode cL_law 985 = .ok (.iaload, 1) := by decide +kernel
theorem dL_law_986 : decode cL_law 986 = .ok (.aload_n 0, 1) := by decide +kernel
theorem dL_law_987 : decode cL_law 987 = .ok (.iload_n 3, 1) := by decide +kernel
theorem dL_law_988 : decode cL_law 988 = .ok (.iconst 3, 1) := by decide +kernel
theorem dL_law_989 : decode cL_law 989 = .ok (.iadd, 1) := by decide +kernel
theorem dL_law_990 : decode cL_law 990 = .ok (.iaload, 1) := by decide +kernel
theorem dL_law_991 : decode cL_law 991 = .ok (.invokevirtual 112, 3) := by decide +kernel
theorem dL_law_994 : decode cL_law 994 = .ok (.if_icmp .eq 88, 3) := by decide +kernel
theorem dL_law_997 : decode cL_law 997 = .ok (.iconst 0, 1) := by decide +kernel
theorem dL_law_998 : decode cL_law 998 = .ok (.ireturn, 1) := by decide +kernel
theorem dL_law_999 : decode cL_law 999 = .ok (.aload_n 1, 1) := by decide +kernel
theorem dL_law_1000 : decode cL_law 1000 = .ok (.aload_n 0, 1) := by decide +kernel
theorem dL_law_1001 : decode cL_law 1001 = .ok (.iload_n 3, 1) := by decide +kernel
theorem dL_law_1002 : decode cL_law 1002 = .ok (.iconst 1, 1) := by decide +kernel
theorem dL_law_1003 : decode cL_law 1003 = .ok (.iadd, 1) := by decide +kernel
theorem dL_law_1004 : decode cL_law 1004 = .ok (.iaload, 1) := by decide +kernel
theorem dL_law_1005 : decode cL_law 1005 = .ok (.aload_n 0, 1) := by decide +kernel
theorem dL_law_1006 : decode cL_law 1006 = .ok (.iload_n 3, 1) := by decide +kernel
theorem dL_law_1007 : decode cL_law 1007 = .ok (.iconst 2, 1) := by decide +kernel
theorem dL_law_1008 : decode cL_law 1008 = .ok (.iadd, 1) := by decide +kernel
theorem dL_law_1009 : decode cL_law 1009 = .ok (.iaload, 1) := by decide +kernel
theorem dL_law_1010 : decode cL_law 1010 = .ok (.invokevirtual 113, 3) := by decide +kernel
theorem dL_law_1013 : decode cL_law 1013 = .ok (.aload_n 2, 1) := by decide +kernel
theorem dL_law_1014 : decode cL_law 1014 = .ok (.aload_n 0, 1) := by decide +kernel
theorem dL_law_1015 : decode cL_law 1015 = .ok (.iload_n 3, 1) := by decide +kernel
theorem dL_law_1016 : decode cL_law 1016 = .ok (.iconst 1, 1) := by decide +kernel
theorem dL_law_1017 : decode cL_law 1017 = .ok (.iadd, 1) := by decide +kernel
theorem dL_law_1018 : decode cL_law 1018 = .ok (.iaload, 1) := by decide +kernel
theorem dL_law_1019 : decode cL_law 1019 = .ok (.aload_n 0, 1) := by decide +kernel
theorem dL_law_1020 : decode cL_law 1020 = .ok (.iload_n 3, 1) := by decide +kernel
theorem dL_law_1021 : decode cL_law 1021 = .ok (.iconst 2, 1) := by decide +kernel
theorem dL_law_1022 : decode cL_law 1022 = .ok (.iadd, 1) := by decide +kernel
theorem dL_law_1023 : decode cL_law 1023 = .ok (.iaload, 1) := by decide +kernel
theorem dL_law_1024 : decode cL_law 1024 = .ok (.invokevirtual 116, 3) := by decide +kernel
theorem dL_law_1027 : decode cL_law 1027 = .ok (.if_icmp .eq 55, 3) := by decide +kernel
theorem dL_law_1030 : decode cL_law 1030 = .ok (.iconst 0, 1) := by decide +kernel
theorem dL_law_1031 : decode cL_law 1031 = .ok (.ireturn, 1) := by decide +kernel
theorem dL_law_1032 : decode cL_law 1032 = .ok (.aload_n 1, 1) := by decide +kernel
theorem dL_law_1033 : decode cL_law 1033 = .ok (.invokevirtual 117, 3) := by decide +kernel
theorem dL_law_1036 : decode cL_law 1036 = .ok (.aload_n 2, 1) := by decide +kernel
theorem dL_law_1037 : decode cL_law 1037 = .ok (.invokevirtual 120, 3) := by decide +kernel
theorem dL_law_1040 : decode cL_law 1040 = .ok (.if_icmp .eq 42, 3) := by decide +kernel
theorem dL_law_1043 : decode cL_law 1043 = .ok (.iconst 0, 1) := by decide +kernel
theorem dL_law_1044 : decode cL_law 1044 = .ok (.ireturn, 1) := by decide +kernel
theorem dL_law_1045 : decode cL_law 1045 = .ok (.aload_n 1, 1) := by decide +kernel
theorem dL_law_1046 : decode cL_law 1046 = .ok (.aload_n 0, 1) := by decide +kernel
theorem dL_law_1047 : decode cL_law 1047 = .ok (.iload_n 3, 1) := by decide +kernel
theorem dL_law_1048 : decode cL_law 1048 = .ok (.iconst 1, 1) := by decide +kernel
theorem dL_law_1049 : decode cL_law 1049 = .ok (.iadd, 1) := by decide +kernel
theorem dL_law_1050 : decode cL_law 1050 = .ok (.iaload, 1) := by decide +kernel
theorem dL_law_1051 : decode cL_law 1051 = .ok (.invokevirtual 121, 3) := by decide +kernel
theorem dL_law_1054 : decode cL_law 1054 = .ok (.aload_n 2, 1) := by decide +kernel
theorem dL_law_1055 : decode cL_law 1055 = .ok (.aload_n 0, 1) := by decide +kernel
theorem dL_law_1056 : decode cL_law 1056 = .ok (.iload_n 3, 1) := by decide +kernel
theorem dL_law_1057 : decode cL_law 1057 = .ok (.iconst 1, 1) := by decide +kernel
theorem dL_law_1058 : decode cL_law 1058 = .ok (.iadd, 1) := by decide +kernel
theorem dL_law_1059 : decode cL_law 1059 = .ok (.iaload, 1) := by decide +kernel
theorem dL_law_1060 : decode cL_law 1060 = .ok (.invokevirtual 124, 3) := by decide +kernel
theorem dL_law_1063 : decode cL_law 1063 = .ok (.if_icmp .eq 19, 3) := by decide +kernel
theorem dL_law_1066 : decode cL_law 1066 = .ok (.iconst 0, 1) := by decide +kernel
theorem dL_law_1067 : decode cL_law 1067 = .ok (.ireturn, 1) := by decide +kernel
theorem dL_law_1068 : decode cL_law 1068 = .ok (.aload_n 1, 1) := by decide +kernel
theorem dL_law_1069 : decode cL_law 1069 = .ok (.invokevirtual 125, 3) := by decide +kernel
theorem dL_law_1072 : decode cL_law 1072 = .ok (.aload_n 2, 1) := by decide +kernel
theorem dL_law_1073 : decode cL_law 1073 = .ok (.invokevirtual 129, 3) := by decide +kernel
theorem dL_law_1076 : decode cL_law 1076 = .ok (.lcmp, 1) := by decide +kernel
theorem dL_law_1077 : decode cL_law 1077 = .ok (.ifCond .eq 5, 3) := by decide +kernel
theorem dL_law_1080 : decode cL_law 1080 = .ok (.iconst 0, 1) := by decide +kernel
theorem dL_law_1081 : decode cL_law 1081 = .ok (.ireturn, 1) := by decide +kernel
theorem dL_law_1082 : decode cL_law 1082 = .ok (.iinc 3 6, 3) := by decide +kernel
theorem dL_law_1085 : decode cL_law 1085 = .ok (.goto (-1067), 3) := by decide +kernel
theorem dL_law_1088 : decode cL_law 1088 = .ok (.iconst 1, 1) := by decide +kernel
theorem dL_law_1089 : decode cL_law 1089 = .ok (.ireturn, 1) := by decide +kernel
end
section
/-! the world by roles: role k stands at the address ad k and holds g k -/
abbrev PF : Type := Nat → va_E
abbrev Cx : Type := va_G × ClassId × ClassId × ClassId
def tyl (X : Cx) : List (ClassId × FieldType) := [(X.2.1, .int), (X.2.2.1, .object RX2), (X.2.2.2, .object RX3)]
def wl (N : Nat) (ad : Nat → Nat) (g : PF) : va_W := (List.range N).map (fun k => (ad k, g k))
def nestM : List (String × Nat × MethodName) := [(RX1, 26, yX0_init), (RX1, 31, yX2_init), (RX5, 22, yX3_init), (RX5, 25, yX4_init), (RX1, 34, yX5_within), (RX3, 17, yX5_within), (RX4, 24, yX5_within)]
def WK (X : Cx) (s : State) : Prop := va_K X.1 vwCl (tyl X) s ∧ ∀ q ∈ nestM, va_Nw (.methodLinkNest q.1 q.2.1 q.2.2 RX5) s
theorem WK.warm {X : Cx} {s U : State} (h : WK X s) (hW : s.WarmedH U.vm) : WK X U := ⟨va_K.moved hW.alike h.1, fun q hq => va_Nw.warmM hW (h.2 q hq)⟩
theorem WK.same {X : Cx} {s U : State} (h : WK X s) (hW : s.vm = U.vm) : WK X U := ⟨va_K.moved (by rw [hW]; exact Vm.Alike.refl U.vm) h.1, fun q hq => va_Nw.same rfl hW (h.2 q hq)⟩
def WP (X : Cx) (N : Nat) (ad : Nat → Nat) (g : PF) (H : Heap) : Prop := va_P X.1 vwCl (wl N ad g) H
def inj (N : Nat) (ad : Nat → Nat) : Prop := ∀ i j, i < N → j < N → ad i = ad j → i = j
def pA (N : Nat) (ad : Nat → Nat) (sz : Nat) : Nat → Prop := fun q => (∃ k, k < N ∧ ad k = q) ∨ sz ≤ q
theorem wl_get {N : Nat} {ad : Nat → Nat} {g : PF} {k : Nat} (h : k < N) : (wl N ad g)[k]? = some (ad k, g k) := by simp [wl, h]
theorem wl_get' {N : Nat} {ad : Nat → Nat} {g : PF} {k : Nat} {e : va_E} (h : k < N) (hg : g k = e) : (wl N ad g)[k]? = some (ad k, e) := by rw [wl_get h, hg]
theorem wl_inv {N : Nat} {ad : Nat → Nat} {g : PF} {k : Nat} {q : Nat × va_E} (h : (wl N ad g)[k]? = some q) : k < N ∧ q = (ad k, g k) := by
  by_cases hk : k < N
  · rw [wl_get hk] at h; exact ⟨hk, (Option.some.inj h).symm⟩
  · have : (wl N ad g)[k]? = none := by simp [wl]; omega
    rw [this] at h; cases h
theorem wl_set {N : Nat} {ad : Nat → Nat} {g : PF} {k : Nat} (h : k < N) (e : va_E) : (wl N ad g).set k (ad k, e) = wl N ad (va_up g k e) := by
  apply List.ext_getElem?
  intro i
  by_cases hi : i < N
  · rw [wl_get hi, List.getElem?_set]
    by_cases hk : k = i
    · subst hk; simp [wl, h, va_up]
    · rw [if_neg hk, wl_get hi, va_up_ne _ _ (fun e => hk e.symm)]
  · have e1 : (wl N ad (va_up g k e))[i]? = none := by simp [wl]; omega
    rw [e1]; simp [wl]; omega
theorem wl_D {N : Nat} {ad : Nat → Nat} {g : PF} {A : Nat → Prop} (hi : inj N ad) (hA : ∀ k, k < N → A (ad k)) : va_D A (wl N ad g) := by
  refine ⟨fun i j p q h1 h2 e => ?_, fun k q h => ?_⟩
  · obtain ⟨a1, rfl⟩ := wl_inv h1
    obtain ⟨a2, rfl⟩ := wl_inv h2
    exact hi i j a1 a2 e
  · obtain ⟨a1, rfl⟩ := wl_inv h
    exact hA k a1
def WF (X : Cx) (N : Nat) (ad : Nat → Nat) (A : Nat → Prop) (s : State) : Prop := WK X s ∧ inj N ad ∧ (∀ k, k < N → A (ad k)) ∧ ∀ q, s.heap.size ≤ q → A q
def WH (X : Cx) (N : Nat) (ad : Nat → Nat) (A : Nat → Prop) (s : State) (g : PF) (H : Heap) (locs : List Loc) : Prop := WP X N ad g H ∧ va_S A s.heap H locs
def PreW (X : Cx) (N : Nat) (ad : Nat → Nat) (g : PF) (sz : Nat) (av : List Value) : Array Value → State → Prop := va_Pc av (fun U => U.heap.size = sz ∧ WP X N ad g U.heap ∧ WK X U)
theorem PreW.blind {X : Cx} {N : Nat} {ad : Nat → Nat} {g : PF} {sz : Nat} {av : List Value} : FrameBlind (PreW X N ad g sz av) := fun a U gg mk q => by
  obtain ⟨q0, q1, qP, qK⟩ := q
  exact ⟨q0, q1, qP, qK.same (by rfl)⟩
def BW (X : Cx) (N : Nat) (ad : Nat → Nat) (g : PF) (t : State) : Prop := WP X N ad g t.heap
/-- contracts: an int, a long, nothing, a reference or null -/
def Ki (l : Launch) (y : MethodName) (ws : List Cond) (rm : Room) (X : Cx) (N : Nat) (ad : Nat → Nat) (g : PF) (av : List Value) (post : Int32 → PF → Prop) : Prop := ∀ sz : Nat, Met l y ws rm (PreW X N ad g sz av) (va_Qi post (BW X N ad) (pA N ad sz)) 0 0 (pA N ad sz)
def Kl (l : Launch) (y : MethodName) (ws : List Cond) (rm : Room) (X : Cx) (N : Nat) (ad : Nat → Nat) (g : PF) (av : List Value) (post : Int64 → PF → Prop) : Prop := ∀ sz : Nat, Met l y ws rm (PreW X N ad g sz av) (va_Ql post (BW X N ad) (pA N ad sz)) 0 0 (pA N ad sz)
def Kv (l : Launch) (y : MethodName) (ws : List Cond) (rm : Room) (X : Cx) (N : Nat) (ad : Nat → Nat) (g : PF) (av : List Value) (post : PF → Prop) : Prop := ∀ sz : Nat, Met l y ws rm (PreW X N ad g sz av) (va_Qv post (BW X N ad) (pA N ad sz)) 0 0 (pA N ad sz)
def Kq (l : Launch) (y : MethodName) (ws : List Cond) (rm : Room) (X : Cx) (N : Nat) (ad : Nat → Nat) (g : PF) (av : List Value) (post : Option Nat → PF → Prop) : Prop := ∀ sz : Nat, Met l y ws rm (PreW X N ad g sz av) (va_Qq post (BW X N ad) (pA N ad sz)) 0 0 (pA N ad sz)
/-- what stands at a method's entry -/
def ENT (l : Launch) (y : MethodName) (ws : List Cond) (rm : Room) (X : Cx) (N : Nat) (ad : Nat → Nat) (g : PF) (av : List Value) (cc : ByteArray) (maxL : Nat) (p : Program) (e : Env) (s : State) (m : MethodId) (below : List Frame) (meth : Method) (c : Code) : Prop :=
  CallFix p m c cc maxL s av.toArray ws y.cls ∧ WF X N ad (pA N ad s.heap.size) s ∧ WH X N ad (pA N ad s.heap.size) s g s.heap []
theorem ENT.of {l : Launch} {y : MethodName} {ws : List Cond} {rm : Room} {X : Cx} {N : Nat} {ad : Nat → Nat} {g : PF} {av : List Value} {cc : ByteArray} {maxL : Nat} {ret : Option FieldType} {p : Program} {e : Env} {s : State} {m : MethodId} {below : List Frame} {meth : Method} {c : Code} {s₁ : State} {sz : Nat} (hi : inj N ad) (B : BodyLoose p l y (headSpec ws rm) cc maxL ret e s m av.toArray below meth c s₁) (hml : c.maxLocals = maxL) (hsz : s.heap.size = sz) (hP : WP X N ad g s.heap) (hK : WK X s) : ENT l y ws rm X N ad g av cc maxL p e s m below meth c := by
  refine ⟨⟨B.exec, B.bytes, hml, findClass_of_methodNamed B.named, atoms_spec (ws := ws) B.pre⟩, ⟨hK, hi, fun k hk => Or.inl ⟨k, hk, rfl⟩, fun q hq => Or.inr hq⟩, hP, va_S.rf⟩
theorem Ki.of {l : Launch} {y : MethodName} {ws ws' : List Cond} {rm : Room} {X : Cx} {N : Nat} {ad : Nat → Nat} {g : PF} {av : List Value} {post : Int32 → PF → Prop} {cc : ByteArray} {maxL : Nat} {ty : FieldType} (hi : inj N ad) (hy : plainName y.cls = true) (hw : ws = Cond.code y cc maxL (some ty) :: ws') (hsl : (lg_sl av).length ≤ maxL)
    (body : ∀ (p : Program) (e : Env) (s : State) (m : MethodId) (below : List Frame) (meth : Method) (c : Code) (Q : State → Prop), ENT l y ws rm X N ad g av cc maxL p e s m below meth c →
      (∀ (pc : Nat) (r : Int32) (g' : PF) (H : Heap) (locs : List Loc) (ls : Array Slot), decode cc pc = .ok (.ireturn, 1) → narrow ty (.int r) = .int r → post r g' → WH X N ad (pA N ad s.heap.size) s g' H locs → W p l e rm s m av.toArray below meth c H locs 0 0 Q (F0 m pc ls [.int r])) →
      ∀ ls : Array Slot, lv_has ls maxL (lv_args 0 av) → W p l e rm s m av.toArray below meth c s.heap [] 0 0 Q (F0 m 0 ls [])) : Ki l y ws rm X N ad g av post := by
  intro sz
  refine Met.ofW (cc := cc) (maxL := maxL) (ret := some ty) hy hw ?_
  intro p e s m args below meth c s₁ B hml hv
  obtain ⟨rfl, hsz, hP, hK⟩ := hv
  have E := ENT.of hi B hml hsz hP hK
  subst hsz
  have hlocks := B.notSynchronized
  rw [lg_entry_eq]
  refine body p e s m below meth c _ E (fun pc r g' H locs ls hd hn hp hH => ?_) _ (lv_entry av hsl)
  exact W.zret (v := r) E.1.1 E.1.2.1 B.returns hn (fun t ht hW => ⟨⟨r, g', rfl, hp, by show WP X N ad g' t.heap; rw [ht]; exact hH.1⟩, hH.2.F ht⟩) hH.2.2.2 hd
theorem Kl.of {l : Launch} {y : MethodName} {ws ws' : List Cond} {rm : Room} {X : Cx} {N : Nat} {ad : Nat → Nat} {g : PF} {av : List Value} {post : Int64 → PF → Prop} {cc : ByteArray} {maxL : Nat} (hi : inj N ad) (hy : plainName y.cls = true) (hw : ws = Cond.code y cc maxL (some .long) :: ws') (hsl : (lg_sl av).length ≤ maxL)
    (body : ∀ (p : Program) (e : Env) (s : State) (m : MethodId) (below : List Frame) (meth : Method) (c : Code) (Q : State → Prop), ENT l y ws rm X N ad g av cc maxL p e s m below meth c →
      (∀ (pc : Nat) (r : Int64) (g' : PF) (H : Heap) (locs : List Loc) (ls : Array Slot), decode cc pc = .ok (.lreturn, 1) → post r g' → WH X N ad (pA N ad s.heap.size) s g' H locs → W p l e rm s m av.toArray below meth c H locs 0 0 Q (F0 m pc ls [.long r])) →
      ∀ ls : Array Slot, lv_has ls maxL (lv_args 0 av) → W p l e rm s m av.toArray below meth c s.heap [] 0 0 Q (F0 m 0 ls [])) : Kl l y ws rm X N ad g av post := by
  intro sz
  refine Met.ofW (cc := cc) (maxL := maxL) (ret := some .long) hy hw ?_
  intro p e s m args below meth c s₁ B hml hv
  obtain ⟨rfl, hsz, hP, hK⟩ := hv
  have E := ENT.of hi B hml hsz hP hK
  subst hsz
  have hlocks := B.notSynchronized
  rw [lg_entry_eq]
  refine body p e s m below meth c _ E (fun pc r g' H locs ls hd hp hH => ?_) _ (lv_entry av hsl)
  exact W.lret (v := r) E.1.1 E.1.2.1 B.returns (fun t ht hW => ⟨⟨r, g', rfl, hp, by show WP X N ad g' t.heap; rw [ht]; exact hH.1⟩, hH.2.F ht⟩) hH.2.2.2 hd
theorem Kv.of {l : Launch} {y : MethodName} {ws ws' : List Cond} {rm : Room} {X : Cx} {N : Nat} {ad : Nat → Nat} {g : PF} {av : List Value} {post : PF → Prop} {cc : ByteArray} {maxL : Nat} (hi : inj N ad) (hy : plainName y.cls = true) (hw : ws = Cond.code y cc maxL none :: ws') (hsl : (lg_sl av).length ≤ maxL)
    (body : ∀ (p : Program) (e : Env) (s : State) (m : MethodId) (below : List Frame) (meth : Method) (c : Code) (Q : State → Prop), ENT l y ws rm X N ad g av cc maxL p e s m below meth c →
      (∀ (pc : Nat) (g' : PF) (H : Heap) (locs : List Loc) (ls : Array Slot), decode cc pc = .ok (.return_, 1) → post g' → WH X N ad (pA N ad s.heap.size) s g' H locs → W p l e rm s m av.toArray below meth c H locs 0 0 Q (F0 m pc ls [])) →
      ∀ ls : Array Slot, lv_has ls maxL (lv_args 0 av) → W p l e rm s m av.toArray below meth c s.heap [] 0 0 Q (F0 m 0 ls [])) : Kv l y ws rm X N ad g av post := by
  intro sz
  refine Met.ofW (cc := cc) (maxL := maxL) (ret := none) hy hw ?_
  intro p e s m args below meth c s₁ B hml hv
  obtain ⟨rfl, hsz, hP, hK⟩ := hv
  have E := ENT.of hi B hml hsz hP hK
  subst hsz
  have hlocks := B.notSynchronized
  rw [lg_entry_eq]
  refine body p e s m below meth c _ E (fun pc g' H locs ls hd hp hH => ?_) _ (lv_entry av hsl)
  exact W.vret E.1.1 E.1.2.1 B.returns (fun t ht hW => ⟨⟨g', rfl, hp, by show WP X N ad g' t.heap; rw [ht]; exact hH.1⟩, hH.2.F ht⟩) hH.2.2.2 hd
theorem Kq.of {l : Launch} {y : MethodName} {ws ws' : List Cond} {rm : Room} {X : Cx} {N : Nat} {ad : Nat → Nat} {g : PF} {av : List Value} {post : Option Nat → PF → Prop} {cc : ByteArray} {maxL : Nat} {C : String} (hi : inj N ad) (hy : plainName y.cls = true) (hw : ws = Cond.code y cc maxL (some (.object C)) :: ws') (hsl : (lg_sl av).length ≤ maxL)
    (body : ∀ (p : Program) (e : Env) (s : State) (m : MethodId) (below : List Frame) (meth : Method) (c : Code) (Q : State → Prop), ENT l y ws rm X N ad g av cc maxL p e s m below meth c →
      (∀ (pc : Nat) (r : Option Nat) (g' : PF) (H : Heap) (locs : List Loc) (ls : Array Slot), decode cc pc = .ok (.areturn, 1) → post r g' → WH X N ad (pA N ad s.heap.size) s g' H locs → W p l e rm s m av.toArray below meth c H locs 0 0 Q (F0 m pc ls [va_rf r])) →
      ∀ ls : Array Slot, lv_has ls maxL (lv_args 0 av) → W p l e rm s m av.toArray below meth c s.heap [] 0 0 Q (F0 m 0 ls [])) : Kq l y ws rm X N ad g av post := by
  intro sz
  refine Met.ofW (cc := cc) (maxL := maxL) (ret := some (.object C)) hy hw ?_
  intro p e s m args below meth c s₁ B hml hv
  obtain ⟨rfl, hsz, hP, hK⟩ := hv
  have E := ENT.of hi B hml hsz hP hK
  subst hsz
  have hlocks := B.notSynchronized
  rw [lg_entry_eq]
  refine body p e s m below meth c _ E (fun pc r g' H locs ls hd hp hH => ?_) _ (lv_entry av hsl)
  exact W.aret (v := va_rf r) E.1.1 E.1.2.1 B.returns (Or.inl ⟨C, rfl⟩) (va_rf_or r) (fun t ht hW => ⟨⟨r, g', rfl, hp, by show WP X N ad g' t.heap; rw [ht]; exact hH.1⟩, hH.2.F ht⟩) hH.2.2.2 hd
end
section
section YB
variable {p : Program} {l : Launch} {e : Env} {R : Room} {s : State} {m : MethodId} {args : Array Value} {below : List Frame} {meth : Method} {c : Code} {H : Heap} {locs : List Loc} {cells slots : Nat} {Q : State → Prop}
variable {pc : Nat} {ls : Array Slot} {rest : List Value} {cc : ByteArray} {X : Cx} {N : Nat} {ad : Nat → Nat} {g : PF} {A : Nat → Prop} {nL : Nat} {Ts : List Cond} {own : String}
/-- the content of an array of ints, as natural numbers -/
def arr (X : Cx) (n : Nat) (x : Nat → Nat) : va_E := .inl (X.2.1, n, .inl (fun j => nI (x j)))
/-- an array of objects of the k-th kind (1 Machine, 2 Row) -/
def orr (cA : ClassId) (n : Nat) (f : Nat → Option Nat) : va_E := .inl (cA, n, .inr (.inr (.inr (.inr f))))
theorem upd_nI (x : Nat → Nat) (i v : Nat) : upd (fun j => nI (x j)) i (nI v) = fun j => nI (va_up x i v j) := by
  funext j
  simp only [upd, va_up]
  by_cases h : j = i <;> simp [h]
theorem rp_get (C0 : CallFix p m c cc nL s args Ts own) (FX : WF X N ad A s) (hH : WH X N ad A s g H locs) (kr : Nat) (hr : kr < N) {ci k index NN : Nat} {fs : List Value} {v : Value} {C : String} {T : u_T} (hg : g kr = .inr (ci, fs)) (hcl : vwCl[ci]? = some (C, T, NN)) (hin : ∀ w ∈ u_ws C T NN, w ∈ Ts) (hk : k < NN) (hlink : Cond.fieldLink own index (T k).1 (T k).2.1 (T k).2.2.1 ∈ Ts) (hv : fs[k]? = some v) (hdg : decode cc pc = .ok (.getfield index, 3))
    (kk : W p l e R s m args below meth c H locs cells slots Q (F0 m (pc + 3) ls (v :: rest))) : W p l e R s m args below meth c H locs cells slots Q (F0 m pc ls (.ref (ad kr) :: rest)) :=
  va_get C0.1 C0.2.1 C0.2.2.2.2 hin C0.2.2.2.1 FX.1.1 hH.1 kr (wl_get' hr hg) hcl k hk (C0.2.2.2.2 _ hlink) (fun _ h => h) hv hdg kk
theorem rp_put (C0 : CallFix p m c cc nL s args Ts own) (FX : WF X N ad A s) (hH : WH X N ad A s g H locs) (kr : Nat) (hr : kr < N) {ci k index NN : Nat} {fs : List Value} {v : Value} {C : String} {T : u_T} (ty0 : Nat → FieldType) (hty : ∀ k, k < NN → parseFieldDescriptor (T k).2.2.1 = some (ty0 k)) (hnm : ∀ a, a < NN → ∀ b, b < NN → a ≠ b → (T a).2.1 ≠ (T b).2.1) (hg : g kr = .inr (ci, fs)) (hcl : vwCl[ci]? = some (C, T, NN)) (hin : ∀ w ∈ u_ws C T NN, w ∈ Ts) (hk : k < NN) (hlink : Cond.fieldLink own index (T k).1 (T k).2.1 (T k).2.2.1 ∈ Ts) (hfin : (T k).2.2.2 = false) (hn : narrow (ty0 k) v = v) (hfit : fits (ty0 k) v = true) (hl : k < fs.length) (hdg : decode cc pc = .ok (.putfield index, 3))
    (kk : ∀ (g' : PF) (H1 : Heap) (locs1 : List Loc), g' kr = .inr (ci, fs.set k v) → (∀ j, j ≠ kr → g' j = g j) → WH X N ad A s g' H1 locs1 → W p l e R s m args below meth c H1 locs1 cells slots Q (F0 m (pc + 3) ls rest)) : W p l e R s m args below meth c H locs cells slots Q (F0 m pc ls (v :: .ref (ad kr) :: rest)) := by
  refine va_put C0.1 C0.2.1 C0.2.2.2.2 hin ty0 hty hnm C0.2.2.2.1 FX.1.1 hH.1 (wl_D FX.2.1 FX.2.2.1) hH.2 kr (wl_get' hr hg) hcl k hk (C0.2.2.2.2 _ hlink) (fun _ h => h) hfin (hty k hk) hn hfit hl hdg (fun H1 locs1 hP hD hS => ?_)
  rw [wl_set hr] at hP
  exact kk _ H1 locs1 (va_up_self _ _ _) (fun j hj => va_up_ne _ _ hj) ⟨hP, hS⟩
theorem rp_iald (C0 : CallFix p m c cc nL s args Ts own) (FX : WF X N ad A s) (hH : WH X N ad A s g H locs) (kr : Nat) (hr : kr < N) {n v : Nat} {x : Nat → Nat} (hg : g kr = arr X n x) (i : Nat) (hi : i < n) (hn : n < 2 ^ 31) (hv : x i = v) (hdg : decode cc pc = .ok (.iaload, 1))
    (kk : W p l e R s m args below meth c H locs cells slots Q (F0 m (pc + 1) ls (.int (nI v) :: rest))) : W p l e R s m args below meth c H locs cells slots Q (F0 m pc ls (.int (nI i) :: .ref (ad kr) :: rest)) := by
  refine va_iald C0.1 C0.2.1 FX.1.1 hH.1 kr 0 (wl_get' hr hg) rfl (vp_in_nI hi hn) hdg ?_
  rw [nI_clamp (Nat.lt_trans hi hn), hv]
  exact kk
theorem rp_iast (C0 : CallFix p m c cc nL s args Ts own) (FX : WF X N ad A s) (hH : WH X N ad A s g H locs) (kr : Nat) (hr : kr < N) {n : Nat} {x : Nat → Nat} (hg : g kr = arr X n x) (i v : Nat) (hi : i < n) (hn : n < 2 ^ 31) (hdg : decode cc pc = .ok (.iastore, 1))
    (kk : ∀ (g' : PF) (H1 : Heap) (locs1 : List Loc), g' kr = arr X n (va_up x i v) → (∀ j, j ≠ kr → g' j = g j) → WH X N ad A s g' H1 locs1 → W p l e R s m args below meth c H1 locs1 cells slots Q (F0 m (pc + 1) ls rest)) : W p l e R s m args below meth c H locs cells slots Q (F0 m pc ls (.int (nI v) :: .int (nI i) :: .ref (ad kr) :: rest)) := by
  refine va_iast C0.1 C0.2.1 FX.1.1 hH.1 (wl_D FX.2.1 FX.2.2.1) hH.2 kr 0 (wl_get' hr hg) rfl (vp_in_nI hi hn) hdg (fun H1 locs1 hP hD hS => ?_)
  rw [wl_set hr, nI_clamp (Nat.lt_trans hi hn), upd_nI] at hP
  exact kk _ H1 locs1 (va_up_self _ _ _) (fun j hj => va_up_ne _ _ hj) ⟨hP, hS⟩
theorem rp_aald (C0 : CallFix p m c cc nL s args Ts own) (FX : WF X N ad A s) (hH : WH X N ad A s g H locs) (kr t0 : Nat) (hr : kr < N) {cA : ClassId} {C : String} {n : Nat} {f : Nat → Option Nat} (hg : g kr = orr cA n f) (ht : (tyl X)[t0]? = some (cA, .object C)) (i b : Nat) (hi : i < n) (hn : n < 2 ^ 31) (hf : f i = some b) (hdg : decode cc pc = .ok (.aaload, 1))
    (kk : W p l e R s m args below meth c H locs cells slots Q (F0 m (pc + 1) ls (.ref b :: rest))) : W p l e R s m args below meth c H locs cells slots Q (F0 m pc ls (.int (nI i) :: .ref (ad kr) :: rest)) := by
  refine va_aldq C0.1 C0.2.1 FX.1.1 hH.1 kr t0 (wl_get' hr hg) ht (vp_in_nI hi hn) hdg ?_
  rw [nI_clamp (Nat.lt_trans hi hn), hf]
  exact kk
/-! numbers: ints as nI of natural numbers -/
theorem ni_const (hx : p.tables.exec = Jvm.exec) (hb : c.code = cc) {n : Int} (v : Nat) (hdg : decode cc pc = .ok (.iconst n, 1)) (hv : Int32.ofInt n = nI v)
    (k : W p l e R s m args below meth c H locs cells slots Q (F0 m (pc + 1) ls (.int (nI v) :: rest))) : W p l e R s m args below meth c H locs cells slots Q (F0 m pc ls rest) := lv_iconst hx hb hdg hv k
theorem ni_iadd (hx : p.tables.exec = Jvm.exec) (hb : c.code = cc) {a b : Nat} (hdg : decode cc pc = .ok (.iadd, 1))
    (k : W p l e R s m args below meth c H locs cells slots Q (F0 m (pc + 1) ls (.int (nI (a + b)) :: rest))) : W p l e R s m args below meth c H locs cells slots Q (F0 m pc ls (.int (nI b) :: .int (nI a) :: rest)) := lv_iadd hx hb hdg (by rw [nI_add]; exact k)
theorem ni_isub (hx : p.tables.exec = Jvm.exec) (hb : c.code = cc) {a b : Nat} (h : b ≤ a) (hdg : decode cc pc = .ok (.isub, 1))
    (k : W p l e R s m args below meth c H locs cells slots Q (F0 m (pc + 1) ls (.int (nI (a - b)) :: rest))) : W p l e R s m args below meth c H locs cells slots Q (F0 m pc ls (.int (nI b) :: .int (nI a) :: rest)) := lv_isub hx hb hdg (by rw [pk_sub h]; exact k)
theorem ni_imul (hx : p.tables.exec = Jvm.exec) (hb : c.code = cc) {a b : Nat} (hdg : decode cc pc = .ok (.imul, 1))
    (k : W p l e R s m args below meth c H locs cells slots Q (F0 m (pc + 1) ls (.int (nI (a * b)) :: rest))) : W p l e R s m args below meth c H locs cells slots Q (F0 m pc ls (.int (nI b) :: .int (nI a) :: rest)) := lv_imul hx hb hdg (by rw [pk_mul]; exact k)
theorem ni_idiv (hx : p.tables.exec = Jvm.exec) (hb : c.code = cc) {a b : Nat} (ha : a < 2 ^ 31) (h0 : 0 < b) (hb1 : b < 2 ^ 31) (hdg : decode cc pc = .ok (.idiv, 1))
    (k : W p l e R s m args below meth c H locs cells slots Q (F0 m (pc + 1) ls (.int (nI (a / b)) :: rest))) : W p l e R s m args below meth c H locs cells slots Q (F0 m pc ls (.int (nI b) :: .int (nI a) :: rest)) := lv_idiv hx hb hdg (nI_ne0 h0 hb1) (by rw [pk_div ha h0 hb1]; exact k)
theorem ni_irem (hx : p.tables.exec = Jvm.exec) (hb : c.code = cc) {a b : Nat} (ha : a < 2 ^ 31) (h0 : 0 < b) (hb1 : b < 2 ^ 31) (hdg : decode cc pc = .ok (.irem, 1))
    (k : W p l e R s m args below meth c H locs cells slots Q (F0 m (pc + 1) ls (.int (nI (a % b)) :: rest))) : W p l e R s m args below meth c H locs cells slots Q (F0 m pc ls (.int (nI b) :: .int (nI a) :: rest)) := lv_irem hx hb hdg (nI_ne0 h0 hb1) (by rw [pk_rem ha h0 hb1]; exact k)
theorem ni_i2l (hx : p.tables.exec = Jvm.exec) (hb : c.code = cc) {a : Nat} (ha : a < 2 ^ 31) (hdg : decode cc pc = .ok (.i2l, 1))
    (k : W p l e R s m args below meth c H locs cells slots Q (F0 m (pc + 1) ls (.long (lN a) :: rest))) : W p l e R s m args below meth c H locs cells slots Q (F0 m pc ls (.int (nI a) :: rest)) := lv_i2l hx hb hdg (nI_l ha) k
theorem ni_l2i (hx : p.tables.exec = Jvm.exec) (hb : c.code = cc) {a : Nat} (hdg : decode cc pc = .ok (.l2i, 1))
    (k : W p l e R s m args below meth c H locs cells slots Q (F0 m (pc + 1) ls (.int (nI a) :: rest))) : W p l e R s m args below meth c H locs cells slots Q (F0 m pc ls (.long (lN a) :: rest)) := lv_l2i hx hb hdg (lN_i a) k
theorem ni_ladd (hx : p.tables.exec = Jvm.exec) (hb : c.code = cc) {a b : Nat} (hdg : decode cc pc = .ok (.ladd, 1))
    (k : W p l e R s m args below meth c H locs cells slots Q (F0 m (pc + 1) ls (.long (lN (a + b)) :: rest))) : W p l e R s m args below meth c H locs cells slots Q (F0 m pc ls (.long (lN b) :: .long (lN a) :: rest)) := lv_ladd hx hb hdg (by rw [lN_add]; exact k)
theorem ni_lsub (hx : p.tables.exec = Jvm.exec) (hb : c.code = cc) {a b : Nat} (h : b ≤ a) (hdg : decode cc pc = .ok (.lsub, 1))
    (k : W p l e R s m args below meth c H locs cells slots Q (F0 m (pc + 1) ls (.long (lN (a - b)) :: rest))) : W p l e R s m args below meth c H locs cells slots Q (F0 m pc ls (.long (lN b) :: .long (lN a) :: rest)) := lv_lsub hx hb hdg (by rw [lN_sub h]; exact k)
theorem ni_lmul (hx : p.tables.exec = Jvm.exec) (hb : c.code = cc) {a b : Nat} (hdg : decode cc pc = .ok (.lmul, 1))
    (k : W p l e R s m args below meth c H locs cells slots Q (F0 m (pc + 1) ls (.long (lN (a * b)) :: rest))) : W p l e R s m args below meth c H locs cells slots Q (F0 m pc ls (.long (lN b) :: .long (lN a) :: rest)) := lv_lmul hx hb hdg (by rw [lN_mul]; exact k)
theorem lN_ne0 {b : Nat} (h0 : 0 < b) (hb1 : b < 2 ^ 63) : ¬ lN b = 0 := fun h => by
  have h2 := (pk_lEQ hb1 (show (0 : Nat) < 2 ^ 63 by omega)).mp h
  omega
theorem ni_ldiv (hx : p.tables.exec = Jvm.exec) (hb : c.code = cc) {a b : Nat} (ha : a < 2 ^ 63) (h0 : 0 < b) (hb1 : b < 2 ^ 63) (hdg : decode cc pc = .ok (.ldiv, 1))
    (k : W p l e R s m args below meth c H locs cells slots Q (F0 m (pc + 1) ls (.long (lN (a / b)) :: rest))) : W p l e R s m args below meth c H locs cells slots Q (F0 m pc ls (.long (lN b) :: .long (lN a) :: rest)) := lv_ldiv hx hb hdg (lN_ne0 h0 hb1) (by rw [pk_lDiv ha h0 hb1]; exact k)
theorem ni_lrem (hx : p.tables.exec = Jvm.exec) (hb : c.code = cc) {a b : Nat} (ha : a < 2 ^ 63) (h0 : 0 < b) (hb1 : b < 2 ^ 63) (hdg : decode cc pc = .ok (.lrem, 1))
    (k : W p l e R s m args below meth c H locs cells slots Q (F0 m (pc + 1) ls (.long (lN (a % b)) :: rest))) : W p l e R s m args below meth c H locs cells slots Q (F0 m pc ls (.long (lN b) :: .long (lN a) :: rest)) := lv_lrem hx hb hdg (lN_ne0 h0 hb1) (by rw [pk_lRem ha h0 hb1]; exact k)
/-! branches -/
theorem ni_cge (hx : p.tables.exec = Jvm.exec) (hb : c.code = cc) {a b : Nat} {off : Int} (tgt : Nat) (hdg : decode cc pc = .ok (.if_icmp .ge off, 3)) (ht : (pc : Int) + off = (tgt : Int)) (h1 : a < 2 ^ 31) (h2 : b < 2 ^ 31)
    (kt : b ≤ a → W p l e R s m args below meth c H locs cells slots Q (F0 m tgt ls rest)) (kf : a < b → W p l e R s m args below meth c H locs cells slots Q (F0 m (pc + 3) ls rest)) : W p l e R s m args below meth c H locs cells slots Q (F0 m pc ls (.int (nI b) :: .int (nI a) :: rest)) :=
  lv_icmp_ge hx hb hdg ht (fun h => kt ((nI_leI h2 h1).mp h)) (fun h => kf (Nat.lt_of_not_le (fun h3 => h ((nI_leI h2 h1).mpr h3))))
theorem ni_cgt (hx : p.tables.exec = Jvm.exec) (hb : c.code = cc) {a b : Nat} {off : Int} (tgt : Nat) (hdg : decode cc pc = .ok (.if_icmp .gt off, 3)) (ht : (pc : Int) + off = (tgt : Int)) (h1 : a < 2 ^ 31) (h2 : b < 2 ^ 31)
    (kt : b < a → W p l e R s m args below meth c H locs cells slots Q (F0 m tgt ls rest)) (kf : a ≤ b → W p l e R s m args below meth c H locs cells slots Q (F0 m (pc + 3) ls rest)) : W p l e R s m args below meth c H locs cells slots Q (F0 m pc ls (.int (nI b) :: .int (nI a) :: rest)) :=
  lv_icmp_gt hx hb hdg ht (fun h => kt ((nI_ltI h2 h1).mp h)) (fun h => kf (Nat.le_of_not_lt (fun h3 => h ((nI_ltI h2 h1).mpr h3))))
theorem ni_clt (hx : p.tables.exec = Jvm.exec) (hb : c.code = cc) {a b : Nat} {off : Int} (tgt : Nat) (hdg : decode cc pc = .ok (.if_icmp .lt off, 3)) (ht : (pc : Int) + off = (tgt : Int)) (h1 : a < 2 ^ 31) (h2 : b < 2 ^ 31)
    (kt : a < b → W p l e R s m args below meth c H locs cells slots Q (F0 m tgt ls rest)) (kf : b ≤ a → W p l e R s m args below meth c H locs cells slots Q (F0 m (pc + 3) ls rest)) : W p l e R s m args below meth c H locs cells slots Q (F0 m pc ls (.int (nI b) :: .int (nI a) :: rest)) :=
  lv_icmp_lt hx hb hdg ht (fun h => kt ((nI_ltI h1 h2).mp h)) (fun h => kf (Nat.le_of_not_lt (fun h3 => h ((nI_ltI h1 h2).mpr h3))))
theorem ni_cle (hx : p.tables.exec = Jvm.exec) (hb : c.code = cc) {a b : Nat} {off : Int} (tgt : Nat) (hdg : decode cc pc = .ok (.if_icmp .le off, 3)) (ht : (pc : Int) + off = (tgt : Int)) (h1 : a < 2 ^ 31) (h2 : b < 2 ^ 31)
    (kt : a ≤ b → W p l e R s m args below meth c H locs cells slots Q (F0 m tgt ls rest)) (kf : b < a → W p l e R s m args below meth c H locs cells slots Q (F0 m (pc + 3) ls rest)) : W p l e R s m args below meth c H locs cells slots Q (F0 m pc ls (.int (nI b) :: .int (nI a) :: rest)) :=
  lv_icmp_le hx hb hdg ht (fun h => kt ((nI_leI h1 h2).mp h)) (fun h => kf (Nat.lt_of_not_le (fun h3 => h ((nI_leI h1 h2).mpr h3))))
theorem ni_ceq (hx : p.tables.exec = Jvm.exec) (hb : c.code = cc) {a b : Nat} {off : Int} (tgt : Nat) (hdg : decode cc pc = .ok (.if_icmp .eq off, 3)) (ht : (pc : Int) + off = (tgt : Int)) (h1 : a < 2 ^ 31) (h2 : b < 2 ^ 31)
    (kt : a = b → W p l e R s m args below meth c H locs cells slots Q (F0 m tgt ls rest)) (kf : a ≠ b → W p l e R s m args below meth c H locs cells slots Q (F0 m (pc + 3) ls rest)) : W p l e R s m args below meth c H locs cells slots Q (F0 m pc ls (.int (nI b) :: .int (nI a) :: rest)) :=
  lv_icmp_eq hx hb hdg ht (fun h => kt ((nI_eq h1 h2).mp h)) (fun h => kf (fun h3 => h ((nI_eq h1 h2).mpr h3)))
theorem ni_cne (hx : p.tables.exec = Jvm.exec) (hb : c.code = cc) {a b : Nat} {off : Int} (tgt : Nat) (hdg : decode cc pc = .ok (.if_icmp .ne off, 3)) (ht : (pc : Int) + off = (tgt : Int)) (h1 : a < 2 ^ 31) (h2 : b < 2 ^ 31)
    (kt : a ≠ b → W p l e R s m args below meth c H locs cells slots Q (F0 m tgt ls rest)) (kf : a = b → W p l e R s m args below meth c H locs cells slots Q (F0 m (pc + 3) ls rest)) : W p l e R s m args below meth c H locs cells slots Q (F0 m pc ls (.int (nI b) :: .int (nI a) :: rest)) :=
  lv_icmp_ne hx hb hdg ht (fun h => kt (fun h3 => h ((nI_eq h1 h2).mpr h3))) (fun h => kf (by
    by_cases q : a = b
    · exact q
    · exact absurd (fun h4 => q ((nI_eq h1 h2).mp h4)) (by first | exact h | exact not_not_intro h)))
theorem ni_inc1 (a : Nat) : nI a + Int32.ofInt 1 = nI (a + 1) := nI_1 a
theorem ni_inc6 (a : Nat) : nI a + Int32.ofInt 6 = nI (a + 6) := nI_add a 6
theorem ni_dec1 {a : Nat} (h : 1 ≤ a) : nI a + Int32.ofInt (-1) = nI (a - 1) := by
  obtain ⟨b, rfl⟩ : ∃ b, a = b + 1 := ⟨a - 1, by omega⟩
  exact pk_m1 b
theorem ni_min {a b : Nat} (ha : a < 2 ^ 31) (hb : b < 2 ^ 31) : (if nI b < nI a then nI b else nI a) = nI (min a b) := by
  by_cases h : b < a
  · rw [if_pos ((nI_ltI hb ha).mpr h), Nat.min_eq_right (by omega)]
  · rw [if_neg (fun q => h ((nI_ltI hb ha).mp q)), Nat.min_eq_left (by omega)]
theorem ni_max {a b : Nat} (ha : a < 2 ^ 31) (hb : b < 2 ^ 31) : (if nI a < nI b then nI b else nI a) = nI (max a b) := by
  by_cases h : a < b
  · rw [if_pos ((nI_ltI ha hb).mpr h), Nat.max_eq_right (by omega)]
  · rw [if_neg (fun q => h ((nI_ltI ha hb).mp q)), Nat.max_eq_left (by omega)]
end YB
end
section
section YC
variable {p : Program} {l : Launch} {e : Env} {R : Room} {s : State} {m : MethodId} {args : Array Value} {below : List Frame} {meth : Method} {c : Code} {H : Heap} {locs : List Loc} {cells slots : Nat} {Q : State → Prop}
variable {pc : Nat} {ls : Array Slot} {rest st As : List Value} {cc bytes : ByteArray} {X : Cx} {N : Nat} {ad : Nat → Nat} {g : PF} {A : Nat → Prop} {nL maxL index n : Nat} {Ts ws ws' : List Cond} {own C host : String} {y : MethodName} {rm : Room} {ret : Option FieldType}
theorem pA_in (FX : WF X N ad A s) (hH : WH X N ad A s g H locs) : ∀ q, pA N ad H.size q → A q := by
  intro q h
  rcases h with ⟨k, hk, rfl⟩ | h
  · exact FX.2.2.1 k hk
  · exact FX.2.2.2 q (Nat.le_trans hH.2.1 h)
theorem pre_in (FX : WF X N ad A s) (hH : WH X N ad A s g H locs) {av : List Value} : ∀ U : State, U.heap = H → s.WarmedH U.vm → PreW X N ad g H.size av av.toArray U := fun U hU hW => ⟨rfl, by rw [hU], by rw [hU]; exact hH.1, FX.1.warm hW⟩
theorem recv_in (FX : WF X N ad A s) (hH : WH X N ad A s g H locs) (kr : Nat) (hr : kr < N) {ci NN : Nat} {fs : List Value} {T : u_T} (hg : g kr = .inr (ci, fs)) (hcl : vwCl[ci]? = some (C, T, NN)) : ∃ cell : Cell, H[ad kr]? = some cell ∧ cell.vm.isStatics = false ∧ s.vm.findClass C = some cell.cls := va_recv FX.1.1 hH.1 hcl (wl_get' hr hg)
/-- a call of an instance method through the class's own link -/
theorem rc_Vi {post : Int32 → PF → Prop} (C0 : CallFix p m c cc nL s args Ts own) (FX : WF X N ad A s) (hH : WH X N ad A s g H locs) (kr : Nat) (hr : kr < N) {ci NN : Nat} {fs : List Value} {T : u_T} (hg : g kr = .inr (ci, fs)) (hcl : vwCl[ci]? = some (C, T, NN)) (hM : Ki l y ws rm X N ad g (.ref (ad kr) :: As) post) (cw : CallW R s args own C index y bytes maxL ret ws rm 0 0 n) (hn : As.length = n) (hst : st = As.reverse ++ .ref (ad kr) :: rest) (hsz : ls.size = nL) (hrest : (rest.map fun v => v.category).sum ≤ 8) (hdg : decode cc pc = .ok (.invokevirtual index, 3)) (hcs : cells + 0 ≤ R.cells ∧ slots + 0 ≤ R.slots)
    (kk : ∀ (r : Int32) (g' : PF) (H1 : Heap) (locs1 : List Loc), post r g' → WH X N ad A s g' H1 locs1 → W p l e R s m args below meth c H1 locs1 cells slots Q (F0 m (pc + 3) ls (.int r :: rest))) : W p l e R s m args below meth c H locs cells slots Q (F0 m pc ls st) := by
  refine va_calli (va_runV (As := As) (rest := rest) C0 (hM H.size) cw ⟨PreW.blind, recv_in FX hH kr hr hg hcl, pre_in FX hH⟩ rfl hn hsz hst (lv_room hrest) hdg hcs) hH.2 (fun q _ h => pA_in FX hH q h) (pA_in FX hH) (fun r u t H1 locs1 ht hvm hw hB hz1 hk1 hS => ?_)
  have hB : WP X N ad u t.heap := hB
  rw [ht] at hB
  exact kk r u H1 locs1 hw ⟨hB, hS⟩
theorem rc_Vl {post : Int64 → PF → Prop} (C0 : CallFix p m c cc nL s args Ts own) (FX : WF X N ad A s) (hH : WH X N ad A s g H locs) (kr : Nat) (hr : kr < N) {ci NN : Nat} {fs : List Value} {T : u_T} (hg : g kr = .inr (ci, fs)) (hcl : vwCl[ci]? = some (C, T, NN)) (hM : Kl l y ws rm X N ad g (.ref (ad kr) :: As) post) (cw : CallW R s args own C index y bytes maxL ret ws rm 0 0 n) (hn : As.length = n) (hst : st = As.reverse ++ .ref (ad kr) :: rest) (hsz : ls.size = nL) (hrest : (rest.map fun v => v.category).sum ≤ 8) (hdg : decode cc pc = .ok (.invokevirtual index, 3)) (hcs : cells + 0 ≤ R.cells ∧ slots + 0 ≤ R.slots)
    (kk : ∀ (r : Int64) (g' : PF) (H1 : Heap) (locs1 : List Loc), post r g' → WH X N ad A s g' H1 locs1 → W p l e R s m args below meth c H1 locs1 cells slots Q (F0 m (pc + 3) ls (.long r :: rest))) : W p l e R s m args below meth c H locs cells slots Q (F0 m pc ls st) := by
  refine va_calll (va_runV (As := As) (rest := rest) C0 (hM H.size) cw ⟨PreW.blind, recv_in FX hH kr hr hg hcl, pre_in FX hH⟩ rfl hn hsz hst (lv_room hrest) hdg hcs) hH.2 (fun q _ h => pA_in FX hH q h) (pA_in FX hH) (fun r u t H1 locs1 ht hvm hw hB hz1 hk1 hS => ?_)
  have hB : WP X N ad u t.heap := hB
  rw [ht] at hB
  exact kk r u H1 locs1 hw ⟨hB, hS⟩
theorem rc_Vv {post : PF → Prop} (C0 : CallFix p m c cc nL s args Ts own) (FX : WF X N ad A s) (hH : WH X N ad A s g H locs) (kr : Nat) (hr : kr < N) {ci NN : Nat} {fs : List Value} {T : u_T} (hg : g kr = .inr (ci, fs)) (hcl : vwCl[ci]? = some (C, T, NN)) (hM : Kv l y ws rm X N ad g (.ref (ad kr) :: As) post) (cw : CallW R s args own C index y bytes maxL ret ws rm 0 0 n) (hn : As.length = n) (hst : st = As.reverse ++ .ref (ad kr) :: rest) (hsz : ls.size = nL) (hrest : (rest.map fun v => v.category).sum ≤ 8) (hdg : decode cc pc = .ok (.invokevirtual index, 3)) (hcs : cells + 0 ≤ R.cells ∧ slots + 0 ≤ R.slots)
    (kk : ∀ (g' : PF) (H1 : Heap) (locs1 : List Loc), post g' → WH X N ad A s g' H1 locs1 → W p l e R s m args below meth c H1 locs1 cells slots Q (F0 m (pc + 3) ls rest)) : W p l e R s m args below meth c H locs cells slots Q (F0 m pc ls st) := by
  refine va_callv (va_runV (As := As) (rest := rest) C0 (hM H.size) cw ⟨PreW.blind, recv_in FX hH kr hr hg hcl, pre_in FX hH⟩ rfl hn hsz hst (lv_room hrest) hdg hcs) hH.2 (fun q _ h => pA_in FX hH q h) (pA_in FX hH) (fun u t H1 locs1 ht hvm hw hB hz1 hk1 hS => ?_)
  have hB : WP X N ad u t.heap := hB
  rw [ht] at hB
  exact kk u H1 locs1 hw ⟨hB, hS⟩
theorem rc_Vq {post : Option Nat → PF → Prop} (C0 : CallFix p m c cc nL s args Ts own) (FX : WF X N ad A s) (hH : WH X N ad A s g H locs) (kr : Nat) (hr : kr < N) {ci NN : Nat} {fs : List Value} {T : u_T} (hg : g kr = .inr (ci, fs)) (hcl : vwCl[ci]? = some (C, T, NN)) (hM : Kq l y ws rm X N ad g (.ref (ad kr) :: As) post) (cw : CallW R s args own C index y bytes maxL ret ws rm 0 0 n) (hn : As.length = n) (hst : st = As.reverse ++ .ref (ad kr) :: rest) (hsz : ls.size = nL) (hrest : (rest.map fun v => v.category).sum ≤ 8) (hdg : decode cc pc = .ok (.invokevirtual index, 3)) (hcs : cells + 0 ≤ R.cells ∧ slots + 0 ≤ R.slots)
    (kk : ∀ (r : Option Nat) (g' : PF) (H1 : Heap) (locs1 : List Loc), post r g' → WH X N ad A s g' H1 locs1 → W p l e R s m args below meth c H1 locs1 cells slots Q (F0 m (pc + 3) ls (va_rf r :: rest))) : W p l e R s m args below meth c H locs cells slots Q (F0 m pc ls st) := by
  refine va_callq (va_runV (As := As) (rest := rest) C0 (hM H.size) cw ⟨PreW.blind, recv_in FX hH kr hr hg hcl, pre_in FX hH⟩ rfl hn hsz hst (lv_room hrest) hdg hcs) hH.2 (fun q _ h => pA_in FX hH q h) (pA_in FX hH) (fun r u t H1 locs1 ht hvm hw hB hz1 hk1 hS => ?_)
  have hB : WP X N ad u t.heap := hB
  rw [ht] at hB
  exact kk r u H1 locs1 hw ⟨hB, hS⟩
/-- static calls -/
theorem rc_Si {post : Int32 → PF → Prop} (C0 : CallFix p m c cc nL s args Ts own) (FX : WF X N ad A s) (hH : WH X N ad A s g H locs) (hM : Ki l y ws rm X N ad g As post) (cw : CallB R s args own index y bytes maxL ret ws rm 0 0 n ∧ (Cond.static y).before args s = true) (hn : As.length = n) (hst : st = As.reverse ++ rest) (hsz : ls.size = nL) (hrest : (rest.map fun v => v.category).sum ≤ 8) (hdg : decode cc pc = .ok (.invokestatic index, 3)) (hcs : cells + 0 ≤ R.cells ∧ slots + 0 ≤ R.slots)
    (kk : ∀ (r : Int32) (g' : PF) (H1 : Heap) (locs1 : List Loc), post r g' → WH X N ad A s g' H1 locs1 → W p l e R s m args below meth c H1 locs1 cells slots Q (F0 m (pc + 3) ls (.int r :: rest))) : W p l e R s m args below meth c H locs cells slots Q (F0 m pc ls st) := by
  refine va_calli (va_runS (As := As) (rest := rest) C0 (hM H.size) cw ⟨PreW.blind, pre_in FX hH⟩ rfl hn hsz hst (lv_room hrest) hdg hcs) hH.2 (fun q _ h => pA_in FX hH q h) (pA_in FX hH) (fun r u t H1 locs1 ht hvm hw hB hz1 hk1 hS => ?_)
  have hB : WP X N ad u t.heap := hB
  rw [ht] at hB
  exact kk r u H1 locs1 hw ⟨hB, hS⟩
theorem rc_Sl {post : Int64 → PF → Prop} (C0 : CallFix p m c cc nL s args Ts own) (FX : WF X N ad A s) (hH : WH X N ad A s g H locs) (hM : Kl l y ws rm X N ad g As post) (cw : CallB R s args own index y bytes maxL ret ws rm 0 0 n ∧ (Cond.static y).before args s = true) (hn : As.length = n) (hst : st = As.reverse ++ rest) (hsz : ls.size = nL) (hrest : (rest.map fun v => v.category).sum ≤ 8) (hdg : decode cc pc = .ok (.invokestatic index, 3)) (hcs : cells + 0 ≤ R.cells ∧ slots + 0 ≤ R.slots)
    (kk : ∀ (r : Int64) (g' : PF) (H1 : Heap) (locs1 : List Loc), post r g' → WH X N ad A s g' H1 locs1 → W p l e R s m args below meth c H1 locs1 cells slots Q (F0 m (pc + 3) ls (.long r :: rest))) : W p l e R s m args below meth c H locs cells slots Q (F0 m pc ls st) := by
  refine va_calll (va_runS (As := As) (rest := rest) C0 (hM H.size) cw ⟨PreW.blind, pre_in FX hH⟩ rfl hn hsz hst (lv_room hrest) hdg hcs) hH.2 (fun q _ h => pA_in FX hH q h) (pA_in FX hH) (fun r u t H1 locs1 ht hvm hw hB hz1 hk1 hS => ?_)
  have hB : WP X N ad u t.heap := hB
  rw [ht] at hB
  exact kk r u H1 locs1 hw ⟨hB, hS⟩
/-- a static call of a nest mate's private method -/
theorem rc_Ni {post : Int32 → PF → Prop} (C0 : CallFix p m c cc nL s args Ts own) (FX : WF X N ad A s) (hH : WH X N ad A s g H locs) (hM : Ki l y ws rm X N ad g As post) (cw : va_CN R s args own index y host bytes maxL ret ws rm 0 0 n ∧ (Cond.static y).before args s = true ∧ True) (hn : As.length = n) (hst : st = As.reverse ++ rest) (hsz : ls.size = nL) (hrest : (rest.map fun v => v.category).sum ≤ 8) (hdg : decode cc pc = .ok (.invokestatic index, 3)) (hcs : cells + 0 ≤ R.cells ∧ slots + 0 ≤ R.slots)
    (kk : ∀ (r : Int32) (g' : PF) (H1 : Heap) (locs1 : List Loc), post r g' → WH X N ad A s g' H1 locs1 → W p l e R s m args below meth c H1 locs1 cells slots Q (F0 m (pc + 3) ls (.int r :: rest))) : W p l e R s m args below meth c H locs cells slots Q (F0 m pc ls st) := by
  refine va_calli (va_runSN (As := As) (rest := rest) C0 (hM H.size) cw ⟨PreW.blind, pre_in FX hH⟩ rfl hn hsz hst (lv_room hrest) hdg hcs) hH.2 (fun q _ h => pA_in FX hH q h) (pA_in FX hH) (fun r u t H1 locs1 ht hvm hw hB hz1 hk1 hS => ?_)
  have hB : WP X N ad u t.heap := hB
  rw [ht] at hB
  exact kk r u H1 locs1 hw ⟨hB, hS⟩
/-! longs compared, and the branch behind -/
theorem lc_eq (hx : p.tables.exec = Jvm.exec) (hb : c.code = cc) {x z : Int64} {off : Int} (tgt : Nat) (hd : decode cc pc = .ok (.lcmp, 1)) (hdg : decode cc (pc + 1) = .ok (.ifCond .eq off, 3)) (ht : ((pc + 1 : Nat) : Int) + off = (tgt : Int))
    (kt : x = z → W p l e R s m args below meth c H locs cells slots Q (F0 m tgt ls rest)) (kf : ¬ x = z → W p l e R s m args below meth c H locs cells slots Q (F0 m (pc + 4) ls rest)) : W p l e R s m args below meth c H locs cells slots Q (F0 m pc ls (.long z :: .long x :: rest)) :=
  W.lcmp hx hb hd (lv_if_eq hx hb hdg ht (fun h => kt ((lg_cmp_eq x z).mp h)) (fun h => kf (fun h2 => h ((lg_cmp_eq x z).mpr h2))))
theorem lc_ne (hx : p.tables.exec = Jvm.exec) (hb : c.code = cc) {x z : Int64} {off : Int} (tgt : Nat) (hd : decode cc pc = .ok (.lcmp, 1)) (hdg : decode cc (pc + 1) = .ok (.ifCond .ne off, 3)) (ht : ((pc + 1 : Nat) : Int) + off = (tgt : Int))
    (kt : ¬ x = z → W p l e R s m args below meth c H locs cells slots Q (F0 m tgt ls rest)) (kf : x = z → W p l e R s m args below meth c H locs cells slots Q (F0 m (pc + 4) ls rest)) : W p l e R s m args below meth c H locs cells slots Q (F0 m pc ls (.long z :: .long x :: rest)) :=
  W.lcmp hx hb hd (lv_if_ne hx hb hdg ht (fun h => kt (fun h2 => h ((lg_cmp_eq x z).mpr h2))) (fun h => kf ((lg_cmp_eq x z).mp h)))
theorem lc_lt (hx : p.tables.exec = Jvm.exec) (hb : c.code = cc) {x z : Int64} {off : Int} (tgt : Nat) (hd : decode cc pc = .ok (.lcmp, 1)) (hdg : decode cc (pc + 1) = .ok (.ifCond .lt off, 3)) (ht : ((pc + 1 : Nat) : Int) + off = (tgt : Int))
    (kt : x < z → W p l e R s m args below meth c H locs cells slots Q (F0 m tgt ls rest)) (kf : ¬ x < z → W p l e R s m args below meth c H locs cells slots Q (F0 m (pc + 4) ls rest)) : W p l e R s m args below meth c H locs cells slots Q (F0 m pc ls (.long z :: .long x :: rest)) :=
  W.lcmp hx hb hd (lv_if_lt hx hb hdg ht (fun h => kt ((lg_cmp_lt x z).mp h)) (fun h => kf (fun h2 => h ((lg_cmp_lt x z).mpr h2))))
theorem lc_ge (hx : p.tables.exec = Jvm.exec) (hb : c.code = cc) {x z : Int64} {off : Int} (tgt : Nat) (hd : decode cc pc = .ok (.lcmp, 1)) (hdg : decode cc (pc + 1) = .ok (.ifCond .ge off, 3)) (ht : ((pc + 1 : Nat) : Int) + off = (tgt : Int))
    (kt : z ≤ x → W p l e R s m args below meth c H locs cells slots Q (F0 m tgt ls rest)) (kf : ¬ z ≤ x → W p l e R s m args below meth c H locs cells slots Q (F0 m (pc + 4) ls rest)) : W p l e R s m args below meth c H locs cells slots Q (F0 m pc ls (.long z :: .long x :: rest)) :=
  W.lcmp hx hb hd (lv_if_ge hx hb hdg ht (fun h => kt ((lg_cmp_ge x z).mp h)) (fun h => kf (fun h2 => h ((lg_cmp_ge x z).mpr h2))))
theorem lc_gt (hx : p.tables.exec = Jvm.exec) (hb : c.code = cc) {x z : Int64} {off : Int} (tgt : Nat) (hd : decode cc pc = .ok (.lcmp, 1)) (hdg : decode cc (pc + 1) = .ok (.ifCond .gt off, 3)) (ht : ((pc + 1 : Nat) : Int) + off = (tgt : Int))
    (kt : z < x → W p l e R s m args below meth c H locs cells slots Q (F0 m tgt ls rest)) (kf : ¬ z < x → W p l e R s m args below meth c H locs cells slots Q (F0 m (pc + 4) ls rest)) : W p l e R s m args below meth c H locs cells slots Q (F0 m pc ls (.long z :: .long x :: rest)) :=
  W.lcmp hx hb hd (lv_if_gt hx hb hdg ht (fun h => kt ((lg_cmp_gt x z).mp h)) (fun h => kf (fun h2 => h ((lg_cmp_gt x z).mpr h2))))
theorem lc_le (hx : p.tables.exec = Jvm.exec) (hb : c.code = cc) {x z : Int64} {off : Int} (tgt : Nat) (hd : decode cc pc = .ok (.lcmp, 1)) (hdg : decode cc (pc + 1) = .ok (.ifCond .le off, 3)) (ht : ((pc + 1 : Nat) : Int) + off = (tgt : Int))
    (kt : x ≤ z → W p l e R s m args below meth c H locs cells slots Q (F0 m tgt ls rest)) (kf : ¬ x ≤ z → W p l e R s m args below meth c H locs cells slots Q (F0 m (pc + 4) ls rest)) : W p l e R s m args below meth c H locs cells slots Q (F0 m pc ls (.long z :: .long x :: rest)) :=
  W.lcmp hx hb hd (lv_if_le hx hb hdg ht (fun h => kt ((lg_cmp_le x z).mp h)) (fun h => kf (fun h2 => h ((lg_cmp_le x z).mpr h2))))
theorem nl_eq (hx : p.tables.exec = Jvm.exec) (hb : c.code = cc) {a b : Nat} {off : Int} (tgt : Nat) (hd : decode cc pc = .ok (.lcmp, 1)) (hdg : decode cc (pc + 1) = .ok (.ifCond .eq off, 3)) (ht : ((pc + 1 : Nat) : Int) + off = (tgt : Int)) (h1 : a < 2 ^ 63) (h2 : b < 2 ^ 63)
    (kt : a = b → W p l e R s m args below meth c H locs cells slots Q (F0 m tgt ls rest)) (kf : a ≠ b → W p l e R s m args below meth c H locs cells slots Q (F0 m (pc + 4) ls rest)) : W p l e R s m args below meth c H locs cells slots Q (F0 m pc ls (.long (lN b) :: .long (lN a) :: rest)) :=
  lc_eq hx hb tgt hd hdg ht (fun h => kt ((pk_lEQ h1 h2).mp h)) (fun h => kf (fun h3 => h ((pk_lEQ h1 h2).mpr h3)))
theorem nl_ne (hx : p.tables.exec = Jvm.exec) (hb : c.code = cc) {a b : Nat} {off : Int} (tgt : Nat) (hd : decode cc pc = .ok (.lcmp, 1)) (hdg : decode cc (pc + 1) = .ok (.ifCond .ne off, 3)) (ht : ((pc + 1 : Nat) : Int) + off = (tgt : Int)) (h1 : a < 2 ^ 63) (h2 : b < 2 ^ 63)
    (kt : a ≠ b → W p l e R s m args below meth c H locs cells slots Q (F0 m tgt ls rest)) (kf : a = b → W p l e R s m args below meth c H locs cells slots Q (F0 m (pc + 4) ls rest)) : W p l e R s m args below meth c H locs cells slots Q (F0 m pc ls (.long (lN b) :: .long (lN a) :: rest)) :=
  lc_ne hx hb tgt hd hdg ht (fun h => kt (fun h3 => h ((pk_lEQ h1 h2).mpr h3))) (fun h => kf ((pk_lEQ h1 h2).mp h))
theorem nl_lt (hx : p.tables.exec = Jvm.exec) (hb : c.code = cc) {a b : Nat} {off : Int} (tgt : Nat) (hd : decode cc pc = .ok (.lcmp, 1)) (hdg : decode cc (pc + 1) = .ok (.ifCond .lt off, 3)) (ht : ((pc + 1 : Nat) : Int) + off = (tgt : Int)) (h1 : a < 2 ^ 63) (h2 : b < 2 ^ 63)
    (kt : a < b → W p l e R s m args below meth c H locs cells slots Q (F0 m tgt ls rest)) (kf : b ≤ a → W p l e R s m args below meth c H locs cells slots Q (F0 m (pc + 4) ls rest)) : W p l e R s m args below meth c H locs cells slots Q (F0 m pc ls (.long (lN b) :: .long (lN a) :: rest)) :=
  lc_lt hx hb tgt hd hdg ht (fun h => kt ((pk_lLT h1 h2).mp h)) (fun h => kf (Nat.le_of_not_lt (fun h3 => h ((pk_lLT h1 h2).mpr h3))))
theorem nl_ge (hx : p.tables.exec = Jvm.exec) (hb : c.code = cc) {a b : Nat} {off : Int} (tgt : Nat) (hd : decode cc pc = .ok (.lcmp, 1)) (hdg : decode cc (pc + 1) = .ok (.ifCond .ge off, 3)) (ht : ((pc + 1 : Nat) : Int) + off = (tgt : Int)) (h1 : a < 2 ^ 63) (h2 : b < 2 ^ 63)
    (kt : b ≤ a → W p l e R s m args below meth c H locs cells slots Q (F0 m tgt ls rest)) (kf : a < b → W p l e R s m args below meth c H locs cells slots Q (F0 m (pc + 4) ls rest)) : W p l e R s m args below meth c H locs cells slots Q (F0 m pc ls (.long (lN b) :: .long (lN a) :: rest)) :=
  lc_ge hx hb tgt hd hdg ht (fun h => kt ((pk_lLE h2 h1).mp h)) (fun h => kf (Nat.lt_of_not_le (fun h3 => h ((pk_lLE h2 h1).mpr h3))))
theorem nl_gt (hx : p.tables.exec = Jvm.exec) (hb : c.code = cc) {a b : Nat} {off : Int} (tgt : Nat) (hd : decode cc pc = .ok (.lcmp, 1)) (hdg : decode cc (pc + 1) = .ok (.ifCond .gt off, 3)) (ht : ((pc + 1 : Nat) : Int) + off = (tgt : Int)) (h1 : a < 2 ^ 63) (h2 : b < 2 ^ 63)
    (kt : b < a → W p l e R s m args below meth c H locs cells slots Q (F0 m tgt ls rest)) (kf : a ≤ b → W p l e R s m args below meth c H locs cells slots Q (F0 m (pc + 4) ls rest)) : W p l e R s m args below meth c H locs cells slots Q (F0 m pc ls (.long (lN b) :: .long (lN a) :: rest)) :=
  lc_gt hx hb tgt hd hdg ht (fun h => kt ((pk_lLT h2 h1).mp h)) (fun h => kf (Nat.le_of_not_lt (fun h3 => h ((pk_lLT h2 h1).mpr h3))))
theorem nl_le (hx : p.tables.exec = Jvm.exec) (hb : c.code = cc) {a b : Nat} {off : Int} (tgt : Nat) (hd : decode cc pc = .ok (.lcmp, 1)) (hdg : decode cc (pc + 1) = .ok (.ifCond .le off, 3)) (ht : ((pc + 1 : Nat) : Int) + off = (tgt : Int)) (h1 : a < 2 ^ 63) (h2 : b < 2 ^ 63)
    (kt : a ≤ b → W p l e R s m args below meth c H locs cells slots Q (F0 m tgt ls rest)) (kf : b < a → W p l e R s m args below meth c H locs cells slots Q (F0 m (pc + 4) ls rest)) : W p l e R s m args below meth c H locs cells slots Q (F0 m pc ls (.long (lN b) :: .long (lN a) :: rest)) :=
  lc_le hx hb tgt hd hdg ht (fun h => kt ((pk_lLE h1 h2).mp h)) (fun h => kf (Nat.lt_of_not_le (fun h3 => h ((pk_lLE h1 h2).mpr h3))))
/-! one int against 0 -/
theorem ni_eq0 (hx : p.tables.exec = Jvm.exec) (hb : c.code = cc) {a : Nat} {off : Int} (tgt : Nat) (hdg : decode cc pc = .ok (.ifCond .eq off, 3)) (ht : (pc : Int) + off = (tgt : Int)) (h1 : a < 2 ^ 31)
    (kt : a = 0 → W p l e R s m args below meth c H locs cells slots Q (F0 m tgt ls rest)) (kf : 0 < a → W p l e R s m args below meth c H locs cells slots Q (F0 m (pc + 3) ls rest)) : W p l e R s m args below meth c H locs cells slots Q (F0 m pc ls (.int (nI a) :: rest)) :=
  lv_if_eq hx hb hdg ht (fun h => kt ((nI_eq h1 (show 0 < 2 ^ 31 by omega)).mp h)) (fun h => kf (Nat.pos_of_ne_zero (fun h2 => h (by rw [h2]; rfl))))
theorem ni_ne0 (hx : p.tables.exec = Jvm.exec) (hb : c.code = cc) {a : Nat} {off : Int} (tgt : Nat) (hdg : decode cc pc = .ok (.ifCond .ne off, 3)) (ht : (pc : Int) + off = (tgt : Int)) (h1 : a < 2 ^ 31)
    (kt : 0 < a → W p l e R s m args below meth c H locs cells slots Q (F0 m tgt ls rest)) (kf : a = 0 → W p l e R s m args below meth c H locs cells slots Q (F0 m (pc + 3) ls rest)) : W p l e R s m args below meth c H locs cells slots Q (F0 m pc ls (.int (nI a) :: rest)) :=
  lv_if_ne hx hb hdg ht (fun h => kt (Nat.pos_of_ne_zero (fun h2 => h (by rw [h2]; rfl)))) (fun h => kf ((nI_eq h1 (show 0 < 2 ^ 31 by omega)).mp h))
theorem ni_gt0 (hx : p.tables.exec = Jvm.exec) (hb : c.code = cc) {a : Nat} {off : Int} (tgt : Nat) (hdg : decode cc pc = .ok (.ifCond .gt off, 3)) (ht : (pc : Int) + off = (tgt : Int)) (h1 : a < 2 ^ 31)
    (kt : 0 < a → W p l e R s m args below meth c H locs cells slots Q (F0 m tgt ls rest)) (kf : a = 0 → W p l e R s m args below meth c H locs cells slots Q (F0 m (pc + 3) ls rest)) : W p l e R s m args below meth c H locs cells slots Q (F0 m pc ls (.int (nI a) :: rest)) :=
  lv_if_gt hx hb hdg ht (fun h => kt ((nI_ltI (show 0 < 2 ^ 31 by omega) h1).mp h)) (fun h => kf (Nat.eq_zero_of_not_pos (fun h2 => h ((nI_ltI (show 0 < 2 ^ 31 by omega) h1).mpr h2))))
theorem ni_le0 (hx : p.tables.exec = Jvm.exec) (hb : c.code = cc) {a : Nat} {off : Int} (tgt : Nat) (hdg : decode cc pc = .ok (.ifCond .le off, 3)) (ht : (pc : Int) + off = (tgt : Int)) (h1 : a < 2 ^ 31)
    (kt : a = 0 → W p l e R s m args below meth c H locs cells slots Q (F0 m tgt ls rest)) (kf : 0 < a → W p l e R s m args below meth c H locs cells slots Q (F0 m (pc + 3) ls rest)) : W p l e R s m args below meth c H locs cells slots Q (F0 m pc ls (.int (nI a) :: rest)) :=
  lv_if_le hx hb hdg ht (fun h => kt (Nat.le_zero.mp ((nI_leI h1 (show 0 < 2 ^ 31 by omega)).mp h))) (fun h => kf (Nat.pos_of_ne_zero (fun h2 => h (by rw [h2]; decide))))
theorem ni_lt0 (hx : p.tables.exec = Jvm.exec) (hb : c.code = cc) {a : Nat} {off : Int} (hdg : decode cc pc = .ok (.ifCond .lt off, 3)) (tgt : Nat) (ht : (pc : Int) + off = (tgt : Int)) (h1 : a < 2 ^ 31)
    (kf : W p l e R s m args below meth c H locs cells slots Q (F0 m (pc + 3) ls rest)) : W p l e R s m args below meth c H locs cells slots Q (F0 m pc ls (.int (nI a) :: rest)) :=
  lv_if_lt hx hb hdg ht (fun h => absurd h (nI_pos h1)) (fun _ => kf)
theorem ni_ge0 (hx : p.tables.exec = Jvm.exec) (hb : c.code = cc) {a : Nat} {off : Int} (tgt : Nat) (hdg : decode cc pc = .ok (.ifCond .ge off, 3)) (ht : (pc : Int) + off = (tgt : Int)) (h1 : a < 2 ^ 31)
    (kt : W p l e R s m args below meth c H locs cells slots Q (F0 m tgt ls rest)) : W p l e R s m args below meth c H locs cells slots Q (F0 m pc ls (.int (nI a) :: rest)) :=
  lv_if_ge hx hb hdg ht (fun _ => kt) (fun h => absurd (nI_pos' h1) h)
/-! a boolean -/
def bI (P : Prop) [Decidable P] : Int32 := if P then 1 else 0
theorem bI_0 {P : Prop} [Decidable P] : bI P = 0 ↔ ¬ P := by unfold bI; by_cases h : P <;> simp [h]
theorem rb_eq {P : Prop} [Decidable P] (hx : p.tables.exec = Jvm.exec) (hb : c.code = cc) {off : Int} (tgt : Nat) (hdg : decode cc pc = .ok (.ifCond .eq off, 3)) (ht : (pc : Int) + off = (tgt : Int))
    (kt : ¬ P → W p l e R s m args below meth c H locs cells slots Q (F0 m tgt ls rest)) (kf : P → W p l e R s m args below meth c H locs cells slots Q (F0 m (pc + 3) ls rest)) : W p l e R s m args below meth c H locs cells slots Q (F0 m pc ls (.int (bI P) :: rest)) :=
  lv_if_eq hx hb hdg ht (fun h => kt (bI_0.mp h)) (fun h => kf (Decidable.of_not_not (fun h2 => h (bI_0.mpr h2))))
theorem rb_ne {P : Prop} [Decidable P] (hx : p.tables.exec = Jvm.exec) (hb : c.code = cc) {off : Int} (tgt : Nat) (hdg : decode cc pc = .ok (.ifCond .ne off, 3)) (ht : (pc : Int) + off = (tgt : Int))
    (kt : P → W p l e R s m args below meth c H locs cells slots Q (F0 m tgt ls rest)) (kf : ¬ P → W p l e R s m args below meth c H locs cells slots Q (F0 m (pc + 3) ls rest)) : W p l e R s m args below meth c H locs cells slots Q (F0 m pc ls (.int (bI P) :: rest)) :=
  lv_if_ne hx hb hdg ht (fun h => kt (Decidable.of_not_not (fun h2 => h (bI_0.mpr h2)))) (fun h => kf (bI_0.mp h))
theorem bI_nar {P : Prop} [Decidable P] : narrow .boolean (.int (bI P)) = .int (bI P) := by unfold bI; by_cases h : P <;> simp [h] <;> decide
end YC
end
section
abbrev zr0 : Room := { frames := 2, cells := 0, slots := 0, locals := 40 }
abbrev zr1 : Room := { frames := 12, cells := 0, slots := 0, locals := 240 }
abbrev zr2 : Room := { frames := 24, cells := 0, slots := 0, locals := 480 }
abbrev zr3 : Room := { frames := 36, cells := 0, slots := 0, locals := 720 }
abbrev zr4 : Room := { frames := 48, cells := 0, slots := 0, locals := 960 }
abbrev zr5 : Room := { frames := 60, cells := 0, slots := 0, locals := 1200 }
theorem bI_congr {P Q : Prop} [Decidable P] [Decidable Q] (h : P ↔ Q) : bI P = bI Q := by
  unfold bI
  by_cases q : P
  · rw [if_pos q, if_pos (h.mp q)]
  · rw [if_neg q, if_neg (fun z => q (h.mpr z))]
theorem bI_t {P : Prop} [Decidable P] (h : P) : bI P = nI 1 := by unfold bI; rw [if_pos h]; rfl
theorem bI_f {P : Prop} [Decidable P] (h : ¬ P) : bI P = nI 0 := by unfold bI; rw [if_neg h]; rfl
abbrev rng (p : Int32) (lo hi : Nat) : Prop := (lo : Int) ≤ p.toInt ∧ p.toInt ≤ (hi : Int)
abbrev rngS (p : Int32) (n : Nat) : Prop := (0 : Int) ≤ p.toInt ∧ p.toInt < (n : Int)
def tN (p : Int32) : Nat := p.toNatClampNeg
theorem tN_nI {n : Nat} (h : n < 2 ^ 31) : tN (nI n) = n := nI_clamp h
theorem i32_rng (p : Int32) : -2147483648 ≤ p.toInt ∧ p.toInt < 2147483648 := by
  have h1 := Int32.le_toInt p
  have h2 := Int32.toInt_lt p
  omega
theorem nI_ofI {p : Int32} (h : 0 ≤ p.toInt) : ∃ n : Nat, p = nI n ∧ (n : Int) = p.toInt := by
  obtain ⟨n, h1, h2⟩ := nI_of (x := p) (fun q => by
    have := Int32.lt_iff_toInt_lt.mp q
    have e : (0 : Int32).toInt = 0 := by decide
    omega)
  refine ⟨n, h2, ?_⟩
  rw [h2, nI_toInt h1]
theorem rng_nI {p : Int32} {lo hi : Nat} (h : rng p lo hi) : ∃ n : Nat, p = nI n ∧ lo ≤ n ∧ n ≤ hi ∧ n < 2147483648 := by
  obtain ⟨n, h1, h2⟩ := nI_ofI (p := p) (by omega)
  have := i32_rng p
  exact ⟨n, h1, by omega, by omega, by omega⟩
theorem rngS_nI {p : Int32} {n : Nat} (h : rngS p n) : ∃ k : Nat, p = nI k ∧ k < n ∧ k < 2147483648 := by
  obtain ⟨k, h1, h2⟩ := nI_ofI (p := p) (by omega)
  have := i32_rng p
  exact ⟨k, h1, by omega, by omega⟩
theorem rng_iff {n lo hi : Nat} (h : n < 2147483648) : rng (nI n) lo hi ↔ lo ≤ n ∧ n ≤ hi := by
  have e : (nI n).toInt = (n : Int) := nI_toInt (by omega)
  unfold rng
  rw [e]
  omega
theorem rngS_iff {n k : Nat} (h : k < 2147483648) : rngS (nI k) n ↔ k < n := by
  have e : (nI k).toInt = (k : Int) := nI_toInt (by omega)
  unfold rngS
  rw [e]
  omega
theorem w_rng {p : Int32} {lo hi : Nat} (h1 : lo < 2 ^ 63) (h2 : hi < 2 ^ 63) : (lN lo ≤ p.toInt64 ∧ p.toInt64 ≤ lN hi) ↔ rng p lo hi := by
  rw [Int64.le_iff_toInt_le, Int64.le_iff_toInt_le, pk_lT h1, pk_lT h2, Int32.toInt_toInt64]
theorem w_nat {v lo hi : Nat} (h0 : v < 2 ^ 63) (h1 : lo < 2 ^ 63) (h2 : hi < 2 ^ 63) : (lN lo ≤ lN v ∧ lN v ≤ lN hi) ↔ (lo ≤ v ∧ v ≤ hi) := by
  rw [pk_lLE h1 h0, pk_lLE h0 h2]
theorem m1_toInt {n : Nat} (h : n < 1073741824) : (nI n - nI 1).toInt = (n : Int) - 1 := pk_sub_toInt (b := 1) (by omega) (by omega)
theorem w_rngS {p : Int32} {n : Nat} (h : n < 1073741824) : (lN 0 ≤ p.toInt64 ∧ p.toInt64 ≤ (nI n - nI 1).toInt64) ↔ rngS p n := by
  rw [Int64.le_iff_toInt_le, Int64.le_iff_toInt_le, pk_lT (show 0 < 2 ^ 63 by omega), Int32.toInt_toInt64, Int32.toInt_toInt64, m1_toInt h]
  unfold rngS
  omega
theorem w_natS {v n : Nat} (h0 : v < 2 ^ 63) (h : n < 1073741824) : (lN 0 ≤ lN v ∧ lN v ≤ (nI n - nI 1).toInt64) ↔ v < n := by
  rw [Int64.le_iff_toInt_le, Int64.le_iff_toInt_le, pk_lT (show 0 < 2 ^ 63 by omega), Int32.toInt_toInt64, m1_toInt h, pk_lT h0]
  omega
/-- sums -/
def sm (a : Nat → Nat) : Nat → Nat
  | 0 => 0
  | n + 1 => sm a n + a n
theorem sm_le {a : Nat → Nat} {b : Nat} : ∀ {n : Nat}, (∀ j, j < n → a j ≤ b) → sm a n ≤ n * b
  | 0, _ => Nat.zero_le _
  | n + 1, h => by
    have h1 := sm_le (n := n) (fun j hj => h j (by omega))
    have h2 := h n (by omega)
    rw [Nat.succ_mul]
    show sm a n + a n ≤ _
    omega
theorem sm_cong {a b : Nat → Nat} : ∀ {n : Nat}, (∀ j, j < n → a j = b j) → sm a n = sm b n
  | 0, _ => rfl
  | n + 1, h => by
    show sm a n + a n = sm b n + b n
    rw [sm_cong (n := n) (fun j hj => h j (by omega)), h n (by omega)]
end
section
/-- a ROW of the class: its object at role k, its cells at role k + 1 -/
def rRow (X : Cx) (ad : Nat → Nat) (k n : Nat) (a : Nat → Nat) (g : PF) : Prop := ∃ x : Nat → Nat, g k = .inr (3, [.int (nI n), .ref (ad (k + 1))]) ∧ g (k + 1) = arr X 400 x ∧ (∀ j, j < n → x j = a j) ∧ n ≤ 400 ∧ ∀ j, j < n → a j ≤ 1000000
def fr2 (k : Nat) (g g' : PF) : Prop := ∀ j, j ≠ k → j ≠ k + 1 → g' j = g j
theorem rRow.same {X : Cx} {ad : Nat → Nat} {k n : Nat} {a : Nat → Nat} {g g' : PF} (h : rRow X ad k n a g) (h1 : g' k = g k) (h2 : g' (k + 1) = g (k + 1)) : rRow X ad k n a g' := by
  obtain ⟨x, q1, q2, q3⟩ := h
  exact ⟨x, h1.trans q1, h2.trans q2, q3⟩
theorem post3 {X : Cx} {ad : Nat → Nat} {k : Nat} {g g' : PF} {S : Int32 × Nat × (Nat → Nat)} {r : Int32} {n' : Nat} {a' : Nat → Nat} (e : S = (r, n', a')) (h : rRow X ad k n' a' g') (f : fr2 k g g') : r = S.1 ∧ rRow X ad k S.2.1 S.2.2 g' ∧ fr2 k g g' := by
  subst e
  exact ⟨rfl, h, f⟩
/-- the sum of k CELLS from f on -/
def sg (a : Nat → Nat) (f k : Nat) : Nat := sm (fun i => a (f + i)) k
theorem sg_step {a : Nat → Nat} {f i : Nat} (h : f ≤ i) : sg a f (i + 1 - f) = sg a f (i - f) + a i := by
  have e : i + 1 - f = (i - f) + 1 := by omega
  have e2 : f + (i - f) = i := by omega
  rw [e]
  show sm _ (i - f) + a (f + (i - f)) = _
  rw [e2]
  rfl
theorem sg_le {a : Nat → Nat} {f k b : Nat} (h : ∀ j, j < k → a (f + j) ≤ b) : sg a f k ≤ k * b := sm_le h
theorem sg_0 (a : Nat → Nat) (k : Nat) : sg a 0 k = sm a k := by
  unfold sg
  exact sm_cong (fun j _ => by rw [Nat.zero_add])
def sp_at (i : Int32) (n : Nat) (a : Nat → Nat) : Int32 := if rngS i n then nI (a (tN i)) else -1
def sp_cell (v : Int32) (n : Nat) (a : Nat → Nat) : Int32 × Nat × (Nat → Nat) := if rng v 0 1000000 then (if 400 ≤ n then (-4, n, a) else (nI (n + 1), n + 1, va_up a n (tN v))) else (-2, n, a)
def sp_empty (n : Nat) (a : Nat → Nat) : Int32 × Nat × (Nat → Nat) := (nI n, 0, a)
end
section
theorem tb_out {x : Int32} (h0 : ¬ x = nI 0) (h1 : ¬ x = nI 1) (h2 : ¬ x = nI 2) : x.toInt < 0 ∨ 2 < x.toInt := by
  rcases Int.lt_or_le x.toInt 0 with q | q
  · exact Or.inl q
  · obtain ⟨n, e, hn⟩ := nI_ofI q
    refine Or.inr ?_
    have a0 : n ≠ 0 := fun z => h0 (by rw [e, z])
    have a1 : n ≠ 1 := fun z => h1 (by rw [e, z])
    have a2 : n ≠ 2 := fun z => h2 (by rw [e, z])
    omega
def sp_mean (n : Nat) (a : Nat → Nat) : Nat := sm a n / n
def sp_unev (n : Nat) (a : Nat → Nat) : Int64 := lN (n * sm (fun j => a j * a j) n) - lN (sm a n * sm a n)
def sp_about (w : Int32) (n : Nat) (a : Nat → Nat) : Int64 := if w = nI 0 then lN n else if w = nI 1 then lN (sm a n) else if w = nI 2 then sp_unev n a else -1
def mx (h : Int64) (a : Nat → Nat) : Nat → Int64
  | 0 => h
  | i + 1 => lN 31 * mx h a i + lN (a i)
theorem mx_cong {a b : Nat → Nat} {h : Int64} : ∀ {n : Nat}, (∀ j, j < n → a j = b j) → mx h a n = mx h b n
  | 0, _ => rfl
  | n + 1, q => by
    show lN 31 * mx h a n + lN (a n) = lN 31 * mx h b n + lN (b n)
    rw [mx_cong (n := n) (fun j hj => q j (by omega)), q n (by omega)]
abbrev lawP (th tn lq : Int32) : Prop := rng th 1 1000 ∧ rng tn 0 100 ∧ rng lq 1 50
theorem div_cmp {a b c d : Nat} (hb : 0 < b) (hd : 0 < d) : (if a / b = c / d then c % d * b < a % b * d else c / d < a / b) ↔ c * b < a * d := by
  have ea := Nat.div_add_mod a b
  have ec := Nat.div_add_mod c d
  have ma := Nat.mod_lt a hb
  have mc := Nat.mod_lt c hd
  generalize a / b = q at *
  generalize c / d = r at *
  generalize a % b = x at *
  generalize c % d = y at *
  subst ea
  subst ec
  by_cases h : q = r
  · subst h
    rw [if_pos rfl, Nat.add_mul, Nat.add_mul]
    have e : d * q * b = b * q * d := by rw [Nat.mul_right_comm, Nat.mul_comm d b, Nat.mul_right_comm b d q]
    omega
  · rw [if_neg h]
    constructor
    · intro h2
      have h3 : (d * r + y) * b < (d * q) * b := Nat.mul_lt_mul_of_pos_right (by
        have := Nat.mul_le_mul_left d (show r + 1 ≤ q by omega)
        rw [Nat.mul_add, Nat.mul_one] at this
        omega) hb
      have e : d * q * b = b * q * d := by rw [Nat.mul_right_comm, Nat.mul_comm d b, Nat.mul_right_comm b d q]
      have h4 : b * q * d ≤ (b * q + x) * d := Nat.mul_le_mul_right d (by omega)
      omega
    · intro h2
      refine Nat.lt_of_not_le (fun h3 => ?_)
      have h5 : q + 1 ≤ r := by omega
      have h6 : (b * q + x) * d ≤ (b * r) * d := Nat.mul_le_mul_right d (by
        have := Nat.mul_le_mul_left b h5
        rw [Nat.mul_add, Nat.mul_one] at this
        omega)
      have e : d * r * b = b * r * d := by rw [Nat.mul_right_comm, Nat.mul_comm d b, Nat.mul_right_comm b d r]
      have h4 : d * r * b ≤ (d * r + y) * b := Nat.mul_le_mul_right b (by omega)
      omega
/-- how long the run is that begins at i: up to k CELLS -/
def rn (q : Nat → Prop) [DecidablePred q] : Nat → Nat → Nat
  | 0, _ => 0
  | k + 1, i => if q i then rn q k (i + 1) + 1 else 0
theorem rn_le (q : Nat → Prop) [DecidablePred q] : ∀ k i, rn q k i ≤ k
  | 0, _ => Nat.le_refl _
  | k + 1, i => by
    unfold rn
    by_cases h : q i
    · rw [if_pos h]; exact Nat.succ_le_succ (rn_le q k (i + 1))
    · rw [if_neg h]; exact Nat.zero_le _
theorem rn_yes {q : Nat → Prop} [DecidablePred q] {n i : Nat} (h : i < n) (hq : q i) : rn q (n - i) i = rn q (n - (i + 1)) (i + 1) + 1 := by
  have e : n - i = (n - (i + 1)) + 1 := by omega
  rw [e]
  show (if q i then _ else _) = _
  rw [if_pos hq]
theorem rn_no {q : Nat → Prop} [DecidablePred q] {n i : Nat} (hq : ¬ q i) : rn q (n - i) i = 0 := by
  cases n - i with
  | zero => rfl
  | succ k => show (if q i then _ else _) = _; rw [if_neg hq]
theorem rn_end {q : Nat → Prop} [DecidablePred q] {n i : Nat} (h : n ≤ i) : rn q (n - i) i = 0 := by
  rw [Nat.sub_eq_zero_of_le h]; rfl
abbrev qt (t : Nat) (a : Nat → Nat) (B : Nat) (i : Nat) : Prop := if t = 0 then a i * 100 ≤ B else B ≤ a i * 100
def run (t : Nat) (n : Nat) (a : Nat → Nat) (B i : Nat) : Nat := rn (qt t a B) (n - i) i
theorem run_le (t n : Nat) (a : Nat → Nat) (B i : Nat) : run t n a B i ≤ n - i := rn_le _ _ _
def plc (n : Nat) (a : Nat → Nat) (B C lq i : Nat) : Nat := if lq ≤ run 1 n a B i then run 1 n a B i else if lq ≤ run 0 n a C i then run 0 n a C i else 0
theorem plc_le (n : Nat) (a : Nat → Nat) (B C lq i : Nat) : plc n a B C lq i ≤ n - i := by
  have h1 := run_le 1 n a B i
  have h2 := run_le 0 n a C i
  unfold plc
  split
  · exact h1
  · split
    · exact h2
    · omega
/-- the WAVE -/
def zs (a : Nat → Nat) (w i k : Nat) : Nat := sm (fun j => a (i + j * w)) k
def wS (n : Nat) (a : Nat → Nat) (w i : Nat) : Nat := sm (fun j => zs a w j (n / w)) i
def wQ (n : Nat) (a : Nat → Nat) (w i : Nat) : Nat := sm (fun j => zs a w j (n / w) * zs a w j (n / w)) i
theorem cs_aux (f : Nat → Nat) (z : Nat) : ∀ n, 2 * (z * sm f n) ≤ sm (fun j => f j * f j) n + n * (z * z)
  | 0 => by simp [sm]
  | n + 1 => by
    have h := cs_aux f z n
    show 2 * (z * (sm f n + f n)) ≤ sm (fun j => f j * f j) n + f n * f n + (n + 1) * (z * z)
    have h2 : 2 * (z * f n) ≤ f n * f n + z * z := by
      rcases Nat.le_total z (f n) with q | q
      · obtain ⟨t, ht⟩ := Nat.le.dest q
        rw [← ht]
        simp only [Nat.mul_add, Nat.add_mul]
        have : t * z = z * t := Nat.mul_comm _ _
        have := Nat.zero_le (t * t)
        omega
      · obtain ⟨t, ht⟩ := Nat.le.dest q
        rw [← ht]
        simp only [Nat.mul_add, Nat.add_mul]
        have : t * f n = f n * t := Nat.mul_comm _ _
        have := Nat.zero_le (t * t)
        omega
    rw [Nat.mul_add, Nat.mul_add, show (n + 1) * (z * z) = n * (z * z) + z * z from by rw [Nat.add_mul, Nat.one_mul]]
    omega
theorem cauchy (f : Nat → Nat) : ∀ n, sm f n * sm f n ≤ n * sm (fun j => f j * f j) n
  | 0 => by simp [sm]
  | n + 1 => by
    have h := cauchy f n
    have h2 := cs_aux f (f n) n
    show (sm f n + f n) * (sm f n + f n) ≤ (n + 1) * (sm (fun j => f j * f j) n + f n * f n)
    simp only [Nat.mul_add, Nat.add_mul, Nat.one_mul]
    have e : f n * sm f n = sm f n * f n := Nat.mul_comm _ _
    rw [e] at h2 ⊢
    omega
theorem wS_sq (n : Nat) (a : Nat → Nat) (w : Nat) : wS n a w w * wS n a w w ≤ w * wQ n a w w := cauchy _ w
def wv (w n : Nat) (a : Nat → Nat) : Nat := w * wQ n a w w - wS n a w w * wS n a w w
def sp_wave (q : Int32) (n : Nat) (a : Nat → Nat) : Int64 := if rng q 2 200 then lN (wv (tN q) n a) else -1
end
section
theorem ni_decr (a : Nat) : nI a + Int32.ofInt (-1) = nI a - nI 1 := by
  rw [Int32.sub_eq_add_neg]
  rfl
theorem fa_mask31 (n : Nat) : nI n &&& nI 2147483647 = nI (n % 2147483648) := by
  have h := pk_and (nI n) (m := nI 2147483647) 31 (by decide)
  rw [h]
  apply Int32.toBitVec_inj.mp
  show BitVec.ofNat 32 _ = BitVec.ofNat 32 _
  congr 1
  show (BitVec.ofNat 32 n).toNat % 2 ^ 31 = _
  rw [BitVec.toNat_ofNat]
  omega
section YD
variable {p : Program} {l : Launch} {e : Env} {R : Room} {s : State} {m : MethodId} {args : Array Value} {below : List Frame} {meth : Method} {c : Code} {H : Heap} {locs : List Loc} {cells slots : Nat} {Q : State → Prop} {pc : Nat} {ls : Array Slot} {rest : List Value} {cc : ByteArray}
theorem ni_mask31 (hx : p.tables.exec = Jvm.exec) (hb : c.code = cc) {a : Nat} (hdg : decode cc pc = .ok (.iand, 1))
    (k : W p l e R s m args below meth c H locs cells slots Q (F0 m (pc + 1) ls (.int (nI (a % 2147483648)) :: rest))) : W p l e R s m args below meth c H locs cells slots Q (F0 m pc ls (.int (nI 2147483647) :: .int (nI a) :: rest)) := lv_iand hx hb hdg (by rw [fa_mask31]; exact k)
end YD
theorem rn_cong {q r : Nat → Prop} [DecidablePred q] [DecidablePred r] : ∀ {k i : Nat}, (∀ j, i ≤ j → j < i + k → (q j ↔ r j)) → rn q k i = rn r k i
  | 0, _, _ => rfl
  | k + 1, i, h => by
    have h0 := h i (by omega) (by omega)
    have h1 := rn_cong (k := k) (i := i + 1) (fun j h2 h3 => h j (by omega) (by omega))
    show (if q i then rn q k (i + 1) + 1 else 0) = if r i then rn r k (i + 1) + 1 else 0
    by_cases z : q i
    · rw [if_pos z, if_pos (h0.mp z), h1]
    · rw [if_neg z, if_neg (fun y => z (h0.mpr y))]
theorem run_cong {t n B i : Nat} {a b : Nat → Nat} (h : ∀ j, i ≤ j → j < n → a j = b j) : run t n a B i = run t n b B i := by
  refine rn_cong (fun j h1 h2 => ?_)
  unfold qt
  rw [h j h1 (by omega)]
theorem plc_cong {n B C lq i : Nat} {a b : Nat → Nat} (h : ∀ j, i ≤ j → j < n → a j = b j) : plc n a B C lq i = plc n b B C lq i := by
  unfold plc
  rw [run_cong h, run_cong h]
theorem sg_cong {a b : Nat → Nat} {f k : Nat} (h : ∀ j, f ≤ j → j < f + k → a j = b j) : sg a f k = sg b f k := sm_cong (fun j hj => h (f + j) (by omega) (by omega))
/-- a cursor that goes on by stp i, at least by 1 -/
def cur {σ : Type} (stp : Nat → Nat) (f : Nat → σ → σ) (n : Nat) : Nat → Nat → σ → σ
  | 0, _, z => z
  | k + 1, i, z => if i < n then cur stp f n k (i + max (stp i) 1) (f i z) else z
theorem cur_no {σ : Type} (stp : Nat → Nat) (f : Nat → σ → σ) {n i : Nat} (h : n ≤ i) (z : σ) : ∀ k, cur stp f n k i z = z
  | 0 => rfl
  | k + 1 => by
    show (if i < n then _ else z) = _
    rw [if_neg (by omega)]
theorem cur_yes {σ : Type} (stp : Nat → Nat) (f : Nat → σ → σ) {n i : Nat} (h : i < n) (z : σ) (k : Nat) : cur stp f n (k + 1) i z = cur stp f n k (i + max (stp i) 1) (f i z) := by
  show (if i < n then _ else z) = _
  rw [if_pos h]
theorem cur_fuel {σ : Type} (stp : Nat → Nat) (f : Nat → σ → σ) (n : Nat) : ∀ (k k' i : Nat) (z : σ), n - i ≤ k → n - i ≤ k' → cur stp f n k i z = cur stp f n k' i z := by
  intro k
  induction k with
  | zero => intro k' i z h _; rw [cur_no _ _ (by omega), cur_no _ _ (by omega)]
  | succ k ih =>
    intro k' i z h h'
    by_cases hi : i < n
    · obtain ⟨t, rfl⟩ : ∃ t, k' = t + 1 := ⟨k' - 1, by omega⟩
      rw [cur_yes _ _ hi, cur_yes _ _ hi]
      exact ih t _ _ (by omega) (by omega)
    · rw [cur_no _ _ (by omega), cur_no _ _ (by omega)]
theorem cur_step {σ : Type} (stp : Nat → Nat) (f : Nat → σ → σ) {n i : Nat} (h : i < n) (z : σ) : cur stp f n (n - i) i z = cur stp f n (n - (i + max (stp i) 1)) (i + max (stp i) 1) (f i z) := by
  obtain ⟨t, ht⟩ : ∃ t, n - i = t + 1 := ⟨n - i - 1, by omega⟩
  rw [ht, cur_yes _ _ h]
  exact cur_fuel _ _ _ _ _ _ _ (by omega) (by omega)
/-- counted PLACES -/
def cpf (R : Nat → Nat) (lq : Nat) (i c : Nat) : Nat := if lq ≤ R i then c + 1 else c
def sp_places (th tn lq so : Int32) (n : Nat) (a : Nat → Nat) : Int32 :=
  if lawP th tn lq ∧ rng so 0 1 then (if so = nI 0 then nI (cur (run 1 n a (sp_mean n a * (100 + tN th))) (cpf (run 1 n a (sp_mean n a * (100 + tN th))) (tN lq)) n n 0 0) else nI (cur (run 0 n a (sp_mean n a * (100 - tN tn))) (cpf (run 0 n a (sp_mean n a * (100 - tN tn))) (tN lq)) n n 0 0)) else -2
/-- CLEARED: kept, SPLICES, whether one went just ahead, what stays -/
def clf (n : Nat) (a : Nat → Nat) (B C lq : Nat) (i : Nat) (z : Nat × Nat × Nat × (Nat → Nat)) : Nat × Nat × Nat × (Nat → Nat) :=
  if plc n a B C lq i = 0 then (z.1 + 1, z.2.1 + (if 0 < z.2.2.1 ∧ 0 < z.1 then 1 else 0), 0, va_up z.2.2.2 z.1 (a i)) else (z.1, z.2.1, 1, z.2.2.2)
def cl (n : Nat) (a : Nat → Nat) (B C lq : Nat) : Nat × Nat × Nat × (Nat → Nat) := cur (plc n a B C lq) (clf n a B C lq) n n 0 (0, 0, 0, fun _ => 0)
def sp_cleared (th tn lq : Int32) (n : Nat) (a : Nat → Nat) : Int32 × Nat × (Nat → Nat) :=
  if lawP th tn lq then (nI (cl n a (sp_mean n a * (100 + tN th)) (sp_mean n a * (100 - tN tn)) (tN lq)).2.1, (cl n a (sp_mean n a * (100 + tN th)) (sp_mean n a * (100 - tN tn)) (tN lq)).1, (cl n a (sp_mean n a * (100 + tN th)) (sp_mean n a * (100 - tN tn)) (tN lq)).2.2.2) else (-2, n, a)
/-- the greatest WAVE -/
def bst (b : Nat) : Int32 := if b = 0 then -1 else nI b
theorem bst_0 {b : Nat} (h : b < 2147483648) : bst b = -1 ↔ b = 0 := by
  unfold bst
  by_cases z : b = 0
  · simp [z]
  · rw [if_neg z]
    refine ⟨fun q => ?_, fun q => absurd q z⟩
    have h1 : (nI b).toInt = (b : Int) := nI_toInt (by omega)
    rw [q] at h1
    have h2 : (-1 : Int32).toInt = -1 := by decide
    omega
def by3 (n w : Nat) : Nat := n / w * w * w
def gr (n : Nat) (a : Nat → Nat) : Nat → Nat × Nat × Nat
  | 0 => (0, 0, 1)
  | k + 1 => if (gr n a k).1 = 0 ∨ (gr n a k).2.1 * by3 n (k + 2) < wv (k + 2) n a * (gr n a k).2.2 then (k + 2, wv (k + 2) n a, by3 n (k + 2)) else gr n a k
def sp_greatest (q : Int32) (n : Nat) (a : Nat → Nat) : Int32 := if rng q 2 200 then bst (gr n a (min (tN q) (n / 2) - 1)).1 else -2
theorem by3_in {n w : Nat} (hn : n ≤ 400) (hw : 2 ≤ w) (hw2 : w ≤ 200) (h : w ≤ n) : 0 < by3 n w ∧ by3 n w ≤ 80000 := by
  have h1 := Nat.div_mul_le_self n w
  have h2 : 1 ≤ n / w := Nat.div_pos h (by omega)
  have h3 := Nat.mul_le_mul h2 (Nat.le_refl w)
  unfold by3
  generalize n / w * w = t at *
  constructor
  · exact Nat.mul_pos (by omega) (by omega)
  · exact Nat.le_trans (Nat.mul_le_mul (show t ≤ 400 by omega) hw2) (by omega)
theorem zs_le {a : Nat → Nat} {n w i : Nat} (hab : ∀ j, j < n → a j ≤ 1000000) (hi : i < w) : zs a w i (n / w) ≤ n / w * 1000000 := by
  refine sm_le (fun j hj => hab _ ?_)
  have h1 := Nat.div_mul_le_self n w
  have h2 := Nat.mul_le_mul_right w (show j + 1 ≤ n / w from hj)
  rw [Nat.succ_mul] at h2
  omega
theorem wv_le {a : Nat → Nat} {n w : Nat} (hn : n ≤ 400) (hab : ∀ j, j < n → a j ≤ 1000000) : wv w n a ≤ 160000000000000000 := by
  have h1 : wQ n a w w ≤ w * ((n / w * 1000000) * (n / w * 1000000)) := sm_le (fun j hj => Nat.mul_le_mul (zs_le hab hj) (zs_le hab hj))
  have h2 := Nat.mul_le_mul_left w h1
  have h3 : w * (w * ((n / w * 1000000) * (n / w * 1000000))) = (n / w * w * 1000000) * (n / w * w * 1000000) := by
    generalize n / w = t
    simp only [Nat.mul_assoc, Nat.mul_comm, Nat.mul_left_comm]
  have h4 := Nat.div_mul_le_self n w
  have h5 : (n / w * w * 1000000) * (n / w * w * 1000000) ≤ 400000000 * 400000000 := Nat.mul_le_mul (by omega) (by omega)
  unfold wv
  omega
theorem gr_in {a : Nat → Nat} {n : Nat} (hn : n ≤ 400) (hab : ∀ j, j < n → a j ≤ 1000000) : ∀ k, (k = 0 ∨ (k + 1 ≤ 200 ∧ k + 1 ≤ n)) → (gr n a k).1 ≤ 200 ∧ (gr n a k).2.1 ≤ 160000000000000000 ∧ 0 < (gr n a k).2.2 ∧ (gr n a k).2.2 ≤ 80000
  | 0, _ => by simp [gr]
  | k + 1, h => by
    have h0 := gr_in hn hab k (by omega)
    have h1 := by3_in hn (show 2 ≤ k + 2 by omega) (by omega) (by omega)
    have h2 := wv_le (w := k + 2) hn hab
    show (if _ then _ else _ : Nat × Nat × Nat).1 ≤ 200 ∧ (if _ then _ else _ : Nat × Nat × Nat).2.1 ≤ _ ∧ 0 < (if _ then _ else _ : Nat × Nat × Nat).2.2 ∧ (if _ then _ else _ : Nat × Nat × Nat).2.2 ≤ _
    split
    · exact ⟨by show k + 2 ≤ 200; omega, h2, h1.1, h1.2⟩
    · exact h0
end
section
def sp_join (n2 : Nat) (b : Nat → Nat) (n : Nat) (a : Nat → Nat) : Int32 × Nat × (Nat → Nat) :=
  if n2 = n then (if ∀ j, j < n → a j + b j ≤ 1000000 then (nI n, n, fun j => a j + b j) else (-6, n, a)) else (-3, n, a)
/-- a row of numbers with one place written -/
theorem up_lt {x o : Nat → Nat} {i v : Nat} (h : ∀ j, j < i → x j = o j) : ∀ j, j < i + 1 → va_up x i v j = va_up o i v j := by
  intro j hj
  by_cases q : j = i
  · subst q; rw [va_up_self, va_up_self]
  · rw [va_up_ne _ _ q, va_up_ne _ _ q]; exact h j (by omega)
theorem up_le {x : Nat → Nat} {n i v B : Nat} (h : ∀ j, j < n → x j ≤ B) (hv : v ≤ B) : ∀ j, j < n → va_up x i v j ≤ B := by
  intro j hj
  by_cases q : j = i
  · subst q; rw [va_up_self]; exact hv
  · rw [va_up_ne _ _ q]; exact h j hj
theorem up_ge {x a : Nat → Nat} {n i i' k v : Nat} (h : ∀ j, i ≤ j → j < n → x j = a j) (h1 : i ≤ i') (h2 : k < i') : ∀ j, i' ≤ j → j < n → va_up x k v j = a j := by
  intro j h3 h4
  rw [va_up_ne _ _ (by omega)]
  exact h j (by omega) h4
theorem mean_le {a : Nat → Nat} {n : Nat} (hn : n ≤ 400) (hab : ∀ j, j < n → a j ≤ 1000000) : sp_mean n a ≤ 400000000 := by
  have h := sm_le hab
  have h2 := Nat.div_le_self (sm a n) n
  unfold sp_mean
  omega
theorem mean_up {a : Nat → Nat} {n t : Nat} (hn : n ≤ 400) (hab : ∀ j, j < n → a j ≤ 1000000) (ht : t ≤ 1100) : sp_mean n a * t < 2 ^ 62 := by
  have h := Nat.mul_le_mul (mean_le hn hab) ht
  omega
end
section
theorem ge0_nI {p : Int32} (h : 0 ≤ p) : ∃ n : Nat, p = nI n ∧ n < 2147483648 := by
  have h1 := Int32.le_iff_toInt_le.mp h
  have e : (0 : Int32).toInt = 0 := by decide
  rw [e] at h1
  obtain ⟨n, h2, h3⟩ := nI_ofI h1
  have := i32_rng p
  exact ⟨n, h2, by omega⟩
theorem m1_neg {n : Nat} (h : n < 1073741824) : nI n - nI 1 < 0 ↔ n = 0 := by
  rw [Int32.lt_iff_toInt_lt, m1_toInt h, show (0 : Int32).toInt = 0 by decide]
  omega
theorem ni_pred (n : Nat) : nI (n + 1) - nI 1 = nI n := by rw [pk_sub (by omega)]; rfl
/-- STRETCHED -/
def stf (d : Nat) (a : Nat → Nat) (j : Nat) : Nat := a (j / d) / d + if j % d < a (j / d) % d then 1 else 0
theorem stf_at {d q i : Nat} (a : Nat → Nat) (h : i < d) : stf d a (q * d + i) = a q / d + if i < a q % d then 1 else 0 := by
  have e1 : (q * d + i) / d = q := by rw [Nat.mul_comm, Nat.mul_add_div (by omega), Nat.div_eq_of_lt h, Nat.add_zero]
  have e2 : (q * d + i) % d = i := by rw [Nat.mul_comm, Nat.mul_add_mod, Nat.mod_eq_of_lt h]
  unfold stf
  rw [e1, e2]
def sp_stretch (q : Int32) (n : Nat) (a : Nat → Nat) : Int32 × Nat × (Nat → Nat) :=
  if rng q 2 8 then (if 400 < n * tN q then (-4, n, a) else (nI (n * tN q), n * tN q, stf (tN q) a)) else (-2, n, a)
theorem stf_le {a : Nat → Nat} {n d : Nat} (hab : ∀ j, j < n → a j ≤ 1000000) (hd : 2 ≤ d) : ∀ j, j < n * d → stf d a j ≤ 1000000 := by
  intro j hj
  have h1 : j / d < n := Nat.div_lt_of_lt_mul (by rw [Nat.mul_comm]; exact hj)
  have h2 := hab _ h1
  have h3 : a (j / d) / d ≤ a (j / d) / 2 := Nat.div_le_div_left hd (by omega)
  unfold stf
  split <;> omega
/-- GATHERED -/
def gsm (n : Nat) (a : Nat → Nat) (d i : Nat) : Nat := sg a (i * d) (min (i * d + d) n - i * d)
theorem ceil_lt {n d q : Nat} (hd : 0 < d) : q < (n + d - 1) / d ↔ q * d < n := by
  rw [Nat.lt_iff_add_one_le, Nat.le_div_iff_mul_le hd, Nat.succ_mul]
  omega
def sp_gather (q : Int32) (n : Nat) (a : Nat → Nat) : Int32 × Nat × (Nat → Nat) :=
  if rng q 2 20 then (if ∀ i, i < (n + tN q - 1) / tN q → gsm n a (tN q) i ≤ 1000000 then (nI ((n + tN q - 1) / tN q), (n + tN q - 1) / tN q, gsm n a (tN q)) else (-6, n, a)) else (-2, n, a)
/-- drawn -/
def lcg (z : Nat) : Nat → Nat
  | 0 => z
  | k + 1 => (lcg z k * 1103515245 + 12345) % 2147483648
theorem lcg_lt {z : Nat} (h : z < 2147483648) : ∀ k, lcg z k < 2147483648
  | 0 => h
  | k + 1 => Nat.mod_lt _ (by omega)
def dr (mv wv z j : Nat) : Nat := mv + lcg z (j + 1) / 65536 % (2 * wv + 1) - wv
def sp_draw (nn mm ww sd : Int32) (n : Nat) (a : Nat → Nat) : Int32 × Nat × (Nat → Nat) :=
  if rng nn 1 100 ∧ rng mm 0 10000 ∧ rng ww 0 (tN mm) ∧ 0 ≤ sd then (if 400 < n + tN nn then (-4, n, a) else (nI (n + tN nn), n + tN nn, fun j => if j < n then a j else dr (tN mm) (tN ww) (tN sd) (j - n))) else (-2, n, a)
/-- a FAULT -/
def gvn (a : Nat → Nat) (z j : Nat) : Nat := a j * z / 1000
def flt (n : Nat) (a : Nat → Nat) (w z j : Nat) : Nat :=
  if j / w < n / w then (if j % w < w / 2 then a j - gvn a z j else if j % w < 2 * (w / 2) then a j + gvn a z (j - w / 2) else a j) else a j
abbrev fltC (n : Nat) (a : Nat → Nat) (w z : Nat) : Prop := ∀ q, q < n / w → ∀ i, i < w / 2 → a (q * w + i + w / 2) + gvn a z (q * w + i) ≤ 1000000
def fltS (n : Nat) (a : Nat → Nat) (w z q : Nat) : Nat := sm (fun q => sm (fun i => gvn a z (q * w + i)) (w / 2)) q
theorem gvn_le {a : Nat → Nat} {z j : Nat} (h : z ≤ 1000) : gvn a z j ≤ a j := by
  unfold gvn
  have := Nat.mul_le_mul_left (a j) h
  omega
theorem qd_at {w q i : Nat} (h : i < w) : (q * w + i) / w = q ∧ (q * w + i) % w = i :=
  ⟨by rw [Nat.mul_comm, Nat.mul_add_div (by omega), Nat.div_eq_of_lt h, Nat.add_zero], by rw [Nat.mul_comm, Nat.mul_add_mod, Nat.mod_eq_of_lt h]⟩
theorem flt_lo {n w z q i : Nat} {a : Nat → Nat} (hq : q < n / w) (hi : i < w / 2) : flt n a w z (q * w + i) = a (q * w + i) - gvn a z (q * w + i) := by
  obtain ⟨e1, e2⟩ := qd_at (w := w) (q := q) (i := i) (by omega)
  unfold flt
  rw [e1, e2, if_pos hq, if_pos hi]
theorem flt_hi {n w z q i : Nat} {a : Nat → Nat} (hq : q < n / w) (hi : i < w / 2) : flt n a w z (q * w + i + w / 2) = a (q * w + i + w / 2) + gvn a z (q * w + i) := by
  obtain ⟨e1, e2⟩ := qd_at (w := w) (q := q) (i := i + w / 2) (by omega)
  rw [← Nat.add_assoc] at e1 e2
  unfold flt
  rw [e1, e2, if_pos hq, if_neg (by omega), if_pos (by omega), show q * w + i + w / 2 - w / 2 = q * w + i by omega]
theorem flt_mid {n w z q i : Nat} {a : Nat → Nat} (hi : i < w) (h2 : 2 * (w / 2) ≤ i) : flt n a w z (q * w + i) = a (q * w + i) := by
  obtain ⟨e1, e2⟩ := qd_at (w := w) (q := q) (i := i) (by omega)
  unfold flt
  rw [e1, e2]
  by_cases hq : q < n / w
  · rw [if_pos hq, if_neg (show ¬ i < w / 2 by omega), if_neg (show ¬ i < 2 * (w / 2) by omega)]
  · rw [if_neg hq]
theorem flt_out {n w z j : Nat} {a : Nat → Nat} (hw : 0 < w) (h : n / w * w ≤ j) : flt n a w z j = a j := by
  unfold flt
  rw [if_neg (fun q => by have := Nat.div_lt_iff_lt_mul hw |>.mp q; omega)]
theorem flt_le {n w z : Nat} {a : Nat → Nat} (hw : 0 < w) (hC : fltC n a w z) (hab : ∀ j, j < n → a j ≤ 1000000) : ∀ j, j < n → flt n a w z j ≤ 1000000 := by
  intro j hj
  have h0 := hab j hj
  unfold flt
  split
  · split
    · omega
    · split
      · rename_i h1 h2 h3
        have e := Nat.div_add_mod j w
        have h5 := hC (j / w) h1 (j % w - w / 2) (by omega)
        rw [show j / w * w + (j % w - w / 2) + w / 2 = j by rw [Nat.mul_comm]; omega, show j / w * w + (j % w - w / 2) = j - w / 2 by rw [Nat.mul_comm]; omega] at h5
        exact h5
      · omega
  · omega
def sp_fault (q z : Int32) (n : Nat) (a : Nat → Nat) : Int32 × Nat × (Nat → Nat) :=
  if rng q 2 400 ∧ rng z 0 1000 then (if fltC n a (tN q) (tN z) then (nI (fltS n a (tN q) (tN z) (n / tN q)), n, flt n a (tN q) (tN z)) else (-6, n, a)) else (-2, n, a)
end
section
theorem flt_step {n w z q t u : Nat} {a x : Nat → Nat} (ht : t = q * w) (hq : q < n / w) (h1 : t ≤ u) (h2 : u < t + w / 2) (h : ∀ j, j < n → x j = if j < t then flt n a w z j else if j < u ∨ (t + w / 2 ≤ j ∧ j < u + w / 2) then flt n a w z j else a j) : ∀ j, j < n → va_up (va_up x u (a u - a u * z / 1000)) (u + w / 2) (a (u + w / 2) + a u * z / 1000) j = if j < t then flt n a w z j else if j < u + 1 ∨ (t + w / 2 ≤ j ∧ j < u + 1 + w / 2) then flt n a w z j else a j := by
  intro j hj
  have e : q * w + (u - t) = u := by omega
  by_cases c1 : j = u + w / 2
  · rw [c1, va_up_self, if_neg (by omega), if_pos (by omega)]
    have := flt_hi (n := n) (w := w) (z := z) (q := q) (i := u - t) (a := a) hq (by omega)
    rw [e] at this
    rw [this]
    rfl
  · rw [va_up_ne _ _ c1]
    by_cases c2 : j = u
    · rw [c2, va_up_self, if_neg (by omega), if_pos (by omega)]
      have := flt_lo (n := n) (w := w) (z := z) (q := q) (i := u - t) (a := a) hq (by omega)
      rw [e] at this
      rw [this]
      rfl
    · rw [va_up_ne _ _ c2, h j hj]
      by_cases c3 : j < t
      · rw [if_pos c3, if_pos c3]
      · rw [if_neg c3, if_neg c3]
        by_cases c4 : j < u ∨ (t + w / 2 ≤ j ∧ j < u + w / 2)
        · rw [if_pos c4, if_pos (by omega)]
        · rw [if_neg c4, if_neg (by omega)]
theorem flt_next {n w z q t u : Nat} {a x : Nat → Nat} (ht : t = q * w) (hu : u = t + w / 2) (h : ∀ j, j < n → x j = if j < t then flt n a w z j else if j < u ∨ (t + w / 2 ≤ j ∧ j < u + w / 2) then flt n a w z j else a j) : ∀ j, j < n → x j = if j < t + w then flt n a w z j else a j := by
  intro j hj
  rw [h j hj]
  by_cases c3 : j < t
  · rw [if_pos c3, if_pos (by omega)]
  · rw [if_neg c3]
    by_cases c4 : j < u ∨ (t + w / 2 ≤ j ∧ j < u + w / 2)
    · rw [if_pos c4, if_pos (by omega)]
    · rw [if_neg c4]
      by_cases c5 : j < t + w
      · rw [if_pos c5]
        have := flt_mid (n := n) (w := w) (z := z) (q := q) (i := j - t) (a := a) (by omega) (by omega)
        rw [show q * w + (j - t) = j by omega] at this
        exact this.symm
      · rw [if_neg c5]
theorem sm_up {f : Nat → Nat} {t u : Nat} (h : t ≤ u) : sm f (u + 1 - t) = sm f (u - t) + f (u - t) := by
  rw [show u + 1 - t = (u - t) + 1 by omega]
  rfl
end
section
set_option maxHeartbeats 4000000 in
set_option maxRecDepth 100000 in
theorem k_X5_within (l : Launch) (X : Cx) (ad : Nat → Nat) (hi : inj 48 ad) (g : PF) (v lo hh : Int64) : Ki l yX5_within wsX5_within zr0 X 48 ad g [.long v, .long lo, .long hh] (fun r g' => g' = g ∧ r = bI (lo ≤ v ∧ v ≤ hh)) := by
  refine Ki.of (cc := cX5_within) (maxL := 6) hi (by decide) rfl (Nat.le_of_ble_eq_true rfl) ?_
  intro p e s m below meth c Q E RET ls hl
  obtain ⟨C0, FX, hH⟩ := E
  have hx := C0.1
  have hb := C0.2.1
  have hl : lv_has ls 6 [(0, .long v), (2, .long lo), (4, .long hh)] := hl
  refine lv_lload_n hx hb dX5_within_0 rfl (lv_at hl 0 rfl) ?_
  refine lv_lload_n hx hb dX5_within_1 rfl (lv_at hl 1 rfl) ?_
  refine lc_lt hx hb 17 dX5_within_2 dX5_within_3 (by decide) (fun c2 => ?_) (fun c2 => ?_)
  · refine lv_iconst (v := nI 0) hx hb dX5_within_17 (by decide) ?_
    refine RET _ _ _ _ _ _ dX5_within_18 (by decide) ?_ hH
    refine ⟨rfl, ?_⟩
    first | exact (bI_t ⟨by first | assumption | exact Int64.not_lt.mp (by assumption), by first | assumption | exact Int64.not_lt.mp (by assumption)⟩).symm | exact (bI_f (fun z => absurd z.1 (by assumption))).symm | exact (bI_f (fun z => absurd z.2 (by assumption))).symm | exact (bI_f (fun z => absurd (by assumption) (Int64.not_lt.mpr z.1))).symm | exact (bI_f (fun z => absurd (by assumption) (Int64.not_lt.mpr z.2))).symm
  · refine lv_lload_n hx hb dX5_within_6 rfl (lv_at hl 0 rfl) ?_
    refine lv_lload hx hb dX5_within_7 (lv_at hl 2 rfl) ?_
    refine lc_gt hx hb 17 dX5_within_9 dX5_within_10 (by decide) (fun c9 => ?_) (fun c9 => ?_)
    · refine lv_iconst (v := nI 0) hx hb dX5_within_17 (by decide) ?_
      refine RET _ _ _ _ _ _ dX5_within_18 (by decide) ?_ hH
      refine ⟨rfl, ?_⟩
      first | exact (bI_t ⟨by first | assumption | exact Int64.not_lt.mp (by assumption), by first | assumption | exact Int64.not_lt.mp (by assumption)⟩).symm | exact (bI_f (fun z => absurd z.1 (by assumption))).symm | exact (bI_f (fun z => absurd z.2 (by assumption))).symm | exact (bI_f (fun z => absurd (by assumption) (Int64.not_lt.mpr z.1))).symm | exact (bI_f (fun z => absurd (by assumption) (Int64.not_lt.mpr z.2))).symm
    · refine lv_iconst (v := nI 1) hx hb dX5_within_13 (by decide) ?_
      refine lv_goto (tgt := 18) hx hb dX5_within_14 (by decide) ?_
      refine RET _ _ _ _ _ _ dX5_within_18 (by decide) ?_ hH
      refine ⟨rfl, ?_⟩
      first | exact (bI_t ⟨by first | assumption | exact Int64.not_lt.mp (by assumption), by first | assumption | exact Int64.not_lt.mp (by assumption)⟩).symm | exact (bI_f (fun z => absurd z.1 (by assumption))).symm | exact (bI_f (fun z => absurd z.2 (by assumption))).symm | exact (bI_f (fun z => absurd (by assumption) (Int64.not_lt.mpr z.1))).symm | exact (bI_f (fun z => absurd (by assumption) (Int64.not_lt.mpr z.2))).symm
theorem k_X5_within_rng (l : Launch) (X : Cx) (ad : Nat → Nat) (hi : inj 48 ad) (g : PF) (q : Int32) (lo hh : Nat) (h1 : lo < 2 ^ 63) (h2 : hh < 2 ^ 63) : Ki l yX5_within wsX5_within zr0 X 48 ad g [.long q.toInt64, .long (lN lo), .long (lN hh)] (fun r g' => g' = g ∧ r = bI (rng q lo hh)) := by
  have hw := k_X5_within l X ad hi g (q.toInt64) ((lN lo)) ((lN hh))
  rw [bI_congr (w_rng h1 h2)] at hw
  exact hw
theorem k_X5_within_nat (l : Launch) (X : Cx) (ad : Nat → Nat) (hi : inj 48 ad) (g : PF) (v lo hh : Nat) (h0 : v < 2 ^ 63) (h1 : lo < 2 ^ 63) (h2 : hh < 2 ^ 63) : Ki l yX5_within wsX5_within zr0 X 48 ad g [.long (lN v), .long (lN lo), .long (lN hh)] (fun r g' => g' = g ∧ r = bI (lo ≤ v ∧ v ≤ hh)) := by
  have hw := k_X5_within l X ad hi g ((lN v)) ((lN lo)) ((lN hh))
  rw [bI_congr (w_nat h0 h1 h2)] at hw
  exact hw
theorem k_X5_within_rngS (l : Launch) (X : Cx) (ad : Nat → Nat) (hi : inj 48 ad) (g : PF) (q : Int32) (n : Nat) (h : n < 1073741824) : Ki l yX5_within wsX5_within zr0 X 48 ad g [.long q.toInt64, .long (lN 0), .long (nI n - nI 1).toInt64] (fun r g' => g' = g ∧ r = bI (rngS q n)) := by
  have hw := k_X5_within l X ad hi g (q.toInt64) ((lN 0)) ((nI n - nI 1).toInt64)
  rw [bI_congr (w_rngS h)] at hw
  exact hw
theorem k_X5_within_natS (l : Launch) (X : Cx) (ad : Nat → Nat) (hi : inj 48 ad) (g : PF) (v n : Nat) (h0 : v < 2 ^ 63) (h : n < 1073741824) : Ki l yX5_within wsX5_within zr0 X 48 ad g [.long (lN v), .long (lN 0), .long (nI n - nI 1).toInt64] (fun r g' => g' = g ∧ r = bI (v < n)) := by
  have hw := k_X5_within l X ad hi g ((lN v)) ((lN 0)) ((nI n - nI 1).toInt64)
  rw [bI_congr (w_natS h0 h)] at hw
  exact hw
set_option maxHeartbeats 4000000 in
set_option maxRecDepth 100000 in
theorem k_X6_in (l : Launch) (X : Cx) (ad : Nat → Nat) (hi : inj 48 ad) (g : PF) (v lo hh : Int64) : Ki l yX6_in wsX6_in zr0 X 48 ad g [.long v, .long lo, .long hh] (fun r g' => g' = g ∧ r = bI (lo ≤ v ∧ v ≤ hh)) := by
  refine Ki.of (cc := cX6_in) (maxL := 6) hi (by decide) rfl (Nat.le_of_ble_eq_true rfl) ?_
  intro p e s m below meth c Q E RET ls hl
  obtain ⟨C0, FX, hH⟩ := E
  have hx := C0.1
  have hb := C0.2.1
  have hl : lv_has ls 6 [(0, .long v), (2, .long lo), (4, .long hh)] := hl
  refine lv_lload_n hx hb dX6_in_0 rfl (lv_at hl 0 rfl) ?_
  refine lv_lload_n hx hb dX6_in_1 rfl (lv_at hl 1 rfl) ?_
  refine lc_lt hx hb 17 dX6_in_2 dX6_in_3 (by decide) (fun c2 => ?_) (fun c2 => ?_)
  · refine lv_iconst (v := nI 0) hx hb dX6_in_17 (by decide) ?_
    refine RET _ _ _ _ _ _ dX6_in_18 (by decide) ?_ hH
    refine ⟨rfl, ?_⟩
    first | exact (bI_t ⟨by first | assumption | exact Int64.not_lt.mp (by assumption), by first | assumption | exact Int64.not_lt.mp (by assumption)⟩).symm | exact (bI_f (fun z => absurd z.1 (by assumption))).symm | exact (bI_f (fun z => absurd z.2 (by assumption))).symm | exact (bI_f (fun z => absurd (by assumption) (Int64.not_lt.mpr z.1))).symm | exact (bI_f (fun z => absurd (by assumption) (Int64.not_lt.mpr z.2))).symm
  · refine lv_lload_n hx hb dX6_in_6 rfl (lv_at hl 0 rfl) ?_
    refine lv_lload hx hb dX6_in_7 (lv_at hl 2 rfl) ?_
    refine lc_gt hx hb 17 dX6_in_9 dX6_in_10 (by decide) (fun c9 => ?_) (fun c9 => ?_)
    · refine lv_iconst (v := nI 0) hx hb dX6_in_17 (by decide) ?_
      refine RET _ _ _ _ _ _ dX6_in_18 (by decide) ?_ hH
      refine ⟨rfl, ?_⟩
      first | exact (bI_t ⟨by first | assumption | exact Int64.not_lt.mp (by assumption), by first | assumption | exact Int64.not_lt.mp (by assumption)⟩).symm | exact (bI_f (fun z => absurd z.1 (by assumption))).symm | exact (bI_f (fun z => absurd z.2 (by assumption))).symm | exact (bI_f (fun z => absurd (by assumption) (Int64.not_lt.mpr z.1))).symm | exact (bI_f (fun z => absurd (by assumption) (Int64.not_lt.mpr z.2))).symm
    · refine lv_iconst (v := nI 1) hx hb dX6_in_13 (by decide) ?_
      refine lv_goto (tgt := 18) hx hb dX6_in_14 (by decide) ?_
      refine RET _ _ _ _ _ _ dX6_in_18 (by decide) ?_ hH
      refine ⟨rfl, ?_⟩
      first | exact (bI_t ⟨by first | assumption | exact Int64.not_lt.mp (by assumption), by first | assumption | exact Int64.not_lt.mp (by assumption)⟩).symm | exact (bI_f (fun z => absurd z.1 (by assumption))).symm | exact (bI_f (fun z => absurd z.2 (by assumption))).symm | exact (bI_f (fun z => absurd (by assumption) (Int64.not_lt.mpr z.1))).symm | exact (bI_f (fun z => absurd (by assumption) (Int64.not_lt.mpr z.2))).symm
theorem k_X6_in_rng (l : Launch) (X : Cx) (ad : Nat → Nat) (hi : inj 48 ad) (g : PF) (q : Int32) (lo hh : Nat) (h1 : lo < 2 ^ 63) (h2 : hh < 2 ^ 63) : Ki l yX6_in wsX6_in zr0 X 48 ad g [.long q.toInt64, .long (lN lo), .long (lN hh)] (fun r g' => g' = g ∧ r = bI (rng q lo hh)) := by
  have hw := k_X6_in l X ad hi g (q.toInt64) ((lN lo)) ((lN hh))
  rw [bI_congr (w_rng h1 h2)] at hw
  exact hw
theorem k_X6_in_nat (l : Launch) (X : Cx) (ad : Nat → Nat) (hi : inj 48 ad) (g : PF) (v lo hh : Nat) (h0 : v < 2 ^ 63) (h1 : lo < 2 ^ 63) (h2 : hh < 2 ^ 63) : Ki l yX6_in wsX6_in zr0 X 48 ad g [.long (lN v), .long (lN lo), .long (lN hh)] (fun r g' => g' = g ∧ r = bI (lo ≤ v ∧ v ≤ hh)) := by
  have hw := k_X6_in l X ad hi g ((lN v)) ((lN lo)) ((lN hh))
  rw [bI_congr (w_nat h0 h1 h2)] at hw
  exact hw
theorem k_X6_in_rngS (l : Launch) (X : Cx) (ad : Nat → Nat) (hi : inj 48 ad) (g : PF) (q : Int32) (n : Nat) (h : n < 1073741824) : Ki l yX6_in wsX6_in zr0 X 48 ad g [.long q.toInt64, .long (lN 0), .long (nI n - nI 1).toInt64] (fun r g' => g' = g ∧ r = bI (rngS q n)) := by
  have hw := k_X6_in l X ad hi g (q.toInt64) ((lN 0)) ((nI n - nI 1).toInt64)
  rw [bI_congr (w_rngS h)] at hw
  exact hw
theorem k_X6_in_natS (l : Launch) (X : Cx) (ad : Nat → Nat) (hi : inj 48 ad) (g : PF) (v n : Nat) (h0 : v < 2 ^ 63) (h : n < 1073741824) : Ki l yX6_in wsX6_in zr0 X 48 ad g [.long (lN v), .long (lN 0), .long (nI n - nI 1).toInt64] (fun r g' => g' = g ∧ r = bI (v < n)) := by
  have hw := k_X6_in l X ad hi g ((lN v)) ((lN 0)) ((nI n - nI 1).toInt64)
  rw [bI_congr (w_natS h0 h)] at hw
  exact hw
end
section
set_option maxHeartbeats 4000000 in
set_option maxRecDepth 100000 in
theorem k_X3_removeAll (l : Launch) (X : Cx) (ad : Nat → Nat) (hi : inj 48 ad) (g : PF) (k : Nat) (hk : k + 1 < 48) (n : Nat) (a : Nat → Nat) (hR : rRow X ad k n a g)  : Ki l yX3_removeAll wsX3_removeAll zr0 X 48 ad g [.ref (ad k)] (fun r g' => r = (sp_empty n a).1 ∧ rRow X ad k (sp_empty n a).2.1 (sp_empty n a).2.2 g' ∧ fr2 k g g') := by
  refine Ki.of (cc := cX3_removeAll) (maxL := 2) hi (by decide) rfl (Nat.le_of_ble_eq_true rfl) ?_
  intro p e s m below meth c Q E RET ls hl
  obtain ⟨C0, FX, hH⟩ := E
  have hx := C0.1
  have hb := C0.2.1
  have kiX3 : ∀ w ∈ u_ws RX3 TX3 2, w ∈ wsX3_removeAll := (by decide +kernel)
  have kf21 : Cond.fieldLink RX3 21 "YarnMill$Row" "size" "I" ∈ wsX3_removeAll := (by decide +kernel)
  have hl : lv_has ls 2 [(0, .ref (ad k))] := hl
  have fr : ∀ j, j ≠ k → j ≠ (k + 1) → g j = g j := fun j _ _ => rfl
  obtain ⟨x, fk, fc, hxa, hn, hab⟩ := hR
  refine lv_aload_n hx hb dX3_removeAll_0 rfl (lv_at hl 0 rfl) ?_
  refine rp_get C0 FX hH k (by omega) (ci := 3) (k := 0) fk rfl kiX3 (by decide) kf21 rfl dX3_removeAll_1 ?_
  refine lv_istore_n (lv' := [(1, .int (nI n)), (0, .ref (ad k))]) hx hb dX3_removeAll_4 rfl hl (by decide) rfl (fun ls hl => ?_)
  refine lv_aload_n hx hb dX3_removeAll_5 rfl (lv_at hl 1 rfl) ?_
  refine lv_iconst (v := nI 0) hx hb dX3_removeAll_6 (by decide) ?_
  refine rp_put C0 FX hH k (by omega) (ci := 3) (k := 0) tyX3 tyX3_ok nmX3 fk rfl kiX3 (by decide) kf21 rfl rfl rfl (Nat.le_of_ble_eq_true rfl) dX3_removeAll_7 (fun g1 H locs eq2 nq2 hH => ?_)
  have fk : g1 k = .inr (3, [.int (nI 0), .ref (ad (k + 1))]) := eq2
  have fc : g1 (k + 1) = arr X 400 x := (nq2 _ (by omega)).trans fc
  have fr : ∀ j, j ≠ k → j ≠ (k + 1) → g1 j = g j := fun j a0 a1 => (nq2 j (by omega)).trans (fr j a0 a1)
  refine lv_iload_n hx hb dX3_removeAll_10 rfl (lv_at hl 0 rfl) ?_
  refine RET _ _ _ _ _ _ dX3_removeAll_11 rfl ?_ hH
  exact post3 rfl ⟨_, fk, fc, fun j hj => absurd hj (Nat.not_lt_zero _), by omega, fun j hj => absurd hj (Nat.not_lt_zero _)⟩ fr
set_option maxHeartbeats 4000000 in
set_option maxRecDepth 100000 in
theorem k_X3_massAt (l : Launch) (X : Cx) (ad : Nat → Nat) (hi : inj 48 ad) (g : PF) (k : Nat) (hk : k + 1 < 48) (n : Nat) (a : Nat → Nat) (hR : rRow X ad k n a g) (p0 : Int32) : Ki l yX3_massAt wsX3_massAt zr1 X 48 ad g [.ref (ad k), .int p0] (fun r g' => g' = g ∧ r = sp_at p0 n a) := by
  refine Ki.of (cc := cX3_massAt) (maxL := 2) hi (by decide) rfl (Nat.le_of_ble_eq_true rfl) ?_
  intro p e s m below meth c Q E RET ls hl
  obtain ⟨C0, FX, hH⟩ := E
  have hx := C0.1
  have hb := C0.2.1
  have kiX3 : ∀ w ∈ u_ws RX3 TX3 2, w ∈ wsX3_massAt := (by decide +kernel)
  have kf11 : Cond.fieldLink RX3 11 "YarnMill$Row" "cells" "[I" ∈ wsX3_massAt := (by decide +kernel)
  have kf21 : Cond.fieldLink RX3 21 "YarnMill$Row" "size" "I" ∈ wsX3_massAt := (by decide +kernel)
  have hl : lv_has ls 2 [(0, .ref (ad k)), (1, .int p0)] := hl
  obtain ⟨x, fk, fc, hxa, hn, hab⟩ := hR
  refine lv_iload_n hx hb dX3_massAt_0 rfl (lv_at hl 1 rfl) ?_
  refine lv_i2l hx hb dX3_massAt_1 rfl ?_
  refine lv_lconst (v := lN 0) hx hb dX3_massAt_2 (by decide) ?_
  refine lv_aload_n hx hb dX3_massAt_3 rfl (lv_at hl 0 rfl) ?_
  refine rp_get C0 FX hH k (by omega) (ci := 3) (k := 0) fk rfl kiX3 (by decide) kf21 rfl dX3_massAt_4 ?_
  refine lv_iconst (v := nI 1) hx hb dX3_massAt_7 (by decide) ?_
  refine lv_isub hx hb dX3_massAt_8 ?_
  refine lv_i2l hx hb dX3_massAt_9 rfl ?_
  refine rc_Ni (rest := []) C0 FX hH (k_X5_within_rngS l X ad hi _ p0 n (by omega)) ⟨va_cnB 3 C0.2.2.2.2 gX3_massAt_X5_within_n17 rfl rfl rfl (FX.1.2 (RX3, 17, yX5_within) (by decide +kernel)) (C0.2.2.2.2 (.initialized RX5) (by decide +kernel)) (by decide +kernel) ⟨Nat.le_of_ble_eq_true rfl, Nat.le_of_ble_eq_true rfl⟩, C0.2.2.2.2 (.static yX5_within) (by decide +kernel), trivial⟩ rfl rfl hl.1 (Nat.le_of_ble_eq_true rfl) dX3_massAt_10 ⟨Nat.le_of_ble_eq_true rfl, Nat.le_of_ble_eq_true rfl⟩ (fun r10 g10c H locs h10 hH => ?_)
  obtain ⟨e10, rfl⟩ := h10
  rw [e10] at hH
  refine rb_eq hx hb 25 dX3_massAt_13 (by decide) (fun c13 => ?_) (fun c13 => ?_)
  · refine lv_iconst (v := (-1)) hx hb dX3_massAt_25 (by decide) ?_
    refine RET _ _ _ _ _ _ dX3_massAt_26 rfl ?_ hH
    refine ⟨rfl, ?_⟩
    unfold sp_at
    rw [if_neg (by assumption)]
  · obtain ⟨i, rfl, i1, i3⟩ := rngS_nI c13
    refine lv_aload_n hx hb dX3_massAt_16 rfl (lv_at hl 0 rfl) ?_
    refine rp_get C0 FX hH k (by omega) (ci := 3) (k := 1) fk rfl kiX3 (by decide) kf11 rfl dX3_massAt_17 ?_
    refine lv_iload_n hx hb dX3_massAt_20 rfl (lv_at hl 1 rfl) ?_
    refine rp_iald C0 FX hH (k + 1) (by omega) (v := a i) fc i (by omega) (by decide) (hxa _ (by omega)) dX3_massAt_21 ?_
    refine lv_goto (tgt := 26) hx hb dX3_massAt_22 (by decide) ?_
    refine RET _ _ _ _ _ _ dX3_massAt_26 rfl ?_ hH
    refine ⟨rfl, ?_⟩
    unfold sp_at
    rw [if_pos ((rngS_iff (by omega)).mpr (by omega)), tN_nI (by omega)]
set_option maxHeartbeats 4000000 in
set_option maxRecDepth 100000 in
theorem k_X3_addCell (l : Launch) (X : Cx) (ad : Nat → Nat) (hi : inj 48 ad) (g : PF) (k : Nat) (hk : k + 1 < 48) (n : Nat) (a : Nat → Nat) (hR : rRow X ad k n a g) (p0 : Int32) : Ki l yX3_addCell wsX3_addCell zr1 X 48 ad g [.ref (ad k), .int p0] (fun r g' => r = (sp_cell p0 n a).1 ∧ rRow X ad k (sp_cell p0 n a).2.1 (sp_cell p0 n a).2.2 g' ∧ fr2 k g g') := by
  refine Ki.of (cc := cX3_addCell) (maxL := 2) hi (by decide) rfl (Nat.le_of_ble_eq_true rfl) ?_
  intro p e s m below meth c Q E RET ls hl
  obtain ⟨C0, FX, hH⟩ := E
  have hx := C0.1
  have hb := C0.2.1
  have kl15 := C0.2.2.2.2 (.constantLong RX3 15 (lN 1000000)) (by decide +kernel)
  have kiX3 : ∀ w ∈ u_ws RX3 TX3 2, w ∈ wsX3_addCell := (by decide +kernel)
  have kf11 : Cond.fieldLink RX3 11 "YarnMill$Row" "cells" "[I" ∈ wsX3_addCell := (by decide +kernel)
  have kf21 : Cond.fieldLink RX3 21 "YarnMill$Row" "size" "I" ∈ wsX3_addCell := (by decide +kernel)
  have hl : lv_has ls 2 [(0, .ref (ad k)), (1, .int p0)] := hl
  have fr : ∀ j, j ≠ k → j ≠ (k + 1) → g j = g j := fun j _ _ => rfl
  obtain ⟨x, fk, fc, hxa, hn, hab⟩ := hR
  refine lv_iload_n hx hb dX3_addCell_0 rfl (lv_at hl 1 rfl) ?_
  refine lv_i2l hx hb dX3_addCell_1 rfl ?_
  refine lv_lconst (v := lN 0) hx hb dX3_addCell_2 (by decide) ?_
  refine lv_ldc2 hx hb C0.2.2.2.1 kl15 dX3_addCell_3 ?_
  refine rc_Ni (rest := []) C0 FX hH (k_X5_within_rng l X ad hi _ p0 0 1000000 (by omega) (by omega)) ⟨va_cnB 3 C0.2.2.2.2 gX3_addCell_X5_within_n17 rfl rfl rfl (FX.1.2 (RX3, 17, yX5_within) (by decide +kernel)) (C0.2.2.2.2 (.initialized RX5) (by decide +kernel)) (by decide +kernel) ⟨Nat.le_of_ble_eq_true rfl, Nat.le_of_ble_eq_true rfl⟩, C0.2.2.2.2 (.static yX5_within) (by decide +kernel), trivial⟩ rfl rfl hl.1 (Nat.le_of_ble_eq_true rfl) dX3_addCell_6 ⟨Nat.le_of_ble_eq_true rfl, Nat.le_of_ble_eq_true rfl⟩ (fun r6 g6c H locs h6 hH => ?_)
  obtain ⟨e6, rfl⟩ := h6
  rw [e6] at hH
  refine rb_ne hx hb 15 dX3_addCell_9 (by decide) (fun c9 => ?_) (fun c9 => ?_)
  · obtain ⟨v, rfl, v1, v2, v3⟩ := rng_nI c9
    refine lv_aload_n hx hb dX3_addCell_15 rfl (lv_at hl 0 rfl) ?_
    refine rp_get C0 FX hH k (by omega) (ci := 3) (k := 0) fk rfl kiX3 (by decide) kf21 rfl dX3_addCell_16 ?_
    refine lv_sipush (v := nI 400) hx hb dX3_addCell_19 (by decide) ?_
    refine ni_clt hx hb 28 dX3_addCell_22 (by decide) (by omega) (by omega) (fun c22 => ?_) (fun c22 => ?_)
    · refine lv_aload_n hx hb dX3_addCell_28 rfl (lv_at hl 0 rfl) ?_
      refine rp_get C0 FX hH k (by omega) (ci := 3) (k := 1) fk rfl kiX3 (by decide) kf11 rfl dX3_addCell_29 ?_
      refine lv_aload_n hx hb dX3_addCell_32 rfl (lv_at hl 0 rfl) ?_
      refine rp_get C0 FX hH k (by omega) (ci := 3) (k := 0) fk rfl kiX3 (by decide) kf21 rfl dX3_addCell_33 ?_
      refine lv_iload_n hx hb dX3_addCell_36 rfl (lv_at hl 1 rfl) ?_
      refine rp_iast C0 FX hH (k + 1) (by omega) fc n v (by omega) (by decide) dX3_addCell_37 (fun g1 H locs eq2 nq2 hH => ?_)
      have fc : g1 (k + 1) = arr X 400 (va_up x n v) := eq2
      have fk : g1 k = .inr (3, [.int (nI n), .ref (ad (k + 1))]) := (nq2 _ (by omega)).trans fk
      have fr : ∀ j, j ≠ k → j ≠ (k + 1) → g1 j = g j := fun j a0 a1 => (nq2 j (by omega)).trans (fr j a0 a1)
      refine lv_aload_n hx hb dX3_addCell_38 rfl (lv_at hl 0 rfl) ?_
      refine lv_dup hx hb dX3_addCell_39 rfl ?_
      refine rp_get C0 FX hH k (by omega) (ci := 3) (k := 0) fk rfl kiX3 (by decide) kf21 rfl dX3_addCell_40 ?_
      refine lv_iconst (v := nI 1) hx hb dX3_addCell_43 (by decide) ?_
      refine ni_iadd hx hb dX3_addCell_44 ?_
      refine rp_put C0 FX hH k (by omega) (ci := 3) (k := 0) tyX3 tyX3_ok nmX3 fk rfl kiX3 (by decide) kf21 rfl rfl rfl (Nat.le_of_ble_eq_true rfl) dX3_addCell_45 (fun g3 H locs eq4 nq4 hH => ?_)
      have fk : g3 k = .inr (3, [.int (nI (n + 1)), .ref (ad (k + 1))]) := eq4
      have fc : g3 (k + 1) = arr X 400 (va_up x n v) := (nq4 _ (by omega)).trans fc
      have fr : ∀ j, j ≠ k → j ≠ (k + 1) → g3 j = g j := fun j a0 a1 => (nq4 j (by omega)).trans (fr j a0 a1)
      refine lv_aload_n hx hb dX3_addCell_48 rfl (lv_at hl 0 rfl) ?_
      refine rp_get C0 FX hH k (by omega) (ci := 3) (k := 0) fk rfl kiX3 (by decide) kf21 rfl dX3_addCell_49 ?_
      refine RET _ _ _ _ _ _ dX3_addCell_52 rfl ?_ hH
      refine post3 (by unfold sp_cell; rw [if_pos ((rng_iff (by omega)).mpr (by omega)), if_neg (by omega), tN_nI (by omega)]) ⟨_, fk, fc, fun j hj => ?_, by omega, fun j hj => ?_⟩ fr
      · by_cases q : j = n
        · subst q; rw [va_up_self, va_up_self]
        · rw [va_up_ne _ _ q, va_up_ne _ _ q]; exact hxa j (by omega)
      · by_cases q : j = n
        · subst q; rw [va_up_self]; omega
        · rw [va_up_ne _ _ q]; exact hab j (by omega)
    · refine lv_bipush (v := (-4)) hx hb dX3_addCell_25 (by decide) ?_
      refine RET _ _ _ _ _ _ dX3_addCell_27 rfl ?_ hH
      exact post3 (by unfold sp_cell; rw [if_pos ((rng_iff (by omega)).mpr (by omega)), if_pos (by omega)]) ⟨x, fk, fc, hxa, hn, hab⟩ fr
  · refine lv_bipush (v := (-2)) hx hb dX3_addCell_12 (by decide) ?_
    refine RET _ _ _ _ _ _ dX3_addCell_14 rfl ?_ hH
    exact post3 (by unfold sp_cell; rw [if_neg (by assumption)]) ⟨x, fk, fc, hxa, hn, hab⟩ fr
set_option maxHeartbeats 4000000 in
set_option maxRecDepth 100000 in
theorem k_X3_sumOf (l : Launch) (X : Cx) (ad : Nat → Nat) (hi : inj 48 ad) (g : PF) (k : Nat) (hk : k + 1 < 48) (n : Nat) (a : Nat → Nat) (hR : rRow X ad k n a g) (f w : Nat) (hf : f ≤ 400) (hw : w ≤ 400) : Ki l yX3_sumOf wsX3_sumOf zr0 X 48 ad g [.ref (ad k), .int (nI f), .int (nI w)] (fun r g' => g' = g ∧ r = nI (sg a f (min (f + w) n - f))) := by
  refine Ki.of (cc := cX3_sumOf) (maxL := 6) hi (by decide) rfl (Nat.le_of_ble_eq_true rfl) ?_
  intro p e s m below meth c Q E RET ls hl
  obtain ⟨C0, FX, hH⟩ := E
  have hx := C0.1
  have hb := C0.2.1
  have kiX3 : ∀ w ∈ u_ws RX3 TX3 2, w ∈ wsX3_sumOf := (by decide +kernel)
  have kf11 : Cond.fieldLink RX3 11 "YarnMill$Row" "cells" "[I" ∈ wsX3_sumOf := (by decide +kernel)
  have kf21 : Cond.fieldLink RX3 21 "YarnMill$Row" "size" "I" ∈ wsX3_sumOf := (by decide +kernel)
  have hl : lv_has ls 6 [(0, .ref (ad k)), (1, .int (nI f)), (2, .int (nI w))] := hl
  obtain ⟨x, fk, fc, hxa, hn, hab⟩ := hR
  refine lv_iload_n hx hb dX3_sumOf_0 rfl (lv_at hl 1 rfl) ?_
  refine lv_iload_n hx hb dX3_sumOf_1 rfl (lv_at hl 2 rfl) ?_
  refine ni_iadd hx hb dX3_sumOf_2 ?_
  refine lv_aload_n hx hb dX3_sumOf_3 rfl (lv_at hl 0 rfl) ?_
  refine rp_get C0 FX hH k (by omega) (ci := 3) (k := 0) fk rfl kiX3 (by decide) kf21 rfl dX3_sumOf_4 ?_
  refine va_mmin hx hb (by rw [C0.2.2.1]; exact hl.1.symm) C0.2.2.2.1 (C0.2.2.2.2 (.methodLink RX3 88 Lib.Math.min.name) (by decide +kernel)) (C0.2.2.2.2 (.static Lib.Math.min.name) (by decide +kernel)) (C0.2.2.2.2 (.initialized "java/lang/Math") (by decide +kernel)) (C0.2.2.2.2 (.code Lib.Math.min.name Lib.Math.min.code 2 (some .int)) (by decide +kernel)) (Nat.le_of_ble_eq_true rfl) (Nat.le_of_ble_eq_true rfl) (Nat.le_of_ble_eq_true rfl) (Nat.le_of_ble_eq_true rfl) dX3_sumOf_7 ?_
  rw [ni_min (by omega) (by omega)]
  refine lv_istore_n (lv' := [(3, .int (nI (min (f + w) n))), (0, .ref (ad k)), (1, .int (nI f)), (2, .int (nI w))]) hx hb dX3_sumOf_10 rfl hl (by decide) rfl (fun ls hl => ?_)
  refine lv_iconst (v := nI 0) hx hb dX3_sumOf_11 (by decide) ?_
  refine lv_istore (lv' := [(4, .int (nI 0)), (3, .int (nI (min (f + w) n))), (0, .ref (ad k)), (1, .int (nI f)), (2, .int (nI w))]) hx hb dX3_sumOf_12 hl (by decide) rfl (fun ls hl => ?_)
  refine lv_iload_n hx hb dX3_sumOf_14 rfl (lv_at hl 3 rfl) ?_
  refine lv_istore (lv' := [(5, .int (nI f)), (4, .int (nI 0)), (3, .int (nI (min (f + w) n))), (0, .ref (ad k)), (1, .int (nI f)), (2, .int (nI w))]) hx hb dX3_sumOf_15 hl (by decide) rfl (fun ls hl => ?_)
  have L17 : ∀ (fu : Nat) (S : Nat) (i : Nat) (ls : Array Slot), f ≤ i → i ≤ max f (min (f + w) n) → S = sg a f (i - f) → max f (min (f + w) n) - i < fu → lv_has ls 6 [(5, .int (nI i)), (4, .int (nI S)), (3, .int (nI (min (f + w) n))), (0, .ref (ad k)), (1, .int (nI f)), (2, .int (nI w))] → W p l e zr0 s m ([.ref (ad k), .int (nI f), .int (nI w)] : List Value).toArray below meth c s.heap [] 0 0 Q (F0 m 17 ls []) := by
    intro fu
    induction fu with
    | zero =>
      intro S i  ls i1 i2 i3 hm
      exact absurd hm (Nat.not_lt_zero _)
    | succ fu ih =>
      have ih17 := ih; clear ih
      intro S i  ls i1 i2 i3 hm17  hl
      refine lv_iload hx hb dX3_sumOf_17 (lv_at hl 0 rfl) ?_
      refine lv_iload_n hx hb dX3_sumOf_19 rfl (lv_at hl 2 rfl) ?_
      refine ni_cge hx hb 41 dX3_sumOf_20 (by decide) (by omega) (by omega) (fun c20 => ?_) (fun c20 => ?_)
      · refine lv_iload hx hb dX3_sumOf_41 (lv_at hl 1 rfl) ?_
        refine RET _ _ _ _ _ _ dX3_sumOf_43 rfl ?_ hH
        refine ⟨rfl, ?_⟩
        rw [i3]
        congr 2
        omega
      · refine lv_iload hx hb dX3_sumOf_23 (lv_at hl 1 rfl) ?_
        refine lv_aload_n hx hb dX3_sumOf_25 rfl (lv_at hl 3 rfl) ?_
        refine rp_get C0 FX hH k (by omega) (ci := 3) (k := 1) fk rfl kiX3 (by decide) kf11 rfl dX3_sumOf_26 ?_
        refine lv_iload hx hb dX3_sumOf_29 (lv_at hl 0 rfl) ?_
        refine rp_iald C0 FX hH (k + 1) (by omega) (v := a i) fc i (by omega) (by decide) (hxa _ (by omega)) dX3_sumOf_31 ?_
        refine ni_iadd hx hb dX3_sumOf_32 ?_
        refine lv_istore (lv' := [(4, .int (nI (S + (a i)))), (5, .int (nI i)), (3, .int (nI (min (f + w) n))), (0, .ref (ad k)), (1, .int (nI f)), (2, .int (nI w))]) hx hb dX3_sumOf_33 hl (by decide) rfl (fun ls hl => ?_)
        refine lv_iinc (v := nI (i + 1)) (lv' := [(5, .int (nI (i + 1))), (4, .int (nI (S + (a i)))), (3, .int (nI (min (f + w) n))), (0, .ref (ad k)), (1, .int (nI f)), (2, .int (nI w))]) hx hb dX3_sumOf_35 hl (k := 1) rfl (ni_inc1 _) (by decide) rfl (fun ls hl => ?_)
        refine lv_goto (tgt := 17) hx hb dX3_sumOf_38 (by decide) ?_
        exact ih17 (S + (a i)) (i + 1) ls (by omega) (by omega) (by rw [sg_step i1, i3]) (by omega) (lv_sub hl [0, 1, 2, 3, 4, 5] rfl)
  exact L17 ((max f (min (f + w) n) - f) + 1) 0 f ls (by omega) (by omega) (by rw [Nat.sub_self]; rfl) (Nat.lt_succ_self _) (lv_sub hl [0, 1, 2, 3, 4, 5] rfl)
end
section
set_option maxHeartbeats 4000000 in
set_option maxRecDepth 100000 in
theorem k_X3_given (l : Launch) (X : Cx) (ad : Nat → Nat) (hi : inj 48 ad) (g : PF) (k : Nat) (hk : k + 1 < 48) (n : Nat) (a : Nat → Nat) (hR : rRow X ad k n a g) (i sz : Nat) (hin : i < n) (hsz : sz ≤ 1000) : Ki l yX3_given wsX3_given zr0 X 48 ad g [.ref (ad k), .int (nI i), .int (nI sz)] (fun r g' => g' = g ∧ r = nI (a i * sz / 1000)) := by
  refine Ki.of (cc := cX3_given) (maxL := 3) hi (by decide) rfl (Nat.le_of_ble_eq_true rfl) ?_
  intro p e s m below meth c Q E RET ls hl
  obtain ⟨C0, FX, hH⟩ := E
  have hx := C0.1
  have hb := C0.2.1
  have kl45 := C0.2.2.2.2 (.constantLong RX3 45 (lN 1000)) (by decide +kernel)
  have kiX3 : ∀ w ∈ u_ws RX3 TX3 2, w ∈ wsX3_given := (by decide +kernel)
  have kf11 : Cond.fieldLink RX3 11 "YarnMill$Row" "cells" "[I" ∈ wsX3_given := (by decide +kernel)
  have hl : lv_has ls 3 [(0, .ref (ad k)), (1, .int (nI i)), (2, .int (nI sz))] := hl
  obtain ⟨x, fk, fc, hxa, hn, hab⟩ := hR
  have hq := hab i hin
  refine lv_aload_n hx hb dX3_given_0 rfl (lv_at hl 0 rfl) ?_
  refine rp_get C0 FX hH k (by omega) (ci := 3) (k := 1) fk rfl kiX3 (by decide) kf11 rfl dX3_given_1 ?_
  refine lv_iload_n hx hb dX3_given_4 rfl (lv_at hl 1 rfl) ?_
  refine rp_iald C0 FX hH (k + 1) (by omega) (v := a i) fc i (by omega) (by decide) (hxa _ (by omega)) dX3_given_5 ?_
  refine ni_i2l hx hb (by omega) dX3_given_6 ?_
  refine lv_iload_n hx hb dX3_given_7 rfl (lv_at hl 2 rfl) ?_
  refine ni_i2l hx hb (by omega) dX3_given_8 ?_
  refine ni_lmul hx hb dX3_given_9 ?_
  refine lv_ldc2 hx hb C0.2.2.2.1 kl45 dX3_given_10 ?_
  refine ni_ldiv hx hb (by have := Nat.mul_le_mul hq hsz; omega) (by omega) (by omega) dX3_given_13 ?_
  refine ni_l2i hx hb dX3_given_14 ?_
  refine RET _ _ _ _ _ _ dX3_given_15 rfl ?_ hH
  exact ⟨rfl, rfl⟩
set_option maxHeartbeats 4000000 in
set_option maxRecDepth 100000 in
theorem k_X3_mean (l : Launch) (X : Cx) (ad : Nat → Nat) (hi : inj 48 ad) (g : PF) (k : Nat) (hk : k + 1 < 48) (n : Nat) (a : Nat → Nat) (hR : rRow X ad k n a g)  : Kl l yX3_mean wsX3_mean zr1 X 48 ad g [.ref (ad k)] (fun r g' => g' = g ∧ r = lN (sp_mean n a)) := by
  refine Kl.of (cc := cX3_mean) (maxL := 1) hi (by decide) rfl (Nat.le_of_ble_eq_true rfl) ?_
  intro p e s m below meth c Q E RET ls hl
  obtain ⟨C0, FX, hH⟩ := E
  have hx := C0.1
  have hb := C0.2.1
  have kiX3 : ∀ w ∈ u_ws RX3 TX3 2, w ∈ wsX3_mean := (by decide +kernel)
  have kf21 : Cond.fieldLink RX3 21 "YarnMill$Row" "size" "I" ∈ wsX3_mean := (by decide +kernel)
  have hl : lv_has ls 1 [(0, .ref (ad k))] := hl
  obtain ⟨x, fk, fc, hxa, hn, hab⟩ := hR
  have hS9 : sm a n ≤ n * 1000000 := sm_le hab
  refine lv_aload_n hx hb dX3_mean_0 rfl (lv_at hl 0 rfl) ?_
  refine rp_get C0 FX hH k (by omega) (ci := 3) (k := 0) fk rfl kiX3 (by decide) kf21 rfl dX3_mean_1 ?_
  refine ni_le0 hx hb 25 dX3_mean_4 (by decide) (by omega) (fun c4 => ?_) (fun c4 => ?_)
  · refine lv_lconst (v := lN 0) hx hb dX3_mean_25 (by decide) ?_
    refine RET _ _ _ _ _ _ dX3_mean_26 ?_ hH
    refine ⟨rfl, ?_⟩
    unfold sp_mean
    rw [c4]; simp [sm]
  · refine lv_aload_n hx hb dX3_mean_7 rfl (lv_at hl 0 rfl) ?_
    refine lv_iconst (v := nI 0) hx hb dX3_mean_8 (by decide) ?_
    refine lv_aload_n hx hb dX3_mean_9 rfl (lv_at hl 0 rfl) ?_
    refine rp_get C0 FX hH k (by omega) (ci := 3) (k := 0) fk rfl kiX3 (by decide) kf21 rfl dX3_mean_10 ?_
    refine rc_Vi (rest := []) C0 FX hH k (by omega) fk rfl (k_X3_sumOf l X ad hi _ k hk n a ⟨x, fk, fc, hxa, hn, hab⟩ 0 n (by omega) (by omega)) (cwV 2 C0.2.2.2.2 gX3_mean_X3_sumOf rfl rfl rfl (by decide +kernel) ⟨Nat.le_of_ble_eq_true rfl, Nat.le_of_ble_eq_true rfl⟩) rfl rfl hl.1 (Nat.le_of_ble_eq_true rfl) dX3_mean_13 ⟨Nat.le_of_ble_eq_true rfl, Nat.le_of_ble_eq_true rfl⟩ (fun r13 g13c H locs h13 hH => ?_)
    obtain ⟨e13, rfl⟩ := h13
    rw [e13] at hH
    rw [show sg a 0 (min (0 + n) n - 0) = sm a n from by rw [show min (0 + n) n - 0 = n by omega, sg_0]]
    refine lv_aload_n hx hb dX3_mean_16 rfl (lv_at hl 0 rfl) ?_
    refine rp_get C0 FX hH k (by omega) (ci := 3) (k := 0) fk rfl kiX3 (by decide) kf21 rfl dX3_mean_17 ?_
    refine ni_idiv hx hb (by omega) (by omega) (by omega) dX3_mean_20 ?_
    refine ni_i2l hx hb (by have := Nat.div_le_self (sm a n) n; omega) dX3_mean_21 ?_
    refine lv_goto (tgt := 26) hx hb dX3_mean_22 (by decide) ?_
    refine RET _ _ _ _ _ _ dX3_mean_26 ?_ hH
    refine ⟨rfl, ?_⟩
    rfl
set_option maxHeartbeats 4000000 in
set_option maxRecDepth 100000 in
theorem k_X3_unevenness (l : Launch) (X : Cx) (ad : Nat → Nat) (hi : inj 48 ad) (g : PF) (k : Nat) (hk : k + 1 < 48) (n : Nat) (a : Nat → Nat) (hR : rRow X ad k n a g)  : Kl l yX3_unevenness wsX3_unevenness zr1 X 48 ad g [.ref (ad k)] (fun r g' => g' = g ∧ r = sp_unev n a) := by
  refine Kl.of (cc := cX3_unevenness) (maxL := 5) hi (by decide) rfl (Nat.le_of_ble_eq_true rfl) ?_
  intro p e s m below meth c Q E RET ls hl
  obtain ⟨C0, FX, hH⟩ := E
  have hx := C0.1
  have hb := C0.2.1
  have kiX3 : ∀ w ∈ u_ws RX3 TX3 2, w ∈ wsX3_unevenness := (by decide +kernel)
  have kf11 : Cond.fieldLink RX3 11 "YarnMill$Row" "cells" "[I" ∈ wsX3_unevenness := (by decide +kernel)
  have kf21 : Cond.fieldLink RX3 21 "YarnMill$Row" "size" "I" ∈ wsX3_unevenness := (by decide +kernel)
  have hl : lv_has ls 5 [(0, .ref (ad k))] := hl
  obtain ⟨x, fk, fc, hxa, hn, hab⟩ := hR
  have hS9 : sm a n ≤ n * 1000000 := sm_le hab
  refine lv_lconst (v := lN 0) hx hb dX3_unevenness_0 (by decide) ?_
  refine lv_lstore_n (lv' := [(1, .long (lN 0)), (0, .ref (ad k))]) hx hb dX3_unevenness_1 rfl hl (by decide) rfl (fun ls hl => ?_)
  refine lv_iconst (v := nI 0) hx hb dX3_unevenness_2 (by decide) ?_
  refine lv_istore_n (lv' := [(3, .int (nI 0)), (1, .long (lN 0)), (0, .ref (ad k))]) hx hb dX3_unevenness_3 rfl hl (by decide) rfl (fun ls hl => ?_)
  have L4 : ∀ (fu : Nat) (S : Nat) (i : Nat) (ls : Array Slot), i ≤ n → S = sm (fun j => a j * a j) i → n - i < fu → lv_has ls 5 [(3, .int (nI i)), (1, .long (lN S)), (0, .ref (ad k))] → W p l e zr1 s m ([.ref (ad k)] : List Value).toArray below meth c s.heap [] 0 0 Q (F0 m 4 ls []) := by
    intro fu
    induction fu with
    | zero =>
      intro S i  ls i2 i3 hm
      exact absurd hm (Nat.not_lt_zero _)
    | succ fu ih =>
      have ih4 := ih; clear ih
      intro S i  ls i2 i3 hm4  hl
      have hq := hab i
      refine lv_iload_n hx hb dX3_unevenness_4 rfl (lv_at hl 0 rfl) ?_
      refine lv_aload_n hx hb dX3_unevenness_5 rfl (lv_at hl 2 rfl) ?_
      refine rp_get C0 FX hH k (by omega) (ci := 3) (k := 0) fk rfl kiX3 (by decide) kf21 rfl dX3_unevenness_6 ?_
      refine ni_cge hx hb 36 dX3_unevenness_9 (by decide) (by omega) (by omega) (fun c9 => ?_) (fun c9 => ?_)
      · refine lv_aload_n hx hb dX3_unevenness_36 rfl (lv_at hl 2 rfl) ?_
        refine lv_iconst (v := nI 0) hx hb dX3_unevenness_37 (by decide) ?_
        refine lv_aload_n hx hb dX3_unevenness_38 rfl (lv_at hl 2 rfl) ?_
        refine rp_get C0 FX hH k (by omega) (ci := 3) (k := 0) fk rfl kiX3 (by decide) kf21 rfl dX3_unevenness_39 ?_
        refine rc_Vi (rest := []) C0 FX hH k (by omega) fk rfl (k_X3_sumOf l X ad hi _ k hk n a ⟨x, fk, fc, hxa, hn, hab⟩ 0 n (by omega) (by omega)) (cwV 2 C0.2.2.2.2 gX3_unevenness_X3_sumOf rfl rfl rfl (by decide +kernel) ⟨Nat.le_of_ble_eq_true rfl, Nat.le_of_ble_eq_true rfl⟩) rfl rfl hl.1 (Nat.le_of_ble_eq_true rfl) dX3_unevenness_42 ⟨Nat.le_of_ble_eq_true rfl, Nat.le_of_ble_eq_true rfl⟩ (fun r42 g42c H locs h42 hH => ?_)
        obtain ⟨e42, rfl⟩ := h42
        rw [e42] at hH
        rw [show sg a 0 (min (0 + n) n - 0) = sm a n from by rw [show min (0 + n) n - 0 = n by omega, sg_0]]
        refine ni_i2l hx hb (by omega) dX3_unevenness_45 ?_
        refine lv_lstore_n (lv' := [(3, .long (lN (sm a n))), (1, .long (lN S)), (0, .ref (ad k))]) hx hb dX3_unevenness_46 rfl hl (by decide) rfl (fun ls hl => ?_)
        refine lv_aload_n hx hb dX3_unevenness_47 rfl (lv_at hl 2 rfl) ?_
        refine rp_get C0 FX hH k (by omega) (ci := 3) (k := 0) fk rfl kiX3 (by decide) kf21 rfl dX3_unevenness_48 ?_
        refine ni_i2l hx hb (by omega) dX3_unevenness_51 ?_
        refine lv_lload_n hx hb dX3_unevenness_52 rfl (lv_at hl 1 rfl) ?_
        refine ni_lmul hx hb dX3_unevenness_53 ?_
        refine lv_lload_n hx hb dX3_unevenness_54 rfl (lv_at hl 0 rfl) ?_
        refine lv_lload_n hx hb dX3_unevenness_55 rfl (lv_at hl 0 rfl) ?_
        refine ni_lmul hx hb dX3_unevenness_56 ?_
        refine lv_lsub hx hb dX3_unevenness_57 ?_
        refine RET _ _ _ _ _ _ dX3_unevenness_58 ?_ hH
        refine ⟨rfl, ?_⟩
        rw [i3, show i = n by omega]; rfl
      · refine lv_lload_n hx hb dX3_unevenness_12 rfl (lv_at hl 1 rfl) ?_
        refine lv_aload_n hx hb dX3_unevenness_13 rfl (lv_at hl 2 rfl) ?_
        refine rp_get C0 FX hH k (by omega) (ci := 3) (k := 1) fk rfl kiX3 (by decide) kf11 rfl dX3_unevenness_14 ?_
        refine lv_iload_n hx hb dX3_unevenness_17 rfl (lv_at hl 0 rfl) ?_
        refine rp_iald C0 FX hH (k + 1) (by omega) (v := a i) fc i (by omega) (by decide) (hxa _ (by omega)) dX3_unevenness_18 ?_
        refine ni_i2l hx hb (by have := hq c9; omega) dX3_unevenness_19 ?_
        refine lv_aload_n hx hb dX3_unevenness_20 rfl (lv_at hl 2 rfl) ?_
        refine rp_get C0 FX hH k (by omega) (ci := 3) (k := 1) fk rfl kiX3 (by decide) kf11 rfl dX3_unevenness_21 ?_
        refine lv_iload_n hx hb dX3_unevenness_24 rfl (lv_at hl 0 rfl) ?_
        refine rp_iald C0 FX hH (k + 1) (by omega) (v := a i) fc i (by omega) (by decide) (hxa _ (by omega)) dX3_unevenness_25 ?_
        refine ni_i2l hx hb (by have := hq c9; omega) dX3_unevenness_26 ?_
        refine ni_lmul hx hb dX3_unevenness_27 ?_
        refine ni_ladd hx hb dX3_unevenness_28 ?_
        refine lv_lstore_n (lv' := [(1, .long (lN (S + ((a i) * (a i))))), (3, .int (nI i)), (0, .ref (ad k))]) hx hb dX3_unevenness_29 rfl hl (by decide) rfl (fun ls hl => ?_)
        refine lv_iinc (v := nI (i + 1)) (lv' := [(3, .int (nI (i + 1))), (1, .long (lN (S + ((a i) * (a i))))), (0, .ref (ad k))]) hx hb dX3_unevenness_30 hl (k := 1) rfl (ni_inc1 _) (by decide) rfl (fun ls hl => ?_)
        refine lv_goto (tgt := 4) hx hb dX3_unevenness_33 (by decide) ?_
        exact ih4 (S + ((a i) * (a i))) (i + 1) ls (by omega) (by rw [i3]; rfl) (by omega) (lv_sub hl [0, 1, 2] rfl)
  exact L4 ((n - 0) + 1) 0 0 ls (by omega) (by rfl) (Nat.lt_succ_self _) (lv_sub hl [0, 1, 2] rfl)
set_option maxHeartbeats 4000000 in
set_option maxRecDepth 100000 in
theorem k_X3_measure (l : Launch) (X : Cx) (ad : Nat → Nat) (hi : inj 48 ad) (g : PF) (k : Nat) (hk : k + 1 < 48) (n : Nat) (a : Nat → Nat) (hR : rRow X ad k n a g) (p0 : Int32) : Kl l yX3_measure wsX3_measure zr2 X 48 ad g [.ref (ad k), .int p0] (fun r g' => g' = g ∧ r = sp_about p0 n a) := by
  refine Kl.of (cc := cX3_measure) (maxL := 2) hi (by decide) rfl (Nat.le_of_ble_eq_true rfl) ?_
  intro p e s m below meth c Q E RET ls hl
  obtain ⟨C0, FX, hH⟩ := E
  have hx := C0.1
  have hb := C0.2.1
  have kl54 := C0.2.2.2.2 (.constantLong RX3 54 (-1)) (by decide +kernel)
  have kiX3 : ∀ w ∈ u_ws RX3 TX3 2, w ∈ wsX3_measure := (by decide +kernel)
  have kf21 : Cond.fieldLink RX3 21 "YarnMill$Row" "size" "I" ∈ wsX3_measure := (by decide +kernel)
  have hl : lv_has ls 2 [(0, .ref (ad k)), (1, .int p0)] := hl
  obtain ⟨x, fk, fc, hxa, hn, hab⟩ := hR
  have hS9 : sm a n ≤ n * 1000000 := sm_le hab
  refine lv_iload_n hx hb dX3_measure_0 rfl (lv_at hl 1 rfl) ?_
  by_cases t1_0 : p0 = nI 0
  · subst t1_0
    have hl : lv_has ls 2 [(0, .ref (ad k)), (1, .int (nI 0))] := hl
    refine lv_tableIn (x := nI 0) (tgt := 28) hx hb dX3_measure_1 (by decide) (by decide) rfl (by decide) ?_
    refine lv_aload_n hx hb dX3_measure_28 rfl (lv_at hl 0 rfl) ?_
    refine rp_get C0 FX hH k (by omega) (ci := 3) (k := 0) fk rfl kiX3 (by decide) kf21 rfl dX3_measure_29 ?_
    refine ni_i2l hx hb (by omega) dX3_measure_32 ?_
    refine RET _ _ _ _ _ _ dX3_measure_33 ?_ hH
    exact ⟨rfl, by unfold sp_about; rw [if_pos rfl]⟩
  by_cases t1_1 : p0 = nI 1
  · subst t1_1
    have hl : lv_has ls 2 [(0, .ref (ad k)), (1, .int (nI 1))] := hl
    refine lv_tableIn (x := nI 1) (tgt := 34) hx hb dX3_measure_1 (by decide) (by decide) rfl (by decide) ?_
    refine lv_aload_n hx hb dX3_measure_34 rfl (lv_at hl 0 rfl) ?_
    refine lv_iconst (v := nI 0) hx hb dX3_measure_35 (by decide) ?_
    refine lv_aload_n hx hb dX3_measure_36 rfl (lv_at hl 0 rfl) ?_
    refine rp_get C0 FX hH k (by omega) (ci := 3) (k := 0) fk rfl kiX3 (by decide) kf21 rfl dX3_measure_37 ?_
    refine rc_Vi (rest := []) C0 FX hH k (by omega) fk rfl (k_X3_sumOf l X ad hi _ k hk n a ⟨x, fk, fc, hxa, hn, hab⟩ 0 n (by omega) (by omega)) (cwV 2 C0.2.2.2.2 gX3_measure_X3_sumOf rfl rfl rfl (by decide +kernel) ⟨Nat.le_of_ble_eq_true rfl, Nat.le_of_ble_eq_true rfl⟩) rfl rfl hl.1 (Nat.le_of_ble_eq_true rfl) dX3_measure_40 ⟨Nat.le_of_ble_eq_true rfl, Nat.le_of_ble_eq_true rfl⟩ (fun r40 g40c H locs h40 hH => ?_)
    obtain ⟨e40, rfl⟩ := h40
    rw [e40] at hH
    rw [show sg a 0 (min (0 + n) n - 0) = sm a n from by rw [show min (0 + n) n - 0 = n by omega, sg_0]]
    refine ni_i2l hx hb (by omega) dX3_measure_43 ?_
    refine RET _ _ _ _ _ _ dX3_measure_44 ?_ hH
    exact ⟨rfl, by unfold sp_about; rw [if_neg (by decide), if_pos rfl]⟩
  by_cases t1_2 : p0 = nI 2
  · subst t1_2
    have hl : lv_has ls 2 [(0, .ref (ad k)), (1, .int (nI 2))] := hl
    refine lv_tableIn (x := nI 2) (tgt := 45) hx hb dX3_measure_1 (by decide) (by decide) rfl (by decide) ?_
    refine lv_aload_n hx hb dX3_measure_45 rfl (lv_at hl 0 rfl) ?_
    refine rc_Vl (rest := []) C0 FX hH k (by omega) fk rfl (k_X3_unevenness l X ad hi _ k hk n a ⟨x, fk, fc, hxa, hn, hab⟩ ) (cwV 0 C0.2.2.2.2 gX3_measure_X3_unevenness rfl rfl rfl (by decide +kernel) ⟨Nat.le_of_ble_eq_true rfl, Nat.le_of_ble_eq_true rfl⟩) rfl rfl hl.1 (Nat.le_of_ble_eq_true rfl) dX3_measure_46 ⟨Nat.le_of_ble_eq_true rfl, Nat.le_of_ble_eq_true rfl⟩ (fun r46 g46c H locs h46 hH => ?_)
    obtain ⟨e46, rfl⟩ := h46
    rw [e46] at hH
    refine RET _ _ _ _ _ _ dX3_measure_49 ?_ hH
    exact ⟨rfl, by unfold sp_about; rw [if_neg (by decide), if_neg (by decide), if_pos rfl]⟩
  refine lv_tableOut (tgt := 50) hx hb dX3_measure_1 (tb_out t1_0 t1_1 t1_2) (by decide) ?_
  refine lv_ldc2 hx hb C0.2.2.2.1 kl54 dX3_measure_50 ?_
  refine RET _ _ _ _ _ _ dX3_measure_53 ?_ hH
  exact ⟨rfl, by unfold sp_about; rw [if_neg t1_0, if_neg t1_1, if_neg t1_2]⟩
set_option maxHeartbeats 4000000 in
set_option maxRecDepth 100000 in
theorem k_X3_mixInto (l : Launch) (X : Cx) (ad : Nat → Nat) (hi : inj 48 ad) (g : PF) (k : Nat) (hk : k + 1 < 48) (n : Nat) (a : Nat → Nat) (hR : rRow X ad k n a g) (h0 : Int64) : Kl l yX3_mixInto wsX3_mixInto zr0 X 48 ad g [.ref (ad k), .long h0] (fun r g' => g' = g ∧ r = mx h0 a n) := by
  refine Kl.of (cc := cX3_mixInto) (maxL := 6) hi (by decide) rfl (Nat.le_of_ble_eq_true rfl) ?_
  intro p e s m below meth c Q E RET ls hl
  obtain ⟨C0, FX, hH⟩ := E
  have hx := C0.1
  have hb := C0.2.1
  have kl86 := C0.2.2.2.2 (.constantLong RX3 86 (lN 31)) (by decide +kernel)
  have kiX3 : ∀ w ∈ u_ws RX3 TX3 2, w ∈ wsX3_mixInto := (by decide +kernel)
  have kf11 : Cond.fieldLink RX3 11 "YarnMill$Row" "cells" "[I" ∈ wsX3_mixInto := (by decide +kernel)
  have kf21 : Cond.fieldLink RX3 21 "YarnMill$Row" "size" "I" ∈ wsX3_mixInto := (by decide +kernel)
  have hl : lv_has ls 6 [(0, .ref (ad k)), (1, .long h0)] := hl
  obtain ⟨x, fk, fc, hxa, hn, hab⟩ := hR
  refine lv_lload_n hx hb dX3_mixInto_0 rfl (lv_at hl 1 rfl) ?_
  refine lv_lstore_n (lv' := [(3, .long h0), (0, .ref (ad k)), (1, .long h0)]) hx hb dX3_mixInto_1 rfl hl (by decide) rfl (fun ls hl => ?_)
  refine lv_iconst (v := nI 0) hx hb dX3_mixInto_2 (by decide) ?_
  refine lv_istore (lv' := [(5, .int (nI 0)), (3, .long h0), (0, .ref (ad k)), (1, .long h0)]) hx hb dX3_mixInto_3 hl (by decide) rfl (fun ls hl => ?_)
  have L5 : ∀ (fu : Nat) (hh : Int64) (i : Nat) (ls : Array Slot), i ≤ n → hh = mx h0 a i → n - i < fu → lv_has ls 6 [(5, .int (nI i)), (3, .long hh), (0, .ref (ad k)), (1, .long h0)] → W p l e zr0 s m ([.ref (ad k), .long h0] : List Value).toArray below meth c s.heap [] 0 0 Q (F0 m 5 ls []) := by
    intro fu
    induction fu with
    | zero =>
      intro hh i  ls i2 i3 hm
      exact absurd hm (Nat.not_lt_zero _)
    | succ fu ih =>
      have ih5 := ih; clear ih
      intro hh i  ls i2 i3 hm5  hl
      have hq := hab i
      refine lv_iload hx hb dX3_mixInto_5 (lv_at hl 0 rfl) ?_
      refine lv_aload_n hx hb dX3_mixInto_7 rfl (lv_at hl 2 rfl) ?_
      refine rp_get C0 FX hH k (by omega) (ci := 3) (k := 0) fk rfl kiX3 (by decide) kf21 rfl dX3_mixInto_8 ?_
      refine ni_cge hx hb 35 dX3_mixInto_11 (by decide) (by omega) (by omega) (fun c11 => ?_) (fun c11 => ?_)
      · refine lv_lload_n hx hb dX3_mixInto_35 rfl (lv_at hl 1 rfl) ?_
        refine RET _ _ _ _ _ _ dX3_mixInto_36 ?_ hH
        exact ⟨rfl, by rw [i3, show i = n by omega]⟩
      · refine lv_ldc2 hx hb C0.2.2.2.1 kl86 dX3_mixInto_14 ?_
        refine lv_lload_n hx hb dX3_mixInto_17 rfl (lv_at hl 1 rfl) ?_
        refine lv_lmul hx hb dX3_mixInto_18 ?_
        refine lv_aload_n hx hb dX3_mixInto_19 rfl (lv_at hl 2 rfl) ?_
        refine rp_get C0 FX hH k (by omega) (ci := 3) (k := 1) fk rfl kiX3 (by decide) kf11 rfl dX3_mixInto_20 ?_
        refine lv_iload hx hb dX3_mixInto_23 (lv_at hl 0 rfl) ?_
        refine rp_iald C0 FX hH (k + 1) (by omega) (v := a i) fc i (by omega) (by decide) (hxa _ (by omega)) dX3_mixInto_25 ?_
        refine ni_i2l hx hb (by have := hq c11; omega) dX3_mixInto_26 ?_
        refine lv_ladd hx hb dX3_mixInto_27 ?_
        refine lv_lstore_n (lv' := [(3, .long (((lN 31) * hh) + (lN (a i)))), (5, .int (nI i)), (0, .ref (ad k)), (1, .long h0)]) hx hb dX3_mixInto_28 rfl hl (by decide) rfl (fun ls hl => ?_)
        refine lv_iinc (v := nI (i + 1)) (lv' := [(5, .int (nI (i + 1))), (3, .long (((lN 31) * hh) + (lN (a i)))), (0, .ref (ad k)), (1, .long h0)]) hx hb dX3_mixInto_29 hl (k := 1) rfl (ni_inc1 _) (by decide) rfl (fun ls hl => ?_)
        refine lv_goto (tgt := 5) hx hb dX3_mixInto_32 (by decide) ?_
        exact ih5 (((lN 31) * hh) + (lN (a i))) (i + 1) ls (by omega) (by rw [i3]; rfl) (by omega) (lv_sub hl [0, 1, 2, 3] rfl)
  exact L5 ((n - 0) + 1) h0 0 ls (by omega) (by rfl) (Nat.lt_succ_self _) (lv_sub hl [0, 1, 2, 3] rfl)
set_option maxHeartbeats 4000000 in
set_option maxRecDepth 100000 in
theorem k_X3_isLaw (l : Launch) (X : Cx) (ad : Nat → Nat) (hi : inj 48 ad) (g : PF) (th tn lq : Int32) : Ki l yX3_isLaw wsX3_isLaw zr1 X 48 ad g [.int th, .int tn, .int lq] (fun r g' => g' = g ∧ r = bI (lawP th tn lq)) := by
  refine Ki.of (cc := cX3_isLaw) (maxL := 3) hi (by decide) rfl (Nat.le_of_ble_eq_true rfl) ?_
  intro p e s m below meth c Q E RET ls hl
  obtain ⟨C0, FX, hH⟩ := E
  have hx := C0.1
  have hb := C0.2.1
  have kl25 := C0.2.2.2.2 (.constantLong RX3 25 (lN 100)) (by decide +kernel)
  have kl45 := C0.2.2.2.2 (.constantLong RX3 45 (lN 1000)) (by decide +kernel)
  have kl91 := C0.2.2.2.2 (.constantLong RX3 91 (lN 50)) (by decide +kernel)
  have hl : lv_has ls 3 [(0, .int th), (1, .int tn), (2, .int lq)] := hl
  refine lv_iload_n hx hb dX3_isLaw_0 rfl (lv_at hl 0 rfl) ?_
  refine lv_i2l hx hb dX3_isLaw_1 rfl ?_
  refine lv_lconst (v := lN 1) hx hb dX3_isLaw_2 (by decide) ?_
  refine lv_ldc2 hx hb C0.2.2.2.1 kl45 dX3_isLaw_3 ?_
  refine rc_Ni (rest := []) C0 FX hH (k_X5_within_rng l X ad hi _ th 1 1000 (by omega) (by omega)) ⟨va_cnB 3 C0.2.2.2.2 gX3_isLaw_X5_within_n17 rfl rfl rfl (FX.1.2 (RX3, 17, yX5_within) (by decide +kernel)) (C0.2.2.2.2 (.initialized RX5) (by decide +kernel)) (by decide +kernel) ⟨Nat.le_of_ble_eq_true rfl, Nat.le_of_ble_eq_true rfl⟩, C0.2.2.2.2 (.static yX5_within) (by decide +kernel), trivial⟩ rfl rfl hl.1 (Nat.le_of_ble_eq_true rfl) dX3_isLaw_6 ⟨Nat.le_of_ble_eq_true rfl, Nat.le_of_ble_eq_true rfl⟩ (fun r6 g6c H locs h6 hH => ?_)
  obtain ⟨e6, rfl⟩ := h6
  rw [e6] at hH
  refine rb_eq hx hb 40 dX3_isLaw_9 (by decide) (fun c9 => ?_) (fun c9 => ?_)
  · refine lv_iconst (v := nI 0) hx hb dX3_isLaw_40 (by decide) ?_
    refine RET _ _ _ _ _ _ dX3_isLaw_41 (by decide) ?_ hH
    refine ⟨rfl, ?_⟩
    exact (bI_f (fun z => by first | exact absurd z.1 (by assumption) | exact absurd z.2.1 (by assumption) | exact absurd z.2.2 (by assumption))).symm
  · refine lv_iload_n hx hb dX3_isLaw_12 rfl (lv_at hl 1 rfl) ?_
    refine lv_i2l hx hb dX3_isLaw_13 rfl ?_
    refine lv_lconst (v := lN 0) hx hb dX3_isLaw_14 (by decide) ?_
    refine lv_ldc2 hx hb C0.2.2.2.1 kl25 dX3_isLaw_15 ?_
    refine rc_Ni (rest := []) C0 FX hH (k_X5_within_rng l X ad hi _ tn 0 100 (by omega) (by omega)) ⟨va_cnB 3 C0.2.2.2.2 gX3_isLaw_X5_within_n17 rfl rfl rfl (FX.1.2 (RX3, 17, yX5_within) (by decide +kernel)) (C0.2.2.2.2 (.initialized RX5) (by decide +kernel)) (by decide +kernel) ⟨Nat.le_of_ble_eq_true rfl, Nat.le_of_ble_eq_true rfl⟩, C0.2.2.2.2 (.static yX5_within) (by decide +kernel), trivial⟩ rfl rfl hl.1 (Nat.le_of_ble_eq_true rfl) dX3_isLaw_18 ⟨Nat.le_of_ble_eq_true rfl, Nat.le_of_ble_eq_true rfl⟩ (fun r18 g18c H locs h18 hH => ?_)
    obtain ⟨e18, rfl⟩ := h18
    rw [e18] at hH
    refine rb_eq hx hb 40 dX3_isLaw_21 (by decide) (fun c21 => ?_) (fun c21 => ?_)
    · refine lv_iconst (v := nI 0) hx hb dX3_isLaw_40 (by decide) ?_
      refine RET _ _ _ _ _ _ dX3_isLaw_41 (by decide) ?_ hH
      refine ⟨rfl, ?_⟩
      exact (bI_f (fun z => by first | exact absurd z.1 (by assumption) | exact absurd z.2.1 (by assumption) | exact absurd z.2.2 (by assumption))).symm
    · refine lv_iload_n hx hb dX3_isLaw_24 rfl (lv_at hl 2 rfl) ?_
      refine lv_i2l hx hb dX3_isLaw_25 rfl ?_
      refine lv_lconst (v := lN 1) hx hb dX3_isLaw_26 (by decide) ?_
      refine lv_ldc2 hx hb C0.2.2.2.1 kl91 dX3_isLaw_27 ?_
      refine rc_Ni (rest := []) C0 FX hH (k_X5_within_rng l X ad hi _ lq 1 50 (by omega) (by omega)) ⟨va_cnB 3 C0.2.2.2.2 gX3_isLaw_X5_within_n17 rfl rfl rfl (FX.1.2 (RX3, 17, yX5_within) (by decide +kernel)) (C0.2.2.2.2 (.initialized RX5) (by decide +kernel)) (by decide +kernel) ⟨Nat.le_of_ble_eq_true rfl, Nat.le_of_ble_eq_true rfl⟩, C0.2.2.2.2 (.static yX5_within) (by decide +kernel), trivial⟩ rfl rfl hl.1 (Nat.le_of_ble_eq_true rfl) dX3_isLaw_30 ⟨Nat.le_of_ble_eq_true rfl, Nat.le_of_ble_eq_true rfl⟩ (fun r30 g30c H locs h30 hH => ?_)
      obtain ⟨e30, rfl⟩ := h30
      rw [e30] at hH
      refine rb_eq hx hb 40 dX3_isLaw_33 (by decide) (fun c33 => ?_) (fun c33 => ?_)
      · refine lv_iconst (v := nI 0) hx hb dX3_isLaw_40 (by decide) ?_
        refine RET _ _ _ _ _ _ dX3_isLaw_41 (by decide) ?_ hH
        refine ⟨rfl, ?_⟩
        exact (bI_f (fun z => by first | exact absurd z.1 (by assumption) | exact absurd z.2.1 (by assumption) | exact absurd z.2.2 (by assumption))).symm
      · refine lv_iconst (v := nI 1) hx hb dX3_isLaw_36 (by decide) ?_
        refine lv_goto (tgt := 41) hx hb dX3_isLaw_37 (by decide) ?_
        refine RET _ _ _ _ _ _ dX3_isLaw_41 (by decide) ?_ hH
        refine ⟨rfl, ?_⟩
        exact (bI_t ⟨c9, c21, c33⟩).symm
set_option maxHeartbeats 4000000 in
set_option maxRecDepth 100000 in
theorem k_X3_isGreater (l : Launch) (X : Cx) (ad : Nat → Nat) (hi : inj 48 ad) (g : PF) (u b v d : Nat) (hu : u < 2 ^ 62) (hv : v < 2 ^ 62) (hb0 : 0 < b) (hb1 : b ≤ 80000) (hd0 : 0 < d) (hd1 : d ≤ 80000) : Ki l yX3_isGreater wsX3_isGreater zr0 X 48 ad g [.long (lN u), .long (lN b), .long (lN v), .long (lN d)] (fun r g' => g' = g ∧ r = bI (v * b < u * d)) := by
  refine Ki.of (cc := cX3_isGreater) (maxL := 8) hi (by decide) rfl (Nat.le_of_ble_eq_true rfl) ?_
  intro p e s m below meth c Q E RET ls hl
  obtain ⟨C0, FX, hH⟩ := E
  have hx := C0.1
  have hb := C0.2.1
  have hl : lv_has ls 8 [(0, .long (lN u)), (2, .long (lN b)), (4, .long (lN v)), (6, .long (lN d))] := hl
  refine lv_lload_n hx hb dX3_isGreater_0 rfl (lv_at hl 1 rfl) ?_
  refine lv_lconst (v := lN 0) hx hb dX3_isGreater_1 (by decide) ?_
  refine nl_le hx hb 13 dX3_isGreater_2 dX3_isGreater_3 (by decide) (by omega) (by omega) (fun c2 => ?_) (fun c2 => ?_)
  · refine lv_iconst (v := nI 0) hx hb dX3_isGreater_13 (by decide) ?_
    refine RET _ _ _ _ _ _ dX3_isGreater_14 (by decide) ?_ hH
    exact absurd (show 0 < b ∧ 0 < d from ⟨hb0, hd0⟩) (by omega)
  · refine lv_lload hx hb dX3_isGreater_6 (lv_at hl 3 rfl) ?_
    refine lv_lconst (v := lN 0) hx hb dX3_isGreater_8 (by decide) ?_
    refine nl_gt hx hb 15 dX3_isGreater_9 dX3_isGreater_10 (by decide) (by omega) (by omega) (fun c9 => ?_) (fun c9 => ?_)
    · refine lv_lload_n hx hb dX3_isGreater_15 rfl (lv_at hl 0 rfl) ?_
      refine lv_lload_n hx hb dX3_isGreater_16 rfl (lv_at hl 1 rfl) ?_
      refine ni_ldiv hx hb (by omega) (by omega) (by omega) dX3_isGreater_17 ?_
      refine lv_lload hx hb dX3_isGreater_18 (lv_at hl 2 rfl) ?_
      refine lv_lload hx hb dX3_isGreater_20 (lv_at hl 3 rfl) ?_
      refine ni_ldiv hx hb (by omega) (by omega) (by omega) dX3_isGreater_22 ?_
      refine nl_eq hx hb 45 dX3_isGreater_23 dX3_isGreater_24 (by decide) (by have := Nat.div_le_self u b; omega) (by have := Nat.div_le_self v d; omega) (fun c23 => ?_) (fun c23 => ?_)
      · refine lv_lload_n hx hb dX3_isGreater_45 rfl (lv_at hl 0 rfl) ?_
        refine lv_lload_n hx hb dX3_isGreater_46 rfl (lv_at hl 1 rfl) ?_
        refine ni_lrem hx hb (by omega) (by omega) (by omega) dX3_isGreater_47 ?_
        refine lv_lload hx hb dX3_isGreater_48 (lv_at hl 3 rfl) ?_
        refine ni_lmul hx hb dX3_isGreater_50 ?_
        refine lv_lload hx hb dX3_isGreater_51 (lv_at hl 2 rfl) ?_
        refine lv_lload hx hb dX3_isGreater_53 (lv_at hl 3 rfl) ?_
        refine ni_lrem hx hb (by omega) (by omega) (by omega) dX3_isGreater_55 ?_
        refine lv_lload_n hx hb dX3_isGreater_56 rfl (lv_at hl 1 rfl) ?_
        refine ni_lmul hx hb dX3_isGreater_57 ?_
        refine nl_le hx hb 66 dX3_isGreater_58 dX3_isGreater_59 (by decide) (by have h1 := Nat.mod_lt u hb0; have h2 := Nat.mul_le_mul (show u % b ≤ 80000 by omega) hd1; omega) (by have h1 := Nat.mod_lt v hd0; have h2 := Nat.mul_le_mul (show v % d ≤ 80000 by omega) hb1; omega) (fun c58 => ?_) (fun c58 => ?_)
        · refine lv_iconst (v := nI 0) hx hb dX3_isGreater_66 (by decide) ?_
          refine RET _ _ _ _ _ _ dX3_isGreater_67 (by decide) ?_ hH
          refine ⟨rfl, ?_⟩
          rw [bI_f (fun z => by have z2 := (div_cmp hb0 hd0).mpr z; rw [if_pos c23] at z2; omega)]
        · refine lv_iconst (v := nI 1) hx hb dX3_isGreater_62 (by decide) ?_
          refine lv_goto (tgt := 67) hx hb dX3_isGreater_63 (by decide) ?_
          refine RET _ _ _ _ _ _ dX3_isGreater_67 (by decide) ?_ hH
          refine ⟨rfl, ?_⟩
          rw [bI_t ((div_cmp hb0 hd0).mp (by rw [if_pos c23]; exact c58))]
      · refine lv_lload_n hx hb dX3_isGreater_27 rfl (lv_at hl 0 rfl) ?_
        refine lv_lload_n hx hb dX3_isGreater_28 rfl (lv_at hl 1 rfl) ?_
        refine ni_ldiv hx hb (by omega) (by omega) (by omega) dX3_isGreater_29 ?_
        refine lv_lload hx hb dX3_isGreater_30 (lv_at hl 2 rfl) ?_
        refine lv_lload hx hb dX3_isGreater_32 (lv_at hl 3 rfl) ?_
        refine ni_ldiv hx hb (by omega) (by omega) (by omega) dX3_isGreater_34 ?_
        refine nl_le hx hb 43 dX3_isGreater_35 dX3_isGreater_36 (by decide) (by have := Nat.div_le_self u b; omega) (by have := Nat.div_le_self v d; omega) (fun c35 => ?_) (fun c35 => ?_)
        · refine lv_iconst (v := nI 0) hx hb dX3_isGreater_43 (by decide) ?_
          refine RET _ _ _ _ _ _ dX3_isGreater_44 (by decide) ?_ hH
          refine ⟨rfl, ?_⟩
          rw [bI_f (fun z => by have z2 := (div_cmp hb0 hd0).mpr z; rw [if_neg c23] at z2; omega)]
        · refine lv_iconst (v := nI 1) hx hb dX3_isGreater_39 (by decide) ?_
          refine lv_goto (tgt := 44) hx hb dX3_isGreater_40 (by decide) ?_
          refine RET _ _ _ _ _ _ dX3_isGreater_44 (by decide) ?_ hH
          refine ⟨rfl, ?_⟩
          rw [bI_t ((div_cmp hb0 hd0).mp (by rw [if_neg c23]; exact c35))]
    · refine lv_iconst (v := nI 0) hx hb dX3_isGreater_13 (by decide) ?_
      refine RET _ _ _ _ _ _ dX3_isGreater_14 (by decide) ?_ hH
      exact absurd (show 0 < b ∧ 0 < d from ⟨hb0, hd0⟩) (by omega)
set_option maxHeartbeats 4000000 in
set_option maxRecDepth 100000 in
theorem k_X3_runFrom (l : Launch) (X : Cx) (ad : Nat → Nat) (hi : inj 48 ad) (g : PF) (k : Nat) (hk : k + 1 < 48) (n : Nat) (a : Nat → Nat) (hR : rRow X ad k n a g) (f B t : Nat) (hf : f ≤ n) (hB : B < 2 ^ 62) (ht : t ≤ 1) : Ki l yX3_runFrom wsX3_runFrom zr0 X 48 ad g [.ref (ad k), .int (nI f), .long (lN B), .int (nI t)] (fun r g' => g' = g ∧ r = nI (run t n a B f)) := by
  refine Ki.of (cc := cX3_runFrom) (maxL := 6) hi (by decide) rfl (Nat.le_of_ble_eq_true rfl) ?_
  intro p e s m below meth c Q E RET ls hl
  obtain ⟨C0, FX, hH⟩ := E
  have hx := C0.1
  have hb := C0.2.1
  have kl25 := C0.2.2.2.2 (.constantLong RX3 25 (lN 100)) (by decide +kernel)
  have kiX3 : ∀ w ∈ u_ws RX3 TX3 2, w ∈ wsX3_runFrom := (by decide +kernel)
  have kf11 : Cond.fieldLink RX3 11 "YarnMill$Row" "cells" "[I" ∈ wsX3_runFrom := (by decide +kernel)
  have kf21 : Cond.fieldLink RX3 21 "YarnMill$Row" "size" "I" ∈ wsX3_runFrom := (by decide +kernel)
  have hl : lv_has ls 6 [(0, .ref (ad k)), (1, .int (nI f)), (2, .long (lN B)), (4, .int (nI t))] := hl
  obtain ⟨x, fk, fc, hxa, hn, hab⟩ := hR
  refine lv_iload_n hx hb dX3_runFrom_0 rfl (lv_at hl 1 rfl) ?_
  refine lv_istore (lv' := [(5, .int (nI f)), (0, .ref (ad k)), (1, .int (nI f)), (2, .long (lN B)), (4, .int (nI t))]) hx hb dX3_runFrom_1 hl (by decide) rfl (fun ls hl => ?_)
  have L3 : ∀ (fu : Nat) (i : Nat) (ls : Array Slot), f ≤ i → i ≤ n → run t n a B f = (i - f) + run t n a B i → n - i < fu → lv_has ls 6 [(5, .int (nI i)), (0, .ref (ad k)), (1, .int (nI f)), (2, .long (lN B)), (4, .int (nI t))] → W p l e zr0 s m ([.ref (ad k), .int (nI f), .long (lN B), .int (nI t)] : List Value).toArray below meth c s.heap [] 0 0 Q (F0 m 3 ls []) := by
    intro fu
    induction fu with
    | zero =>
      intro i  ls i1 i2 i3 hm
      exact absurd hm (Nat.not_lt_zero _)
    | succ fu ih =>
      have ih3 := ih; clear ih
      intro i  ls i1 i2 i3 hm3  hl
      have hq := hab i
      refine lv_iload hx hb dX3_runFrom_3 (lv_at hl 0 rfl) ?_
      refine lv_aload_n hx hb dX3_runFrom_5 rfl (lv_at hl 1 rfl) ?_
      refine rp_get C0 FX hH k (by omega) (ci := 3) (k := 0) fk rfl kiX3 (by decide) kf21 rfl dX3_runFrom_6 ?_
      refine ni_cge hx hb 60 dX3_runFrom_9 (by decide) (by omega) (by omega) (fun c9 => ?_) (fun c9 => ?_)
      · refine lv_iload hx hb dX3_runFrom_60 (lv_at hl 0 rfl) ?_
        refine lv_iload_n hx hb dX3_runFrom_62 rfl (lv_at hl 2 rfl) ?_
        refine ni_isub hx hb (by omega) dX3_runFrom_63 ?_
        refine RET _ _ _ _ _ _ dX3_runFrom_64 rfl ?_ hH
        refine ⟨rfl, ?_⟩
        rw [i3, show run t n a B i = 0 from by first | exact rn_end (by omega) | exact rn_no (fun z => by have z : qt t a B i := z; unfold qt at z; first | (rw [if_pos (by omega)] at z; omega) | (rw [if_neg (by omega)] at z; omega))]
        rfl
      · refine lv_iload hx hb dX3_runFrom_12 (lv_at hl 4 rfl) ?_
        refine ni_eq0 hx hb 37 dX3_runFrom_14 (by decide) (by omega) (fun c14 => ?_) (fun c14 => ?_)
        · refine lv_aload_n hx hb dX3_runFrom_37 rfl (lv_at hl 1 rfl) ?_
          refine rp_get C0 FX hH k (by omega) (ci := 3) (k := 1) fk rfl kiX3 (by decide) kf11 rfl dX3_runFrom_38 ?_
          refine lv_iload hx hb dX3_runFrom_41 (lv_at hl 0 rfl) ?_
          refine rp_iald C0 FX hH (k + 1) (by omega) (v := a i) fc i (by omega) (by decide) (hxa _ (by omega)) dX3_runFrom_43 ?_
          refine ni_i2l hx hb (by have := hq c9; omega) dX3_runFrom_44 ?_
          refine lv_ldc2 hx hb C0.2.2.2.1 kl25 dX3_runFrom_45 ?_
          refine ni_lmul hx hb dX3_runFrom_48 ?_
          refine lv_lload_n hx hb dX3_runFrom_49 rfl (lv_at hl 3 rfl) ?_
          refine nl_gt hx hb 60 dX3_runFrom_50 dX3_runFrom_51 (by decide) (by have := hq c9; omega) (by omega) (fun c50 => ?_) (fun c50 => ?_)
          · refine lv_iload hx hb dX3_runFrom_60 (lv_at hl 0 rfl) ?_
            refine lv_iload_n hx hb dX3_runFrom_62 rfl (lv_at hl 2 rfl) ?_
            refine ni_isub hx hb (by omega) dX3_runFrom_63 ?_
            refine RET _ _ _ _ _ _ dX3_runFrom_64 rfl ?_ hH
            refine ⟨rfl, ?_⟩
            rw [i3, show run t n a B i = 0 from by first | exact rn_end (by omega) | exact rn_no (fun z => by have z : qt t a B i := z; unfold qt at z; first | (rw [if_pos (by omega)] at z; omega) | (rw [if_neg (by omega)] at z; omega))]
            rfl
          · refine lv_iinc (v := nI (i + 1)) (lv' := [(5, .int (nI (i + 1))), (0, .ref (ad k)), (1, .int (nI f)), (2, .long (lN B)), (4, .int (nI t))]) hx hb dX3_runFrom_54 hl (k := 0) rfl (ni_inc1 _) (by decide) rfl (fun ls hl => ?_)
            refine lv_goto (tgt := 3) hx hb dX3_runFrom_57 (by decide) ?_
            exact ih3 (i + 1) ls (by omega) (by omega) (by have hy : run t n a B i = run t n a B (i + 1) + 1 := rn_yes (q := qt t a B) (by omega) (by show qt t a B i; unfold qt; first | (rw [if_pos (by omega)]; omega) | (rw [if_neg (by omega)]; omega)); omega) (by omega) (lv_sub hl [0, 1, 2, 3, 4] rfl)
        · refine lv_aload_n hx hb dX3_runFrom_17 rfl (lv_at hl 1 rfl) ?_
          refine rp_get C0 FX hH k (by omega) (ci := 3) (k := 1) fk rfl kiX3 (by decide) kf11 rfl dX3_runFrom_18 ?_
          refine lv_iload hx hb dX3_runFrom_21 (lv_at hl 0 rfl) ?_
          refine rp_iald C0 FX hH (k + 1) (by omega) (v := a i) fc i (by omega) (by decide) (hxa _ (by omega)) dX3_runFrom_23 ?_
          refine ni_i2l hx hb (by have := hq c9; omega) dX3_runFrom_24 ?_
          refine lv_ldc2 hx hb C0.2.2.2.1 kl25 dX3_runFrom_25 ?_
          refine ni_lmul hx hb dX3_runFrom_28 ?_
          refine lv_lload_n hx hb dX3_runFrom_29 rfl (lv_at hl 3 rfl) ?_
          refine nl_lt hx hb 60 dX3_runFrom_30 dX3_runFrom_31 (by decide) (by have := hq c9; omega) (by omega) (fun c30 => ?_) (fun c30 => ?_)
          · refine lv_iload hx hb dX3_runFrom_60 (lv_at hl 0 rfl) ?_
            refine lv_iload_n hx hb dX3_runFrom_62 rfl (lv_at hl 2 rfl) ?_
            refine ni_isub hx hb (by omega) dX3_runFrom_63 ?_
            refine RET _ _ _ _ _ _ dX3_runFrom_64 rfl ?_ hH
            refine ⟨rfl, ?_⟩
            rw [i3, show run t n a B i = 0 from by first | exact rn_end (by omega) | exact rn_no (fun z => by have z : qt t a B i := z; unfold qt at z; first | (rw [if_pos (by omega)] at z; omega) | (rw [if_neg (by omega)] at z; omega))]
            rfl
          · refine lv_goto (tgt := 54) hx hb dX3_runFrom_34 (by decide) ?_
            refine lv_iinc (v := nI (i + 1)) (lv' := [(5, .int (nI (i + 1))), (0, .ref (ad k)), (1, .int (nI f)), (2, .long (lN B)), (4, .int (nI t))]) hx hb dX3_runFrom_54 hl (k := 0) rfl (ni_inc1 _) (by decide) rfl (fun ls hl => ?_)
            refine lv_goto (tgt := 3) hx hb dX3_runFrom_57 (by decide) ?_
            exact ih3 (i + 1) ls (by omega) (by omega) (by have hy : run t n a B i = run t n a B (i + 1) + 1 := rn_yes (q := qt t a B) (by omega) (by show qt t a B i; unfold qt; first | (rw [if_pos (by omega)]; omega) | (rw [if_neg (by omega)]; omega)); omega) (by omega) (lv_sub hl [0, 1, 2, 3, 4] rfl)
  exact L3 ((n - f) + 1) f ls (by omega) (by omega) (by omega) (Nat.lt_succ_self _) (lv_sub hl [0, 1, 2, 3, 4] rfl)
end
section
set_option maxHeartbeats 4000000 in
set_option maxRecDepth 100000 in
theorem k_X3_placeFrom (l : Launch) (X : Cx) (ad : Nat → Nat) (hi : inj 48 ad) (g : PF) (k : Nat) (hk : k + 1 < 48) (n : Nat) (a : Nat → Nat) (hR : rRow X ad k n a g) (f B C lq : Nat) (hf : f ≤ n) (hB : B < 2 ^ 62) (hC : C < 2 ^ 62) (hlq : lq < 2 ^ 31) : Ki l yX3_placeFrom wsX3_placeFrom zr1 X 48 ad g [.ref (ad k), .int (nI f), .long (lN B), .long (lN C), .int (nI lq)] (fun r g' => g' = g ∧ r = nI (plc n a B C lq f)) := by
  refine Ki.of (cc := cX3_placeFrom) (maxL := 9) hi (by decide) rfl (Nat.le_of_ble_eq_true rfl) ?_
  intro p e s m below meth c Q E RET ls hl
  obtain ⟨C0, FX, hH⟩ := E
  have hx := C0.1
  have hb := C0.2.1
  have hl : lv_has ls 9 [(0, .ref (ad k)), (1, .int (nI f)), (2, .long (lN B)), (4, .long (lN C)), (6, .int (nI lq))] := hl
  obtain ⟨x, fk, fc, hxa, hn, hab⟩ := hR
  have hr1 := run_le 1 n a B f
  have hr0 := run_le 0 n a C f
  refine lv_aload_n hx hb dX3_placeFrom_0 rfl (lv_at hl 0 rfl) ?_
  refine lv_iload_n hx hb dX3_placeFrom_1 rfl (lv_at hl 1 rfl) ?_
  refine lv_lload_n hx hb dX3_placeFrom_2 rfl (lv_at hl 2 rfl) ?_
  refine lv_iconst (v := nI 1) hx hb dX3_placeFrom_3 (by decide) ?_
  refine rc_Vi (rest := []) C0 FX hH k (by omega) fk rfl (k_X3_runFrom l X ad hi _ k hk n a ⟨x, fk, fc, hxa, hn, hab⟩ f B 1 (by omega) (by omega) (by omega)) (cwV 3 C0.2.2.2.2 gX3_placeFrom_X3_runFrom rfl rfl rfl (by decide +kernel) ⟨Nat.le_of_ble_eq_true rfl, Nat.le_of_ble_eq_true rfl⟩) rfl rfl hl.1 (Nat.le_of_ble_eq_true rfl) dX3_placeFrom_4 ⟨Nat.le_of_ble_eq_true rfl, Nat.le_of_ble_eq_true rfl⟩ (fun r4 g4c H locs h4 hH => ?_)
  obtain ⟨e4, rfl⟩ := h4
  rw [e4] at hH
  refine lv_istore (lv' := [(7, .int (nI (run 1 n a B f))), (0, .ref (ad k)), (1, .int (nI f)), (2, .long (lN B)), (4, .long (lN C)), (6, .int (nI lq))]) hx hb dX3_placeFrom_7 hl (by decide) rfl (fun ls hl => ?_)
  refine lv_iload hx hb dX3_placeFrom_9 (lv_at hl 0 rfl) ?_
  refine lv_iload hx hb dX3_placeFrom_11 (lv_at hl 5 rfl) ?_
  refine ni_clt hx hb 19 dX3_placeFrom_13 (by decide) (by omega) (by omega) (fun c13 => ?_) (fun c13 => ?_)
  · refine lv_aload_n hx hb dX3_placeFrom_19 rfl (lv_at hl 1 rfl) ?_
    refine lv_iload_n hx hb dX3_placeFrom_20 rfl (lv_at hl 2 rfl) ?_
    refine lv_lload hx hb dX3_placeFrom_21 (lv_at hl 4 rfl) ?_
    refine lv_iconst (v := nI 0) hx hb dX3_placeFrom_23 (by decide) ?_
    refine rc_Vi (rest := []) C0 FX hH k (by omega) fk rfl (k_X3_runFrom l X ad hi _ k hk n a ⟨x, fk, fc, hxa, hn, hab⟩ f C 0 (by omega) (by omega) (by omega)) (cwV 3 C0.2.2.2.2 gX3_placeFrom_X3_runFrom rfl rfl rfl (by decide +kernel) ⟨Nat.le_of_ble_eq_true rfl, Nat.le_of_ble_eq_true rfl⟩) rfl rfl hl.1 (Nat.le_of_ble_eq_true rfl) dX3_placeFrom_24 ⟨Nat.le_of_ble_eq_true rfl, Nat.le_of_ble_eq_true rfl⟩ (fun r24 g24c H locs h24 hH => ?_)
    obtain ⟨e24, rfl⟩ := h24
    rw [e24] at hH
    refine lv_istore (lv' := [(8, .int (nI (run 0 n a C f))), (7, .int (nI (run 1 n a B f))), (0, .ref (ad k)), (1, .int (nI f)), (2, .long (lN B)), (4, .long (lN C)), (6, .int (nI lq))]) hx hb dX3_placeFrom_27 hl (by decide) rfl (fun ls hl => ?_)
    refine lv_iload hx hb dX3_placeFrom_29 (lv_at hl 0 rfl) ?_
    refine lv_iload hx hb dX3_placeFrom_31 (lv_at hl 6 rfl) ?_
    refine ni_clt hx hb 41 dX3_placeFrom_33 (by decide) (by omega) (by omega) (fun c33 => ?_) (fun c33 => ?_)
    · refine lv_iconst (v := nI 0) hx hb dX3_placeFrom_41 (by decide) ?_
      refine RET _ _ _ _ _ _ dX3_placeFrom_42 rfl ?_ hH
      refine ⟨rfl, ?_⟩
      unfold plc
      first | rw [if_pos (by omega)] | rw [if_neg (by omega), if_pos (by omega)] | rw [if_neg (by omega), if_neg (by omega)]
    · refine lv_iload hx hb dX3_placeFrom_36 (lv_at hl 0 rfl) ?_
      refine lv_goto (tgt := 42) hx hb dX3_placeFrom_38 (by decide) ?_
      refine RET _ _ _ _ _ _ dX3_placeFrom_42 rfl ?_ hH
      refine ⟨rfl, ?_⟩
      unfold plc
      first | rw [if_pos (by omega)] | rw [if_neg (by omega), if_pos (by omega)] | rw [if_neg (by omega), if_neg (by omega)]
  · refine lv_iload hx hb dX3_placeFrom_16 (lv_at hl 0 rfl) ?_
    refine RET _ _ _ _ _ _ dX3_placeFrom_18 rfl ?_ hH
    refine ⟨rfl, ?_⟩
    unfold plc
    first | rw [if_pos (by omega)] | rw [if_neg (by omega), if_pos (by omega)] | rw [if_neg (by omega), if_neg (by omega)]
set_option maxHeartbeats 4000000 in
set_option maxRecDepth 100000 in
theorem k_X3_waveAt (l : Launch) (X : Cx) (ad : Nat → Nat) (hi : inj 48 ad) (g : PF) (k : Nat) (hk : k + 1 < 48) (n : Nat) (a : Nat → Nat) (hR : rRow X ad k n a g) (p0 : Int32) : Kl l yX3_waveAt wsX3_waveAt zr1 X 48 ad g [.ref (ad k), .int p0] (fun r g' => g' = g ∧ r = sp_wave p0 n a) := by
  refine Kl.of (cc := cX3_waveAt) (maxL := 11) hi (by decide) rfl (Nat.le_of_ble_eq_true rfl) ?_
  intro p e s m below meth c Q E RET ls hl
  obtain ⟨C0, FX, hH⟩ := E
  have hx := C0.1
  have hb := C0.2.1
  have kl33 := C0.2.2.2.2 (.constantLong RX3 33 (lN 2)) (by decide +kernel)
  have kl54 := C0.2.2.2.2 (.constantLong RX3 54 (-1)) (by decide +kernel)
  have kl56 := C0.2.2.2.2 (.constantLong RX3 56 (lN 200)) (by decide +kernel)
  have kiX3 : ∀ w ∈ u_ws RX3 TX3 2, w ∈ wsX3_waveAt := (by decide +kernel)
  have kf11 : Cond.fieldLink RX3 11 "YarnMill$Row" "cells" "[I" ∈ wsX3_waveAt := (by decide +kernel)
  have kf21 : Cond.fieldLink RX3 21 "YarnMill$Row" "size" "I" ∈ wsX3_waveAt := (by decide +kernel)
  have hl : lv_has ls 11 [(0, .ref (ad k)), (1, .int p0)] := hl
  obtain ⟨x, fk, fc, hxa, hn, hab⟩ := hR
  refine lv_iload_n hx hb dX3_waveAt_0 rfl (lv_at hl 1 rfl) ?_
  refine lv_i2l hx hb dX3_waveAt_1 rfl ?_
  refine lv_ldc2 hx hb C0.2.2.2.1 kl33 dX3_waveAt_2 ?_
  refine lv_ldc2 hx hb C0.2.2.2.1 kl56 dX3_waveAt_5 ?_
  refine rc_Ni (rest := []) C0 FX hH (k_X5_within_rng l X ad hi _ p0 2 200 (by omega) (by omega)) ⟨va_cnB 3 C0.2.2.2.2 gX3_waveAt_X5_within_n17 rfl rfl rfl (FX.1.2 (RX3, 17, yX5_within) (by decide +kernel)) (C0.2.2.2.2 (.initialized RX5) (by decide +kernel)) (by decide +kernel) ⟨Nat.le_of_ble_eq_true rfl, Nat.le_of_ble_eq_true rfl⟩, C0.2.2.2.2 (.static yX5_within) (by decide +kernel), trivial⟩ rfl rfl hl.1 (Nat.le_of_ble_eq_true rfl) dX3_waveAt_8 ⟨Nat.le_of_ble_eq_true rfl, Nat.le_of_ble_eq_true rfl⟩ (fun r8 g8c H locs h8 hH => ?_)
  obtain ⟨e8, rfl⟩ := h8
  rw [e8] at hH
  refine rb_ne hx hb 18 dX3_waveAt_11 (by decide) (fun c11 => ?_) (fun c11 => ?_)
  · obtain ⟨w, rfl, w1, w2, w3⟩ := rng_nI c11
    have hdm := Nat.div_mul_le_self n w
    have hdv := Nat.div_le_self n w
    refine lv_aload_n hx hb dX3_waveAt_18 rfl (lv_at hl 0 rfl) ?_
    refine rp_get C0 FX hH k (by omega) (ci := 3) (k := 0) fk rfl kiX3 (by decide) kf21 rfl dX3_waveAt_19 ?_
    refine lv_iload_n hx hb dX3_waveAt_22 rfl (lv_at hl 1 rfl) ?_
    refine ni_idiv hx hb (by omega) (by omega) (by omega) dX3_waveAt_23 ?_
    refine lv_iload_n hx hb dX3_waveAt_24 rfl (lv_at hl 1 rfl) ?_
    refine ni_imul hx hb dX3_waveAt_25 ?_
    refine lv_istore_n (lv' := [(2, .int (nI ((n / w) * w))), (0, .ref (ad k)), (1, .int (nI w))]) hx hb dX3_waveAt_26 rfl hl (by decide) rfl (fun ls hl => ?_)
    refine lv_lconst (v := lN 0) hx hb dX3_waveAt_27 (by decide) ?_
    refine lv_lstore_n (lv' := [(3, .long (lN 0)), (2, .int (nI ((n / w) * w))), (0, .ref (ad k)), (1, .int (nI w))]) hx hb dX3_waveAt_28 rfl hl (by decide) rfl (fun ls hl => ?_)
    refine lv_lconst (v := lN 0) hx hb dX3_waveAt_29 (by decide) ?_
    refine lv_lstore (lv' := [(5, .long (lN 0)), (3, .long (lN 0)), (2, .int (nI ((n / w) * w))), (0, .ref (ad k)), (1, .int (nI w))]) hx hb dX3_waveAt_30 hl (by decide) rfl (fun ls hl => ?_)
    refine lv_iconst (v := nI 0) hx hb dX3_waveAt_32 (by decide) ?_
    refine lv_istore (lv' := [(7, .int (nI 0)), (5, .long (lN 0)), (3, .long (lN 0)), (2, .int (nI ((n / w) * w))), (0, .ref (ad k)), (1, .int (nI w))]) hx hb dX3_waveAt_33 hl (by decide) rfl (fun ls hl => ?_)
    have L35 : ∀ (fu : Nat) (S : Nat) (V : Nat) (i : Nat) (ls : Array Slot), i ≤ w → S = wS n a w i → V = wQ n a w i → w - i < fu → lv_has ls 11 [(7, .int (nI i)), (5, .long (lN V)), (3, .long (lN S)), (2, .int (nI ((n / w) * w))), (0, .ref (ad k)), (1, .int (nI w))] → W p l e zr1 s m ([.ref (ad k), .int (nI w)] : List Value).toArray below meth c H locs 0 0 Q (F0 m 35 ls []) := by
      intro fu
      induction fu with
      | zero =>
        intro S V i  ls i2 i3 i4 hm
        exact absurd hm (Nat.not_lt_zero _)
      | succ fu ih =>
        have ih35 := ih; clear ih
        intro S V i  ls i2 i3 i4 hm35  hl
        refine lv_iload hx hb dX3_waveAt_35 (lv_at hl 0 rfl) ?_
        refine lv_iload_n hx hb dX3_waveAt_37 rfl (lv_at hl 5 rfl) ?_
        refine ni_cge hx hb 97 dX3_waveAt_38 (by decide) (by omega) (by omega) (fun c38 => ?_) (fun c38 => ?_)
        · refine lv_iload_n hx hb dX3_waveAt_97 rfl (lv_at hl 5 rfl) ?_
          refine ni_i2l hx hb (by omega) dX3_waveAt_98 ?_
          refine lv_lload hx hb dX3_waveAt_99 (lv_at hl 1 rfl) ?_
          refine ni_lmul hx hb dX3_waveAt_101 ?_
          refine lv_lload_n hx hb dX3_waveAt_102 rfl (lv_at hl 2 rfl) ?_
          refine lv_lload_n hx hb dX3_waveAt_103 rfl (lv_at hl 2 rfl) ?_
          refine ni_lmul hx hb dX3_waveAt_104 ?_
          refine ni_lsub hx hb (by rw [i3, i4, show i = w by omega]; exact wS_sq n a w) dX3_waveAt_105 ?_
          refine RET _ _ _ _ _ _ dX3_waveAt_106 ?_ hH
          exact ⟨rfl, by unfold sp_wave wv; rw [if_pos ((rng_iff (by omega)).mpr (by omega)), tN_nI (by omega), i3, i4, show i = w by omega]⟩
        · refine lv_lconst (v := lN 0) hx hb dX3_waveAt_41 (by decide) ?_
          refine lv_lstore (lv' := [(8, .long (lN 0)), (7, .int (nI i)), (5, .long (lN V)), (3, .long (lN S)), (2, .int (nI ((n / w) * w))), (0, .ref (ad k)), (1, .int (nI w))]) hx hb dX3_waveAt_42 hl (by decide) rfl (fun ls hl => ?_)
          refine lv_iload hx hb dX3_waveAt_44 (lv_at hl 1 rfl) ?_
          refine lv_istore (lv' := [(10, .int (nI i)), (8, .long (lN 0)), (7, .int (nI i)), (5, .long (lN V)), (3, .long (lN S)), (2, .int (nI ((n / w) * w))), (0, .ref (ad k)), (1, .int (nI w))]) hx hb dX3_waveAt_46 hl (by decide) rfl (fun ls hl => ?_)
          have L48 : ∀ (fu : Nat) (Z : Nat) (t : Nat) (q : Nat) (ls : Array Slot), t = i + q * w → q ≤ n / w → Z = zs a w i q → n / w - q < fu → lv_has ls 11 [(10, .int (nI t)), (8, .long (lN Z)), (7, .int (nI i)), (5, .long (lN V)), (3, .long (lN S)), (2, .int (nI ((n / w) * w))), (0, .ref (ad k)), (1, .int (nI w))] → W p l e zr1 s m ([.ref (ad k), .int (nI w)] : List Value).toArray below meth c H locs 0 0 Q (F0 m 48 ls []) := by
            intro fu
            induction fu with
            | zero =>
              intro Z t q  ls j1 j2 j3 hm
              exact absurd hm (Nat.not_lt_zero _)
            | succ fu ih =>
              have ih48 := ih; clear ih
              intro Z t q  ls j1 j2 j3 hm48  hl
              have hqw := Nat.mul_le_mul_right w j2
              refine lv_iload hx hb dX3_waveAt_48 (lv_at hl 0 rfl) ?_
              refine lv_iload_n hx hb dX3_waveAt_50 rfl (lv_at hl 5 rfl) ?_
              refine ni_cge hx hb 76 dX3_waveAt_51 (by decide) (by omega) (by omega) (fun c51 => ?_) (fun c51 => ?_)
              · have hqe : q = n / w := Nat.le_antisymm j2 (Nat.le_of_not_lt (fun z => by have h5 := Nat.mul_le_mul_right w (show q + 1 ≤ n / w from z); rw [Nat.succ_mul] at h5; omega))
                refine lv_lload_n hx hb dX3_waveAt_76 rfl (lv_at hl 4 rfl) ?_
                refine lv_lload hx hb dX3_waveAt_77 (lv_at hl 1 rfl) ?_
                refine ni_ladd hx hb dX3_waveAt_79 ?_
                refine lv_lstore_n (lv' := [(3, .long (lN (S + Z))), (10, .int (nI t)), (8, .long (lN Z)), (7, .int (nI i)), (5, .long (lN V)), (2, .int (nI ((n / w) * w))), (0, .ref (ad k)), (1, .int (nI w))]) hx hb dX3_waveAt_80 rfl hl (by decide) rfl (fun ls hl => ?_)
                refine lv_lload hx hb dX3_waveAt_81 (lv_at hl 4 rfl) ?_
                refine lv_lload hx hb dX3_waveAt_83 (lv_at hl 2 rfl) ?_
                refine lv_lload hx hb dX3_waveAt_85 (lv_at hl 2 rfl) ?_
                refine ni_lmul hx hb dX3_waveAt_87 ?_
                refine ni_ladd hx hb dX3_waveAt_88 ?_
                refine lv_lstore (lv' := [(5, .long (lN (V + (Z * Z)))), (3, .long (lN (S + Z))), (10, .int (nI t)), (8, .long (lN Z)), (7, .int (nI i)), (2, .int (nI ((n / w) * w))), (0, .ref (ad k)), (1, .int (nI w))]) hx hb dX3_waveAt_89 hl (by decide) rfl (fun ls hl => ?_)
                refine lv_iinc (v := nI (i + 1)) (lv' := [(7, .int (nI (i + 1))), (5, .long (lN (V + (Z * Z)))), (3, .long (lN (S + Z))), (10, .int (nI t)), (8, .long (lN Z)), (2, .int (nI ((n / w) * w))), (0, .ref (ad k)), (1, .int (nI w))]) hx hb dX3_waveAt_91 hl (k := 4) rfl (ni_inc1 _) (by decide) rfl (fun ls hl => ?_)
                refine lv_goto (tgt := 35) hx hb dX3_waveAt_94 (by decide) ?_
                exact ih35 (S + Z) (V + (Z * Z)) (i + 1) ls (by omega) (by rw [i3, j3, hqe]; rfl) (by rw [i4, j3, hqe]; rfl) (by omega) (lv_sub hl [0, 1, 2, 5, 6, 7] rfl)
              · have hq1 : q < n / w := Nat.lt_of_not_le (fun z => by have := Nat.mul_le_mul_right w z; omega)
                have hq := hab t (by omega)
                refine lv_lload hx hb dX3_waveAt_54 (lv_at hl 1 rfl) ?_
                refine lv_aload_n hx hb dX3_waveAt_56 rfl (lv_at hl 6 rfl) ?_
                refine rp_get C0 FX hH k (by omega) (ci := 3) (k := 1) fk rfl kiX3 (by decide) kf11 rfl dX3_waveAt_57 ?_
                refine lv_iload hx hb dX3_waveAt_60 (lv_at hl 0 rfl) ?_
                refine rp_iald C0 FX hH (k + 1) (by omega) (v := a t) fc t (by omega) (by decide) (hxa _ (by omega)) dX3_waveAt_62 ?_
                refine ni_i2l hx hb (by omega) dX3_waveAt_63 ?_
                refine ni_ladd hx hb dX3_waveAt_64 ?_
                refine lv_lstore (lv' := [(8, .long (lN (Z + (a t)))), (10, .int (nI t)), (7, .int (nI i)), (5, .long (lN V)), (3, .long (lN S)), (2, .int (nI ((n / w) * w))), (0, .ref (ad k)), (1, .int (nI w))]) hx hb dX3_waveAt_65 hl (by decide) rfl (fun ls hl => ?_)
                refine lv_iload hx hb dX3_waveAt_67 (lv_at hl 1 rfl) ?_
                refine lv_iload_n hx hb dX3_waveAt_69 rfl (lv_at hl 7 rfl) ?_
                refine ni_iadd hx hb dX3_waveAt_70 ?_
                refine lv_istore (lv' := [(10, .int (nI (t + w))), (8, .long (lN (Z + (a t)))), (7, .int (nI i)), (5, .long (lN V)), (3, .long (lN S)), (2, .int (nI ((n / w) * w))), (0, .ref (ad k)), (1, .int (nI w))]) hx hb dX3_waveAt_71 hl (by decide) rfl (fun ls hl => ?_)
                refine lv_goto (tgt := 48) hx hb dX3_waveAt_73 (by decide) ?_
                exact ih48 (Z + (a t)) (t + w) (q + 1) ls (by rw [Nat.succ_mul]; omega) (by omega) (by rw [j3, j1]; rfl) (by omega) (lv_sub hl [0, 1, 2, 3, 4, 5, 6, 7] rfl)
          exact L48 ((n / w - 0) + 1) 0 i 0 ls (by rw [Nat.zero_mul]; rfl) (Nat.zero_le _) (by rfl) (Nat.lt_succ_self _) (lv_sub hl [0, 1, 2, 3, 4, 5, 6, 7] rfl)
    exact L35 ((w - 0) + 1) 0 0 0 ls (by omega) (by rfl) (by rfl) (Nat.lt_succ_self _) (lv_sub hl [0, 1, 2, 3, 4, 5] rfl)
  · refine lv_ldc2 hx hb C0.2.2.2.1 kl54 dX3_waveAt_14 ?_
    refine RET _ _ _ _ _ _ dX3_waveAt_17 ?_ hH
    exact ⟨rfl, by unfold sp_wave; rw [if_neg c11]⟩
theorem k_X3_waveAt_nat (l : Launch) (X : Cx) (ad : Nat → Nat) (hi : inj 48 ad) (g : PF) (k : Nat) (hk : k + 1 < 48) (n : Nat) (a : Nat → Nat) (hR : rRow X ad k n a g) (w : Nat) (h1 : 2 ≤ w) (h2 : w ≤ 200) : Kl l yX3_waveAt wsX3_waveAt zr1 X 48 ad g [.ref (ad k), .int (nI w)] (fun r g' => g' = g ∧ r = lN (wv w n a)) := by
  have h := k_X3_waveAt l X ad hi g k hk n a hR (nI w)
  rw [show sp_wave (nI w) n a = lN (wv w n a) from by unfold sp_wave; rw [if_pos ((rng_iff (by omega)).mpr (by omega)), tN_nI (by omega)]] at h
  exact h
set_option maxHeartbeats 4000000 in
set_option maxRecDepth 100000 in
theorem k_X3_greatestUpTo (l : Launch) (X : Cx) (ad : Nat → Nat) (hi : inj 48 ad) (g : PF) (k : Nat) (hk : k + 1 < 48) (n : Nat) (a : Nat → Nat) (hR : rRow X ad k n a g) (p0 : Int32) : Ki l yX3_greatestUpTo wsX3_greatestUpTo zr2 X 48 ad g [.ref (ad k), .int p0] (fun r g' => g' = g ∧ r = sp_greatest p0 n a) := by
  refine Ki.of (cc := cX3_greatestUpTo) (maxL := 12) hi (by decide) rfl (Nat.le_of_ble_eq_true rfl) ?_
  intro p e s m below meth c Q E RET ls hl
  obtain ⟨C0, FX, hH⟩ := E
  have hx := C0.1
  have hb := C0.2.1
  have kl33 := C0.2.2.2.2 (.constantLong RX3 33 (lN 2)) (by decide +kernel)
  have kl56 := C0.2.2.2.2 (.constantLong RX3 56 (lN 200)) (by decide +kernel)
  have kiX3 : ∀ w ∈ u_ws RX3 TX3 2, w ∈ wsX3_greatestUpTo := (by decide +kernel)
  have kf21 : Cond.fieldLink RX3 21 "YarnMill$Row" "size" "I" ∈ wsX3_greatestUpTo := (by decide +kernel)
  have hl : lv_has ls 12 [(0, .ref (ad k)), (1, .int p0)] := hl
  obtain ⟨x, fk, fc, hxa, hn, hab⟩ := hR
  refine lv_iload_n hx hb dX3_greatestUpTo_0 rfl (lv_at hl 1 rfl) ?_
  refine lv_i2l hx hb dX3_greatestUpTo_1 rfl ?_
  refine lv_ldc2 hx hb C0.2.2.2.1 kl33 dX3_greatestUpTo_2 ?_
  refine lv_ldc2 hx hb C0.2.2.2.1 kl56 dX3_greatestUpTo_5 ?_
  refine rc_Ni (rest := []) C0 FX hH (k_X5_within_rng l X ad hi _ p0 2 200 (by omega) (by omega)) ⟨va_cnB 3 C0.2.2.2.2 gX3_greatestUpTo_X5_within_n17 rfl rfl rfl (FX.1.2 (RX3, 17, yX5_within) (by decide +kernel)) (C0.2.2.2.2 (.initialized RX5) (by decide +kernel)) (by decide +kernel) ⟨Nat.le_of_ble_eq_true rfl, Nat.le_of_ble_eq_true rfl⟩, C0.2.2.2.2 (.static yX5_within) (by decide +kernel), trivial⟩ rfl rfl hl.1 (Nat.le_of_ble_eq_true rfl) dX3_greatestUpTo_8 ⟨Nat.le_of_ble_eq_true rfl, Nat.le_of_ble_eq_true rfl⟩ (fun r8 g8c H locs h8 hH => ?_)
  obtain ⟨e8, rfl⟩ := h8
  rw [e8] at hH
  refine rb_ne hx hb 17 dX3_greatestUpTo_11 (by decide) (fun c11 => ?_) (fun c11 => ?_)
  · obtain ⟨mo, rfl, mo1, mo2, mo3⟩ := rng_nI c11
    refine lv_iconst (v := (-1)) hx hb dX3_greatestUpTo_17 (by decide) ?_
    refine lv_istore_n (lv' := [(2, .int ((-1))), (0, .ref (ad k)), (1, .int (nI mo))]) hx hb dX3_greatestUpTo_18 rfl hl (by decide) rfl (fun ls hl => ?_)
    refine lv_lconst (v := lN 0) hx hb dX3_greatestUpTo_19 (by decide) ?_
    refine lv_lstore_n (lv' := [(3, .long (lN 0)), (2, .int ((-1))), (0, .ref (ad k)), (1, .int (nI mo))]) hx hb dX3_greatestUpTo_20 rfl hl (by decide) rfl (fun ls hl => ?_)
    refine lv_lconst (v := lN 1) hx hb dX3_greatestUpTo_21 (by decide) ?_
    refine lv_lstore (lv' := [(5, .long (lN 1)), (3, .long (lN 0)), (2, .int ((-1))), (0, .ref (ad k)), (1, .int (nI mo))]) hx hb dX3_greatestUpTo_22 hl (by decide) rfl (fun ls hl => ?_)
    refine lv_iconst (v := nI 2) hx hb dX3_greatestUpTo_24 (by decide) ?_
    refine lv_istore (lv' := [(7, .int (nI 2)), (5, .long (lN 1)), (3, .long (lN 0)), (2, .int ((-1))), (0, .ref (ad k)), (1, .int (nI mo))]) hx hb dX3_greatestUpTo_25 hl (by decide) rfl (fun ls hl => ?_)
    have L27 : ∀ (fu : Nat) (Bv : Int32) (bw : Nat) (bb : Nat) (w : Nat) (b : Nat) (H : Heap) (locs : List Loc) (ls : Array Slot), 2 ≤ w → w ≤ max 2 (min mo (n / 2) + 1) → Bv = bst b → (b, bw, bb) = gr n a (w - 2) → 202 - w < fu → WH X 48 ad (pA 48 ad s.heap.size) s g H locs → lv_has ls 12 [(7, .int (nI w)), (5, .long (lN bb)), (3, .long (lN bw)), (2, .int Bv), (0, .ref (ad k)), (1, .int (nI mo))] → W p l e zr2 s m ([.ref (ad k), .int (nI mo)] : List Value).toArray below meth c H locs 0 0 Q (F0 m 27 ls []) := by
      intro fu
      induction fu with
      | zero =>
        intro Bv bw bb w b H locs ls i1 i2 i3 i4 hm
        exact absurd hm (Nat.not_lt_zero _)
      | succ fu ih =>
        have ih27 := ih; clear ih
        intro Bv bw bb w b H locs ls i1 i2 i3 i4 hm27 hH hl
        have hG := gr_in hn hab (w - 2) (by omega)
        rw [← i4] at hG
        have hGa := hG.1
        have hGb := hG.2.1
        have hGc := hG.2.2.1
        have hGd := hG.2.2.2
        simp only at hGa hGb hGc hGd
        refine lv_iload hx hb dX3_greatestUpTo_27 (lv_at hl 0 rfl) ?_
        refine lv_iload_n hx hb dX3_greatestUpTo_29 rfl (lv_at hl 5 rfl) ?_
        refine ni_cgt hx hb 103 dX3_greatestUpTo_30 (by decide) (by omega) (by omega) (fun c30 => ?_) (fun c30 => ?_)
        · refine lv_iload_n hx hb dX3_greatestUpTo_103 rfl (lv_at hl 3 rfl) ?_
          refine RET _ _ _ _ _ _ dX3_greatestUpTo_104 rfl ?_ hH
          refine ⟨rfl, ?_⟩
          unfold sp_greatest
          rw [if_pos ((rng_iff (by omega)).mpr (by omega)), tN_nI (by omega), show min mo (n / 2) - 1 = w - 2 by omega, ← i4, i3]
        · refine lv_iconst (v := nI 2) hx hb dX3_greatestUpTo_33 (by decide) ?_
          refine lv_iload hx hb dX3_greatestUpTo_34 (lv_at hl 0 rfl) ?_
          refine ni_imul hx hb dX3_greatestUpTo_36 ?_
          refine lv_aload_n hx hb dX3_greatestUpTo_37 rfl (lv_at hl 4 rfl) ?_
          refine rp_get C0 FX hH k (by omega) (ci := 3) (k := 0) fk rfl kiX3 (by decide) kf21 rfl dX3_greatestUpTo_38 ?_
          refine ni_cgt hx hb 103 dX3_greatestUpTo_41 (by decide) (by omega) (by omega) (fun c41 => ?_) (fun c41 => ?_)
          · refine lv_iload_n hx hb dX3_greatestUpTo_103 rfl (lv_at hl 3 rfl) ?_
            refine RET _ _ _ _ _ _ dX3_greatestUpTo_104 rfl ?_ hH
            refine ⟨rfl, ?_⟩
            unfold sp_greatest
            rw [if_pos ((rng_iff (by omega)).mpr (by omega)), tN_nI (by omega), show min mo (n / 2) - 1 = w - 2 by omega, ← i4, i3]
          · have hwv := wv_le (w := w) hn hab
            have hby := by3_in hn i1 (by omega) (show w ≤ n by omega)
            have hw2 : w + 1 - 2 = (w - 2) + 1 := by omega
            have hw3 : w - 2 + 2 = w := by omega
            have hdm := Nat.div_mul_le_self n w
            unfold by3 at hby
            refine lv_aload_n hx hb dX3_greatestUpTo_44 rfl (lv_at hl 4 rfl) ?_
            refine lv_iload hx hb dX3_greatestUpTo_45 (lv_at hl 0 rfl) ?_
            refine rc_Vl (rest := []) C0 FX hH k (by omega) fk rfl (k_X3_waveAt_nat l X ad hi _ k hk n a ⟨x, fk, fc, hxa, hn, hab⟩ w (by omega) (by omega)) (cwV 1 C0.2.2.2.2 gX3_greatestUpTo_X3_waveAt rfl rfl rfl (by decide +kernel) ⟨Nat.le_of_ble_eq_true rfl, Nat.le_of_ble_eq_true rfl⟩) rfl rfl hl.1 (Nat.le_of_ble_eq_true rfl) dX3_greatestUpTo_47 ⟨Nat.le_of_ble_eq_true rfl, Nat.le_of_ble_eq_true rfl⟩ (fun r47 g47c H locs h47 hH => ?_)
            obtain ⟨e47, rfl⟩ := h47
            rw [e47] at hH
            refine lv_lstore (lv' := [(8, .long (lN (wv w n a))), (7, .int (nI w)), (5, .long (lN bb)), (3, .long (lN bw)), (2, .int Bv), (0, .ref (ad k)), (1, .int (nI mo))]) hx hb dX3_greatestUpTo_50 hl (by decide) rfl (fun ls hl => ?_)
            refine lv_aload_n hx hb dX3_greatestUpTo_52 rfl (lv_at hl 5 rfl) ?_
            refine rp_get C0 FX hH k (by omega) (ci := 3) (k := 0) fk rfl kiX3 (by decide) kf21 rfl dX3_greatestUpTo_53 ?_
            refine lv_iload hx hb dX3_greatestUpTo_56 (lv_at hl 1 rfl) ?_
            refine ni_idiv hx hb (by omega) (by omega) (by omega) dX3_greatestUpTo_58 ?_
            refine lv_iload hx hb dX3_greatestUpTo_59 (lv_at hl 1 rfl) ?_
            refine ni_imul hx hb dX3_greatestUpTo_61 ?_
            refine ni_i2l hx hb (by omega) dX3_greatestUpTo_62 ?_
            refine lv_iload hx hb dX3_greatestUpTo_63 (lv_at hl 1 rfl) ?_
            refine ni_i2l hx hb (by omega) dX3_greatestUpTo_65 ?_
            refine ni_lmul hx hb dX3_greatestUpTo_66 ?_
            refine lv_lstore (lv' := [(10, .long (lN (((n / w) * w) * w))), (8, .long (lN (wv w n a))), (7, .int (nI w)), (5, .long (lN bb)), (3, .long (lN bw)), (2, .int Bv), (0, .ref (ad k)), (1, .int (nI mo))]) hx hb dX3_greatestUpTo_67 hl (by decide) rfl (fun ls hl => ?_)
            refine lv_iload_n hx hb dX3_greatestUpTo_69 rfl (lv_at hl 5 rfl) ?_
            refine lv_iconst (v := (-1)) hx hb dX3_greatestUpTo_70 (by decide) ?_
            refine lv_icmp_eq (tgt := 87) hx hb dX3_greatestUpTo_71 (by decide) (fun c71 => ?_) (fun c71 => ?_)
            · refine lv_iload hx hb dX3_greatestUpTo_87 (lv_at hl 2 rfl) ?_
              refine lv_istore_n (lv' := [(2, .int (nI w)), (10, .long (lN (((n / w) * w) * w))), (8, .long (lN (wv w n a))), (7, .int (nI w)), (5, .long (lN bb)), (3, .long (lN bw)), (0, .ref (ad k)), (1, .int (nI mo))]) hx hb dX3_greatestUpTo_89 rfl hl (by decide) rfl (fun ls hl => ?_)
              refine lv_lload hx hb dX3_greatestUpTo_90 (lv_at hl 2 rfl) ?_
              refine lv_lstore_n (lv' := [(3, .long (lN (wv w n a))), (2, .int (nI w)), (10, .long (lN (((n / w) * w) * w))), (8, .long (lN (wv w n a))), (7, .int (nI w)), (5, .long (lN bb)), (0, .ref (ad k)), (1, .int (nI mo))]) hx hb dX3_greatestUpTo_92 rfl hl (by decide) rfl (fun ls hl => ?_)
              refine lv_lload hx hb dX3_greatestUpTo_93 (lv_at hl 2 rfl) ?_
              refine lv_lstore (lv' := [(5, .long (lN (((n / w) * w) * w))), (3, .long (lN (wv w n a))), (2, .int (nI w)), (10, .long (lN (((n / w) * w) * w))), (8, .long (lN (wv w n a))), (7, .int (nI w)), (0, .ref (ad k)), (1, .int (nI mo))]) hx hb dX3_greatestUpTo_95 hl (by decide) rfl (fun ls hl => ?_)
              refine lv_iinc (v := nI (w + 1)) (lv' := [(7, .int (nI (w + 1))), (5, .long (lN (((n / w) * w) * w))), (3, .long (lN (wv w n a))), (2, .int (nI w)), (10, .long (lN (((n / w) * w) * w))), (8, .long (lN (wv w n a))), (0, .ref (ad k)), (1, .int (nI mo))]) hx hb dX3_greatestUpTo_97 hl (k := 5) rfl (ni_inc1 _) (by decide) rfl (fun ls hl => ?_)
              refine lv_goto (tgt := 27) hx hb dX3_greatestUpTo_100 (by decide) ?_
              exact ih27 (nI w) (wv w n a) (((n / w) * w) * w) (w + 1) w _ _ ls (by omega) (by omega) (by unfold bst; rw [if_neg (by omega)]) (by rw [hw2]; show _ = ite _ _ _; rw [← i4]; rw [if_pos (by rw [hw3]; first | exact Or.inr c84 | exact Or.inl ((bst_0 (by omega)).mp (i3 ▸ c71)))]; rw [hw3]; rfl) (by omega) hH (lv_sub hl [0, 1, 2, 3, 6, 7] rfl)
            · refine lv_lload hx hb dX3_greatestUpTo_74 (lv_at hl 1 rfl) ?_
              refine lv_lload hx hb dX3_greatestUpTo_76 (lv_at hl 0 rfl) ?_
              refine lv_lload_n hx hb dX3_greatestUpTo_78 rfl (lv_at hl 4 rfl) ?_
              refine lv_lload hx hb dX3_greatestUpTo_79 (lv_at hl 3 rfl) ?_
              refine rc_Si (rest := []) C0 FX hH (k_X3_isGreater l X ad hi _ (wv w n a) (((n / w) * w) * w) bw bb (by omega) (by omega) hby.1 hby.2 (by omega) (by omega)) (va_cwS 4 C0.2.2.2.2 gX3_greatestUpTo_X3_isGreater rfl rfl rfl (by decide +kernel) ⟨Nat.le_of_ble_eq_true rfl, Nat.le_of_ble_eq_true rfl⟩) rfl rfl hl.1 (Nat.le_of_ble_eq_true rfl) dX3_greatestUpTo_81 ⟨Nat.le_of_ble_eq_true rfl, Nat.le_of_ble_eq_true rfl⟩ (fun r81 g81c H locs h81 hH => ?_)
              obtain ⟨e81, rfl⟩ := h81
              rw [e81] at hH
              refine rb_eq hx hb 97 dX3_greatestUpTo_84 (by decide) (fun c84 => ?_) (fun c84 => ?_)
              · refine lv_iinc (v := nI (w + 1)) (lv' := [(7, .int (nI (w + 1))), (10, .long (lN (((n / w) * w) * w))), (8, .long (lN (wv w n a))), (5, .long (lN bb)), (3, .long (lN bw)), (2, .int Bv), (0, .ref (ad k)), (1, .int (nI mo))]) hx hb dX3_greatestUpTo_97 hl (k := 2) rfl (ni_inc1 _) (by decide) rfl (fun ls hl => ?_)
                refine lv_goto (tgt := 27) hx hb dX3_greatestUpTo_100 (by decide) ?_
                exact ih27 Bv bw bb (w + 1) b _ _ ls (by omega) (by omega) (i3) (by rw [hw2]; show _ = ite _ _ _; rw [← i4]; rw [if_neg (by rw [hw3]; exact fun z => z.elim (fun z => c71 (by have z : b = 0 := z; rw [i3, z]; rfl)) c84)]) (by omega) hH (lv_sub hl [0, 3, 4, 5, 6, 7] rfl)
              · refine lv_iload hx hb dX3_greatestUpTo_87 (lv_at hl 2 rfl) ?_
                refine lv_istore_n (lv' := [(2, .int (nI w)), (10, .long (lN (((n / w) * w) * w))), (8, .long (lN (wv w n a))), (7, .int (nI w)), (5, .long (lN bb)), (3, .long (lN bw)), (0, .ref (ad k)), (1, .int (nI mo))]) hx hb dX3_greatestUpTo_89 rfl hl (by decide) rfl (fun ls hl => ?_)
                refine lv_lload hx hb dX3_greatestUpTo_90 (lv_at hl 2 rfl) ?_
                refine lv_lstore_n (lv' := [(3, .long (lN (wv w n a))), (2, .int (nI w)), (10, .long (lN (((n / w) * w) * w))), (8, .long (lN (wv w n a))), (7, .int (nI w)), (5, .long (lN bb)), (0, .ref (ad k)), (1, .int (nI mo))]) hx hb dX3_greatestUpTo_92 rfl hl (by decide) rfl (fun ls hl => ?_)
                refine lv_lload hx hb dX3_greatestUpTo_93 (lv_at hl 2 rfl) ?_
                refine lv_lstore (lv' := [(5, .long (lN (((n / w) * w) * w))), (3, .long (lN (wv w n a))), (2, .int (nI w)), (10, .long (lN (((n / w) * w) * w))), (8, .long (lN (wv w n a))), (7, .int (nI w)), (0, .ref (ad k)), (1, .int (nI mo))]) hx hb dX3_greatestUpTo_95 hl (by decide) rfl (fun ls hl => ?_)
                refine lv_iinc (v := nI (w + 1)) (lv' := [(7, .int (nI (w + 1))), (5, .long (lN (((n / w) * w) * w))), (3, .long (lN (wv w n a))), (2, .int (nI w)), (10, .long (lN (((n / w) * w) * w))), (8, .long (lN (wv w n a))), (0, .ref (ad k)), (1, .int (nI mo))]) hx hb dX3_greatestUpTo_97 hl (k := 5) rfl (ni_inc1 _) (by decide) rfl (fun ls hl => ?_)
                refine lv_goto (tgt := 27) hx hb dX3_greatestUpTo_100 (by decide) ?_
                exact ih27 (nI w) (wv w n a) (((n / w) * w) * w) (w + 1) w _ _ ls (by omega) (by omega) (by unfold bst; rw [if_neg (by omega)]) (by rw [hw2]; show _ = ite _ _ _; rw [← i4]; rw [if_pos (by rw [hw3]; first | exact Or.inr c84 | exact Or.inl ((bst_0 (by omega)).mp (i3 ▸ c71)))]; rw [hw3]; rfl) (by omega) hH (lv_sub hl [0, 1, 2, 3, 6, 7] rfl)
    exact L27 ((202 - 2) + 1) ((-1)) 0 1 2 0 _ _ ls (by omega) (by omega) (by rfl) (by rfl) (Nat.lt_succ_self _) hH (lv_sub hl [0, 1, 2, 3, 4, 5] rfl)
  · refine lv_bipush (v := (-2)) hx hb dX3_greatestUpTo_14 (by decide) ?_
    refine RET _ _ _ _ _ _ dX3_greatestUpTo_16 rfl ?_ hH
    exact ⟨rfl, by unfold sp_greatest; rw [if_neg c11]⟩
end
section
set_option maxHeartbeats 4000000 in
set_option maxRecDepth 100000 in
theorem k_X3_countPlaces (l : Launch) (X : Cx) (ad : Nat → Nat) (hi : inj 48 ad) (g : PF) (k : Nat) (hk : k + 1 < 48) (n : Nat) (a : Nat → Nat) (hR : rRow X ad k n a g) (th tn lq so : Int32) : Ki l yX3_countPlaces wsX3_countPlaces zr3 X 48 ad g [.ref (ad k), .int th, .int tn, .int lq, .int so] (fun r g' => g' = g ∧ r = sp_places th tn lq so n a) := by
  refine Ki.of (cc := cX3_countPlaces) (maxL := 11) hi (by decide) rfl (Nat.le_of_ble_eq_true rfl) ?_
  intro p e s m below meth c Q E RET ls hl
  obtain ⟨C0, FX, hH⟩ := E
  have hx := C0.1
  have hb := C0.2.1
  have kiX3 : ∀ w ∈ u_ws RX3 TX3 2, w ∈ wsX3_countPlaces := (by decide +kernel)
  have kf21 : Cond.fieldLink RX3 21 "YarnMill$Row" "size" "I" ∈ wsX3_countPlaces := (by decide +kernel)
  have hl : lv_has ls 11 [(0, .ref (ad k)), (1, .int th), (2, .int tn), (3, .int lq), (4, .int so)] := hl
  obtain ⟨x, fk, fc, hxa, hn, hab⟩ := hR
  refine lv_iload_n hx hb dX3_countPlaces_0 rfl (lv_at hl 1 rfl) ?_
  refine lv_iload_n hx hb dX3_countPlaces_1 rfl (lv_at hl 2 rfl) ?_
  refine lv_iload_n hx hb dX3_countPlaces_2 rfl (lv_at hl 3 rfl) ?_
  refine rc_Si (rest := []) C0 FX hH (k_X3_isLaw l X ad hi _ th tn lq) (va_cwS 3 C0.2.2.2.2 gX3_countPlaces_X3_isLaw rfl rfl rfl (by decide +kernel) ⟨Nat.le_of_ble_eq_true rfl, Nat.le_of_ble_eq_true rfl⟩) rfl rfl hl.1 (Nat.le_of_ble_eq_true rfl) dX3_countPlaces_3 ⟨Nat.le_of_ble_eq_true rfl, Nat.le_of_ble_eq_true rfl⟩ (fun r3 g3c H locs h3 hH => ?_)
  obtain ⟨e3, rfl⟩ := h3
  rw [e3] at hH
  refine rb_eq hx hb 20 dX3_countPlaces_6 (by decide) (fun c6 => ?_) (fun c6 => ?_)
  · refine lv_bipush (v := (-2)) hx hb dX3_countPlaces_20 (by decide) ?_
    refine RET _ _ _ _ _ _ dX3_countPlaces_22 rfl ?_ hH
    exact ⟨rfl, by unfold sp_places; rw [if_neg (fun z => by first | exact absurd z.1 (by assumption) | exact absurd z.2 (by assumption))]⟩
  · obtain ⟨tv, rfl, tv1, tv2, tv3⟩ := rng_nI c6.1
    obtain ⟨uv, rfl, uv1, uv2, uv3⟩ := rng_nI c6.2.1
    obtain ⟨lv, rfl, lv1, lv2, lv3⟩ := rng_nI c6.2.2
    refine lv_iload hx hb dX3_countPlaces_9 (lv_at hl 4 rfl) ?_
    refine lv_i2l hx hb dX3_countPlaces_11 rfl ?_
    refine lv_lconst (v := lN 0) hx hb dX3_countPlaces_12 (by decide) ?_
    refine lv_lconst (v := lN 1) hx hb dX3_countPlaces_13 (by decide) ?_
    refine rc_Ni (rest := []) C0 FX hH (k_X5_within_rng l X ad hi _ so 0 1 (by omega) (by omega)) ⟨va_cnB 3 C0.2.2.2.2 gX3_countPlaces_X5_within_n17 rfl rfl rfl (FX.1.2 (RX3, 17, yX5_within) (by decide +kernel)) (C0.2.2.2.2 (.initialized RX5) (by decide +kernel)) (by decide +kernel) ⟨Nat.le_of_ble_eq_true rfl, Nat.le_of_ble_eq_true rfl⟩, C0.2.2.2.2 (.static yX5_within) (by decide +kernel), trivial⟩ rfl rfl hl.1 (Nat.le_of_ble_eq_true rfl) dX3_countPlaces_14 ⟨Nat.le_of_ble_eq_true rfl, Nat.le_of_ble_eq_true rfl⟩ (fun r14 g14c H locs h14 hH => ?_)
    obtain ⟨e14, rfl⟩ := h14
    rw [e14] at hH
    refine rb_ne hx hb 23 dX3_countPlaces_17 (by decide) (fun c17 => ?_) (fun c17 => ?_)
    · obtain ⟨sv, rfl, sv1, sv2, sv3⟩ := rng_nI c17
      refine lv_iload hx hb dX3_countPlaces_23 (lv_at hl 4 rfl) ?_
      refine ni_ne0 hx hb 32 dX3_countPlaces_25 (by decide) (by omega) (fun c25 => ?_) (fun c25 => ?_)
      · refine lv_iconst (v := nI 0) hx hb dX3_countPlaces_32 (by decide) ?_
        refine lv_istore (lv' := [(5, .int (nI 0)), (0, .ref (ad k)), (1, .int (nI tv)), (2, .int (nI uv)), (3, .int (nI lv)), (4, .int (nI sv))]) hx hb dX3_countPlaces_33 hl (by decide) rfl (fun ls hl => ?_)
        refine lv_aload_n hx hb dX3_countPlaces_35 rfl (lv_at hl 1 rfl) ?_
        refine rc_Vl (rest := []) C0 FX hH k (by omega) fk rfl (k_X3_mean l X ad hi _ k hk n a ⟨x, fk, fc, hxa, hn, hab⟩ ) (cwV 0 C0.2.2.2.2 gX3_countPlaces_X3_mean rfl rfl rfl (by decide +kernel) ⟨Nat.le_of_ble_eq_true rfl, Nat.le_of_ble_eq_true rfl⟩) rfl rfl hl.1 (Nat.le_of_ble_eq_true rfl) dX3_countPlaces_36 ⟨Nat.le_of_ble_eq_true rfl, Nat.le_of_ble_eq_true rfl⟩ (fun r36 g36c H locs h36 hH => ?_)
        obtain ⟨e36, rfl⟩ := h36
        rw [e36] at hH
        refine lv_iload hx hb dX3_countPlaces_39 (lv_at hl 0 rfl) ?_
        refine lv_if_eq (tgt := 51) hx hb dX3_countPlaces_41 (by decide) (fun c41 => ?_) (fun c41 => absurd (by decide) c41)
        refine lv_bipush (v := nI 100) hx hb dX3_countPlaces_51 (by decide) ?_
        refine lv_iload_n hx hb dX3_countPlaces_53 rfl (lv_at hl 3 rfl) ?_
        refine ni_isub hx hb (by omega) dX3_countPlaces_54 ?_
        refine ni_i2l hx hb (by omega) dX3_countPlaces_55 ?_
        refine ni_lmul hx hb dX3_countPlaces_56 ?_
        refine lv_lstore (lv' := [(6, .long (lN ((sp_mean n a) * (100 - uv)))), (5, .int (nI 0)), (0, .ref (ad k)), (1, .int (nI tv)), (2, .int (nI uv)), (3, .int (nI lv)), (4, .int (nI sv))]) hx hb dX3_countPlaces_57 hl (by decide) rfl (fun ls hl => ?_)
        have hB9 := mean_up (t := 100 - uv) hn hab (by omega)
        refine lv_iconst (v := nI 0) hx hb dX3_countPlaces_59 (by decide) ?_
        refine lv_istore (lv' := [(8, .int (nI 0)), (6, .long (lN ((sp_mean n a) * (100 - uv)))), (5, .int (nI 0)), (0, .ref (ad k)), (1, .int (nI tv)), (2, .int (nI uv)), (3, .int (nI lv)), (4, .int (nI sv))]) hx hb dX3_countPlaces_60 hl (by decide) rfl (fun ls hl => ?_)
        refine lv_iconst (v := nI 0) hx hb dX3_countPlaces_62 (by decide) ?_
        refine lv_istore (lv' := [(10, .int (nI 0)), (8, .int (nI 0)), (6, .long (lN ((sp_mean n a) * (100 - uv)))), (5, .int (nI 0)), (0, .ref (ad k)), (1, .int (nI tv)), (2, .int (nI uv)), (3, .int (nI lv)), (4, .int (nI sv))]) hx hb dX3_countPlaces_63 hl (by decide) rfl (fun ls hl => ?_)
        have L65 : ∀ (fu : Nat) (F : Nat) (i : Nat) (H : Heap) (locs : List Loc) (ls : Array Slot), (i ≤ n) → (cur (run 0 n a (sp_mean n a * (100 - uv))) (cpf (run 0 n a (sp_mean n a * (100 - uv))) lv) n (n - i) i F = cur (run 0 n a (sp_mean n a * (100 - uv))) (cpf (run 0 n a (sp_mean n a * (100 - uv))) lv) n n 0 0) → (F ≤ i) → n - i < fu → WH X 48 ad (pA 48 ad s.heap.size) s g H locs → lv_has ls 11 [(10, .int (nI i)), (8, .int (nI F)), (6, .long (lN ((sp_mean n a) * (100 - uv)))), (5, .int (nI 0)), (0, .ref (ad k)), (1, .int (nI tv)), (2, .int (nI uv)), (3, .int (nI lv)), (4, .int (nI sv))] → W p l e zr3 s m ([.ref (ad k), .int (nI tv), .int (nI uv), .int (nI lv), .int (nI sv)] : List Value).toArray below meth c H locs 0 0 Q (F0 m 65 ls []) := by
          intro fu
          induction fu with
          | zero =>
            intro F i H locs ls i2 i3 i4 hm
            exact absurd hm (Nat.not_lt_zero _)
          | succ fu ih =>
            have ih65 := ih; clear ih
            intro F i H locs ls i2 i3 i4 hm65 hH hl
            have hrl := run_le 0 n a (sp_mean n a * (100 - uv)) i
            refine lv_iload hx hb dX3_countPlaces_65 (lv_at hl 0 rfl) ?_
            refine lv_aload_n hx hb dX3_countPlaces_67 rfl (lv_at hl 4 rfl) ?_
            refine rp_get C0 FX hH k (by omega) (ci := 3) (k := 0) fk rfl kiX3 (by decide) kf21 rfl dX3_countPlaces_68 ?_
            refine ni_cge hx hb 109 dX3_countPlaces_71 (by decide) (by omega) (by omega) (fun c71 => ?_) (fun c71 => ?_)
            · refine lv_iload hx hb dX3_countPlaces_109 (lv_at hl 1 rfl) ?_
              refine RET _ _ _ _ _ _ dX3_countPlaces_111 rfl ?_ hH
              refine ⟨rfl, ?_⟩
              unfold sp_places
              rw [if_pos ⟨c6, (rng_iff (by omega)).mpr (by omega)⟩, if_neg (fun z => by have := (nI_eq (by omega) (show 0 < 2 ^ 31 by omega)).mp z; omega), tN_nI (by omega), tN_nI (by omega), ← i3, cur_no _ _ (by omega)]
            · refine lv_aload_n hx hb dX3_countPlaces_74 rfl (lv_at hl 4 rfl) ?_
              refine lv_iload hx hb dX3_countPlaces_75 (lv_at hl 0 rfl) ?_
              refine lv_lload hx hb dX3_countPlaces_77 (lv_at hl 2 rfl) ?_
              refine lv_iload hx hb dX3_countPlaces_79 (lv_at hl 3 rfl) ?_
              refine rc_Vi (rest := []) C0 FX hH k (by omega) fk rfl (k_X3_runFrom l X ad hi _ k hk n a ⟨x, fk, fc, hxa, hn, hab⟩ i ((sp_mean n a) * (100 - uv)) 0 (by omega) (by omega) (by omega)) (cwV 3 C0.2.2.2.2 gX3_countPlaces_X3_runFrom rfl rfl rfl (by decide +kernel) ⟨Nat.le_of_ble_eq_true rfl, Nat.le_of_ble_eq_true rfl⟩) rfl rfl hl.1 (Nat.le_of_ble_eq_true rfl) dX3_countPlaces_81 ⟨Nat.le_of_ble_eq_true rfl, Nat.le_of_ble_eq_true rfl⟩ (fun r81 g81c H locs h81 hH => ?_)
              obtain ⟨e81, rfl⟩ := h81
              rw [e81] at hH
              refine lv_istore (lv' := [(9, .int (nI (run 0 n a ((sp_mean n a) * (100 - uv)) i))), (10, .int (nI i)), (8, .int (nI F)), (6, .long (lN ((sp_mean n a) * (100 - uv)))), (5, .int (nI 0)), (0, .ref (ad k)), (1, .int (nI tv)), (2, .int (nI uv)), (3, .int (nI lv)), (4, .int (nI sv))]) hx hb dX3_countPlaces_84 hl (by decide) rfl (fun ls hl => ?_)
              refine lv_iload hx hb dX3_countPlaces_86 (lv_at hl 0 rfl) ?_
              refine lv_iload_n hx hb dX3_countPlaces_88 rfl (lv_at hl 8 rfl) ?_
              refine ni_clt hx hb 95 dX3_countPlaces_89 (by decide) (by omega) (by omega) (fun c89 => ?_) (fun c89 => ?_)
              · refine lv_iload hx hb dX3_countPlaces_95 (lv_at hl 1 rfl) ?_
                refine lv_iload hx hb dX3_countPlaces_97 (lv_at hl 0 rfl) ?_
                refine lv_iconst (v := nI 1) hx hb dX3_countPlaces_99 (by decide) ?_
                refine va_mmax hx hb (by rw [C0.2.2.1]; exact hl.1.symm) C0.2.2.2.1 (C0.2.2.2.2 (.methodLink RX3 77 Lib.Math.max.name) (by decide +kernel)) (C0.2.2.2.2 (.static Lib.Math.max.name) (by decide +kernel)) (C0.2.2.2.2 (.initialized "java/lang/Math") (by decide +kernel)) (C0.2.2.2.2 (.code Lib.Math.max.name Lib.Math.max.code 2 (some .int)) (by decide +kernel)) (Nat.le_of_ble_eq_true rfl) (Nat.le_of_ble_eq_true rfl) (Nat.le_of_ble_eq_true rfl) (Nat.le_of_ble_eq_true rfl) dX3_countPlaces_100 ?_
                rw [ni_max (by omega) (by omega)]
                refine ni_iadd hx hb dX3_countPlaces_103 ?_
                refine lv_istore (lv' := [(10, .int (nI (i + (max (run 0 n a ((sp_mean n a) * (100 - uv)) i) 1)))), (9, .int (nI (run 0 n a ((sp_mean n a) * (100 - uv)) i))), (8, .int (nI F)), (6, .long (lN ((sp_mean n a) * (100 - uv)))), (5, .int (nI 0)), (0, .ref (ad k)), (1, .int (nI tv)), (2, .int (nI uv)), (3, .int (nI lv)), (4, .int (nI sv))]) hx hb dX3_countPlaces_104 hl (by decide) rfl (fun ls hl => ?_)
                refine lv_goto (tgt := 65) hx hb dX3_countPlaces_106 (by decide) ?_
                exact ih65 F (i + (max (run 0 n a ((sp_mean n a) * (100 - uv)) i) 1)) _ _ ls (by omega) (by rw [← i3, cur_step _ _ c71, show cpf (run 0 n a (sp_mean n a * (100 - uv))) lv i F = F from if_neg (by omega)]) (by omega) (by omega) hH (lv_sub hl [0, 2, 3, 4, 5, 6, 7, 8, 9] rfl)
              · refine lv_iinc (v := nI (F + 1)) (lv' := [(8, .int (nI (F + 1))), (9, .int (nI (run 0 n a ((sp_mean n a) * (100 - uv)) i))), (10, .int (nI i)), (6, .long (lN ((sp_mean n a) * (100 - uv)))), (5, .int (nI 0)), (0, .ref (ad k)), (1, .int (nI tv)), (2, .int (nI uv)), (3, .int (nI lv)), (4, .int (nI sv))]) hx hb dX3_countPlaces_92 hl (k := 2) rfl (ni_inc1 _) (by decide) rfl (fun ls hl => ?_)
                refine lv_iload hx hb dX3_countPlaces_95 (lv_at hl 2 rfl) ?_
                refine lv_iload hx hb dX3_countPlaces_97 (lv_at hl 1 rfl) ?_
                refine lv_iconst (v := nI 1) hx hb dX3_countPlaces_99 (by decide) ?_
                refine va_mmax hx hb (by rw [C0.2.2.1]; exact hl.1.symm) C0.2.2.2.1 (C0.2.2.2.2 (.methodLink RX3 77 Lib.Math.max.name) (by decide +kernel)) (C0.2.2.2.2 (.static Lib.Math.max.name) (by decide +kernel)) (C0.2.2.2.2 (.initialized "java/lang/Math") (by decide +kernel)) (C0.2.2.2.2 (.code Lib.Math.max.name Lib.Math.max.code 2 (some .int)) (by decide +kernel)) (Nat.le_of_ble_eq_true rfl) (Nat.le_of_ble_eq_true rfl) (Nat.le_of_ble_eq_true rfl) (Nat.le_of_ble_eq_true rfl) dX3_countPlaces_100 ?_
                rw [ni_max (by omega) (by omega)]
                refine ni_iadd hx hb dX3_countPlaces_103 ?_
                refine lv_istore (lv' := [(10, .int (nI (i + (max (run 0 n a ((sp_mean n a) * (100 - uv)) i) 1)))), (8, .int (nI (F + 1))), (9, .int (nI (run 0 n a ((sp_mean n a) * (100 - uv)) i))), (6, .long (lN ((sp_mean n a) * (100 - uv)))), (5, .int (nI 0)), (0, .ref (ad k)), (1, .int (nI tv)), (2, .int (nI uv)), (3, .int (nI lv)), (4, .int (nI sv))]) hx hb dX3_countPlaces_104 hl (by decide) rfl (fun ls hl => ?_)
                refine lv_goto (tgt := 65) hx hb dX3_countPlaces_106 (by decide) ?_
                exact ih65 (F + 1) (i + (max (run 0 n a ((sp_mean n a) * (100 - uv)) i) 1)) _ _ ls (by omega) (by rw [← i3, cur_step _ _ c71, show cpf (run 0 n a (sp_mean n a * (100 - uv))) lv i F = F + 1 from if_pos c89]) (by omega) (by omega) hH (lv_sub hl [0, 1, 3, 4, 5, 6, 7, 8, 9] rfl)
        exact L65 ((n - 0) + 1) 0 0 _ _ ls (by omega) (by rfl) (by omega) (Nat.lt_succ_self _) hH (lv_sub hl [0, 1, 2, 3, 4, 5, 6, 7, 8] rfl)
      · refine lv_iconst (v := nI 1) hx hb dX3_countPlaces_28 (by decide) ?_
        refine lv_goto (tgt := 33) hx hb dX3_countPlaces_29 (by decide) ?_
        refine lv_istore (lv' := [(5, .int (nI 1)), (0, .ref (ad k)), (1, .int (nI tv)), (2, .int (nI uv)), (3, .int (nI lv)), (4, .int (nI sv))]) hx hb dX3_countPlaces_33 hl (by decide) rfl (fun ls hl => ?_)
        refine lv_aload_n hx hb dX3_countPlaces_35 rfl (lv_at hl 1 rfl) ?_
        refine rc_Vl (rest := []) C0 FX hH k (by omega) fk rfl (k_X3_mean l X ad hi _ k hk n a ⟨x, fk, fc, hxa, hn, hab⟩ ) (cwV 0 C0.2.2.2.2 gX3_countPlaces_X3_mean rfl rfl rfl (by decide +kernel) ⟨Nat.le_of_ble_eq_true rfl, Nat.le_of_ble_eq_true rfl⟩) rfl rfl hl.1 (Nat.le_of_ble_eq_true rfl) dX3_countPlaces_36 ⟨Nat.le_of_ble_eq_true rfl, Nat.le_of_ble_eq_true rfl⟩ (fun r36 g36c H locs h36 hH => ?_)
        obtain ⟨e36, rfl⟩ := h36
        rw [e36] at hH
        refine lv_iload hx hb dX3_countPlaces_39 (lv_at hl 0 rfl) ?_
        refine lv_if_eq (tgt := 51) hx hb dX3_countPlaces_41 (by decide) (fun c41 => absurd c41 (by decide)) (fun c41 => ?_)
        refine lv_bipush (v := nI 100) hx hb dX3_countPlaces_44 (by decide) ?_
        refine lv_iload_n hx hb dX3_countPlaces_46 rfl (lv_at hl 2 rfl) ?_
        refine ni_iadd hx hb dX3_countPlaces_47 ?_
        refine lv_goto (tgt := 55) hx hb dX3_countPlaces_48 (by decide) ?_
        refine ni_i2l hx hb (by omega) dX3_countPlaces_55 ?_
        refine ni_lmul hx hb dX3_countPlaces_56 ?_
        refine lv_lstore (lv' := [(6, .long (lN ((sp_mean n a) * (100 + tv)))), (5, .int (nI 1)), (0, .ref (ad k)), (1, .int (nI tv)), (2, .int (nI uv)), (3, .int (nI lv)), (4, .int (nI sv))]) hx hb dX3_countPlaces_57 hl (by decide) rfl (fun ls hl => ?_)
        have hB9 := mean_up (t := 100 + tv) hn hab (by omega)
        refine lv_iconst (v := nI 0) hx hb dX3_countPlaces_59 (by decide) ?_
        refine lv_istore (lv' := [(8, .int (nI 0)), (6, .long (lN ((sp_mean n a) * (100 + tv)))), (5, .int (nI 1)), (0, .ref (ad k)), (1, .int (nI tv)), (2, .int (nI uv)), (3, .int (nI lv)), (4, .int (nI sv))]) hx hb dX3_countPlaces_60 hl (by decide) rfl (fun ls hl => ?_)
        refine lv_iconst (v := nI 0) hx hb dX3_countPlaces_62 (by decide) ?_
        refine lv_istore (lv' := [(10, .int (nI 0)), (8, .int (nI 0)), (6, .long (lN ((sp_mean n a) * (100 + tv)))), (5, .int (nI 1)), (0, .ref (ad k)), (1, .int (nI tv)), (2, .int (nI uv)), (3, .int (nI lv)), (4, .int (nI sv))]) hx hb dX3_countPlaces_63 hl (by decide) rfl (fun ls hl => ?_)
        have L65 : ∀ (fu : Nat) (F : Nat) (i : Nat) (H : Heap) (locs : List Loc) (ls : Array Slot), (i ≤ n) → (cur (run 1 n a (sp_mean n a * (100 + tv))) (cpf (run 1 n a (sp_mean n a * (100 + tv))) lv) n (n - i) i F = cur (run 1 n a (sp_mean n a * (100 + tv))) (cpf (run 1 n a (sp_mean n a * (100 + tv))) lv) n n 0 0) → (F ≤ i) → n - i < fu → WH X 48 ad (pA 48 ad s.heap.size) s g H locs → lv_has ls 11 [(10, .int (nI i)), (8, .int (nI F)), (6, .long (lN ((sp_mean n a) * (100 + tv)))), (5, .int (nI 1)), (0, .ref (ad k)), (1, .int (nI tv)), (2, .int (nI uv)), (3, .int (nI lv)), (4, .int (nI sv))] → W p l e zr3 s m ([.ref (ad k), .int (nI tv), .int (nI uv), .int (nI lv), .int (nI sv)] : List Value).toArray below meth c H locs 0 0 Q (F0 m 65 ls []) := by
          intro fu
          induction fu with
          | zero =>
            intro F i H locs ls i2 i3 i4 hm
            exact absurd hm (Nat.not_lt_zero _)
          | succ fu ih =>
            have ih65 := ih; clear ih
            intro F i H locs ls i2 i3 i4 hm65 hH hl
            have hrl := run_le 1 n a (sp_mean n a * (100 + tv)) i
            refine lv_iload hx hb dX3_countPlaces_65 (lv_at hl 0 rfl) ?_
            refine lv_aload_n hx hb dX3_countPlaces_67 rfl (lv_at hl 4 rfl) ?_
            refine rp_get C0 FX hH k (by omega) (ci := 3) (k := 0) fk rfl kiX3 (by decide) kf21 rfl dX3_countPlaces_68 ?_
            refine ni_cge hx hb 109 dX3_countPlaces_71 (by decide) (by omega) (by omega) (fun c71 => ?_) (fun c71 => ?_)
            · refine lv_iload hx hb dX3_countPlaces_109 (lv_at hl 1 rfl) ?_
              refine RET _ _ _ _ _ _ dX3_countPlaces_111 rfl ?_ hH
              refine ⟨rfl, ?_⟩
              unfold sp_places
              rw [if_pos ⟨c6, (rng_iff (by omega)).mpr (by omega)⟩, if_pos (by rw [c25]), tN_nI (by omega), tN_nI (by omega), ← i3, cur_no _ _ (by omega)]
            · refine lv_aload_n hx hb dX3_countPlaces_74 rfl (lv_at hl 4 rfl) ?_
              refine lv_iload hx hb dX3_countPlaces_75 (lv_at hl 0 rfl) ?_
              refine lv_lload hx hb dX3_countPlaces_77 (lv_at hl 2 rfl) ?_
              refine lv_iload hx hb dX3_countPlaces_79 (lv_at hl 3 rfl) ?_
              refine rc_Vi (rest := []) C0 FX hH k (by omega) fk rfl (k_X3_runFrom l X ad hi _ k hk n a ⟨x, fk, fc, hxa, hn, hab⟩ i ((sp_mean n a) * (100 + tv)) 1 (by omega) (by omega) (by omega)) (cwV 3 C0.2.2.2.2 gX3_countPlaces_X3_runFrom rfl rfl rfl (by decide +kernel) ⟨Nat.le_of_ble_eq_true rfl, Nat.le_of_ble_eq_true rfl⟩) rfl rfl hl.1 (Nat.le_of_ble_eq_true rfl) dX3_countPlaces_81 ⟨Nat.le_of_ble_eq_true rfl, Nat.le_of_ble_eq_true rfl⟩ (fun r81 g81c H locs h81 hH => ?_)
              obtain ⟨e81, rfl⟩ := h81
              rw [e81] at hH
              refine lv_istore (lv' := [(9, .int (nI (run 1 n a ((sp_mean n a) * (100 + tv)) i))), (10, .int (nI i)), (8, .int (nI F)), (6, .long (lN ((sp_mean n a) * (100 + tv)))), (5, .int (nI 1)), (0, .ref (ad k)), (1, .int (nI tv)), (2, .int (nI uv)), (3, .int (nI lv)), (4, .int (nI sv))]) hx hb dX3_countPlaces_84 hl (by decide) rfl (fun ls hl => ?_)
              refine lv_iload hx hb dX3_countPlaces_86 (lv_at hl 0 rfl) ?_
              refine lv_iload_n hx hb dX3_countPlaces_88 rfl (lv_at hl 8 rfl) ?_
              refine ni_clt hx hb 95 dX3_countPlaces_89 (by decide) (by omega) (by omega) (fun c89 => ?_) (fun c89 => ?_)
              · refine lv_iload hx hb dX3_countPlaces_95 (lv_at hl 1 rfl) ?_
                refine lv_iload hx hb dX3_countPlaces_97 (lv_at hl 0 rfl) ?_
                refine lv_iconst (v := nI 1) hx hb dX3_countPlaces_99 (by decide) ?_
                refine va_mmax hx hb (by rw [C0.2.2.1]; exact hl.1.symm) C0.2.2.2.1 (C0.2.2.2.2 (.methodLink RX3 77 Lib.Math.max.name) (by decide +kernel)) (C0.2.2.2.2 (.static Lib.Math.max.name) (by decide +kernel)) (C0.2.2.2.2 (.initialized "java/lang/Math") (by decide +kernel)) (C0.2.2.2.2 (.code Lib.Math.max.name Lib.Math.max.code 2 (some .int)) (by decide +kernel)) (Nat.le_of_ble_eq_true rfl) (Nat.le_of_ble_eq_true rfl) (Nat.le_of_ble_eq_true rfl) (Nat.le_of_ble_eq_true rfl) dX3_countPlaces_100 ?_
                rw [ni_max (by omega) (by omega)]
                refine ni_iadd hx hb dX3_countPlaces_103 ?_
                refine lv_istore (lv' := [(10, .int (nI (i + (max (run 1 n a ((sp_mean n a) * (100 + tv)) i) 1)))), (9, .int (nI (run 1 n a ((sp_mean n a) * (100 + tv)) i))), (8, .int (nI F)), (6, .long (lN ((sp_mean n a) * (100 + tv)))), (5, .int (nI 1)), (0, .ref (ad k)), (1, .int (nI tv)), (2, .int (nI uv)), (3, .int (nI lv)), (4, .int (nI sv))]) hx hb dX3_countPlaces_104 hl (by decide) rfl (fun ls hl => ?_)
                refine lv_goto (tgt := 65) hx hb dX3_countPlaces_106 (by decide) ?_
                exact ih65 F (i + (max (run 1 n a ((sp_mean n a) * (100 + tv)) i) 1)) _ _ ls (by omega) (by rw [← i3, cur_step _ _ c71, show cpf (run 1 n a (sp_mean n a * (100 + tv))) lv i F = F from if_neg (by omega)]) (by omega) (by omega) hH (lv_sub hl [0, 2, 3, 4, 5, 6, 7, 8, 9] rfl)
              · refine lv_iinc (v := nI (F + 1)) (lv' := [(8, .int (nI (F + 1))), (9, .int (nI (run 1 n a ((sp_mean n a) * (100 + tv)) i))), (10, .int (nI i)), (6, .long (lN ((sp_mean n a) * (100 + tv)))), (5, .int (nI 1)), (0, .ref (ad k)), (1, .int (nI tv)), (2, .int (nI uv)), (3, .int (nI lv)), (4, .int (nI sv))]) hx hb dX3_countPlaces_92 hl (k := 2) rfl (ni_inc1 _) (by decide) rfl (fun ls hl => ?_)
                refine lv_iload hx hb dX3_countPlaces_95 (lv_at hl 2 rfl) ?_
                refine lv_iload hx hb dX3_countPlaces_97 (lv_at hl 1 rfl) ?_
                refine lv_iconst (v := nI 1) hx hb dX3_countPlaces_99 (by decide) ?_
                refine va_mmax hx hb (by rw [C0.2.2.1]; exact hl.1.symm) C0.2.2.2.1 (C0.2.2.2.2 (.methodLink RX3 77 Lib.Math.max.name) (by decide +kernel)) (C0.2.2.2.2 (.static Lib.Math.max.name) (by decide +kernel)) (C0.2.2.2.2 (.initialized "java/lang/Math") (by decide +kernel)) (C0.2.2.2.2 (.code Lib.Math.max.name Lib.Math.max.code 2 (some .int)) (by decide +kernel)) (Nat.le_of_ble_eq_true rfl) (Nat.le_of_ble_eq_true rfl) (Nat.le_of_ble_eq_true rfl) (Nat.le_of_ble_eq_true rfl) dX3_countPlaces_100 ?_
                rw [ni_max (by omega) (by omega)]
                refine ni_iadd hx hb dX3_countPlaces_103 ?_
                refine lv_istore (lv' := [(10, .int (nI (i + (max (run 1 n a ((sp_mean n a) * (100 + tv)) i) 1)))), (8, .int (nI (F + 1))), (9, .int (nI (run 1 n a ((sp_mean n a) * (100 + tv)) i))), (6, .long (lN ((sp_mean n a) * (100 + tv)))), (5, .int (nI 1)), (0, .ref (ad k)), (1, .int (nI tv)), (2, .int (nI uv)), (3, .int (nI lv)), (4, .int (nI sv))]) hx hb dX3_countPlaces_104 hl (by decide) rfl (fun ls hl => ?_)
                refine lv_goto (tgt := 65) hx hb dX3_countPlaces_106 (by decide) ?_
                exact ih65 (F + 1) (i + (max (run 1 n a ((sp_mean n a) * (100 + tv)) i) 1)) _ _ ls (by omega) (by rw [← i3, cur_step _ _ c71, show cpf (run 1 n a (sp_mean n a * (100 + tv))) lv i F = F + 1 from if_pos c89]) (by omega) (by omega) hH (lv_sub hl [0, 1, 3, 4, 5, 6, 7, 8, 9] rfl)
        exact L65 ((n - 0) + 1) 0 0 _ _ ls (by omega) (by rfl) (by omega) (Nat.lt_succ_self _) hH (lv_sub hl [0, 1, 2, 3, 4, 5, 6, 7, 8] rfl)
    · refine lv_bipush (v := (-2)) hx hb dX3_countPlaces_20 (by decide) ?_
      refine RET _ _ _ _ _ _ dX3_countPlaces_22 rfl ?_ hH
      exact ⟨rfl, by unfold sp_places; rw [if_neg (fun z => by first | exact absurd z.1 (by assumption) | exact absurd z.2 (by assumption))]⟩
set_option maxHeartbeats 4000000 in
set_option maxRecDepth 100000 in
theorem k_X3_removePlaces (l : Launch) (X : Cx) (ad : Nat → Nat) (hi : inj 48 ad) (g : PF) (k : Nat) (hk : k + 1 < 48) (n : Nat) (a : Nat → Nat) (hR : rRow X ad k n a g) (th tn lq : Int32) : Ki l yX3_removePlaces wsX3_removePlaces zr3 X 48 ad g [.ref (ad k), .int th, .int tn, .int lq] (fun r g' => r = (sp_cleared th tn lq n a).1 ∧ rRow X ad k (sp_cleared th tn lq n a).2.1 (sp_cleared th tn lq n a).2.2 g' ∧ fr2 k g g') := by
  refine Ki.of (cc := cX3_removePlaces) (maxL := 13) hi (by decide) rfl (Nat.le_of_ble_eq_true rfl) ?_
  intro p e s m below meth c Q E RET ls hl
  obtain ⟨C0, FX, hH⟩ := E
  have hx := C0.1
  have hb := C0.2.1
  have kiX3 : ∀ w ∈ u_ws RX3 TX3 2, w ∈ wsX3_removePlaces := (by decide +kernel)
  have kf11 : Cond.fieldLink RX3 11 "YarnMill$Row" "cells" "[I" ∈ wsX3_removePlaces := (by decide +kernel)
  have kf21 : Cond.fieldLink RX3 21 "YarnMill$Row" "size" "I" ∈ wsX3_removePlaces := (by decide +kernel)
  have hl : lv_has ls 13 [(0, .ref (ad k)), (1, .int th), (2, .int tn), (3, .int lq)] := hl
  have fr : ∀ j, j ≠ k → j ≠ (k + 1) → g j = g j := fun j _ _ => rfl
  obtain ⟨x, fk, fc, hxa, hn, hab⟩ := hR
  refine lv_iload_n hx hb dX3_removePlaces_0 rfl (lv_at hl 1 rfl) ?_
  refine lv_iload_n hx hb dX3_removePlaces_1 rfl (lv_at hl 2 rfl) ?_
  refine lv_iload_n hx hb dX3_removePlaces_2 rfl (lv_at hl 3 rfl) ?_
  refine rc_Si (rest := []) C0 FX hH (k_X3_isLaw l X ad hi _ th tn lq) (va_cwS 3 C0.2.2.2.2 gX3_removePlaces_X3_isLaw rfl rfl rfl (by decide +kernel) ⟨Nat.le_of_ble_eq_true rfl, Nat.le_of_ble_eq_true rfl⟩) rfl rfl hl.1 (Nat.le_of_ble_eq_true rfl) dX3_removePlaces_3 ⟨Nat.le_of_ble_eq_true rfl, Nat.le_of_ble_eq_true rfl⟩ (fun r3 g3c H locs h3 hH => ?_)
  obtain ⟨e3, rfl⟩ := h3
  rw [e3] at hH
  refine rb_ne hx hb 12 dX3_removePlaces_6 (by decide) (fun c6 => ?_) (fun c6 => ?_)
  · obtain ⟨tv, rfl, tv1, tv2, tv3⟩ := rng_nI c6.1
    obtain ⟨uv, rfl, uv1, uv2, uv3⟩ := rng_nI c6.2.1
    obtain ⟨lv, rfl, lv1, lv2, lv3⟩ := rng_nI c6.2.2
    refine lv_aload_n hx hb dX3_removePlaces_12 rfl (lv_at hl 0 rfl) ?_
    refine rc_Vl (rest := []) C0 FX hH k (by omega) fk rfl (k_X3_mean l X ad hi _ k hk n a ⟨x, fk, fc, hxa, hn, hab⟩ ) (cwV 0 C0.2.2.2.2 gX3_removePlaces_X3_mean rfl rfl rfl (by decide +kernel) ⟨Nat.le_of_ble_eq_true rfl, Nat.le_of_ble_eq_true rfl⟩) rfl rfl hl.1 (Nat.le_of_ble_eq_true rfl) dX3_removePlaces_13 ⟨Nat.le_of_ble_eq_true rfl, Nat.le_of_ble_eq_true rfl⟩ (fun r13 g13c H locs h13 hH => ?_)
    obtain ⟨e13, rfl⟩ := h13
    rw [e13] at hH
    refine lv_bipush (v := nI 100) hx hb dX3_removePlaces_16 (by decide) ?_
    refine lv_iload_n hx hb dX3_removePlaces_18 rfl (lv_at hl 1 rfl) ?_
    refine ni_iadd hx hb dX3_removePlaces_19 ?_
    refine ni_i2l hx hb (by omega) dX3_removePlaces_20 ?_
    refine ni_lmul hx hb dX3_removePlaces_21 ?_
    refine lv_lstore (lv' := [(4, .long (lN ((sp_mean n a) * (100 + tv)))), (0, .ref (ad k)), (1, .int (nI tv)), (2, .int (nI uv)), (3, .int (nI lv))]) hx hb dX3_removePlaces_22 hl (by decide) rfl (fun ls hl => ?_)
    refine lv_aload_n hx hb dX3_removePlaces_24 rfl (lv_at hl 1 rfl) ?_
    refine rc_Vl (rest := []) C0 FX hH k (by omega) fk rfl (k_X3_mean l X ad hi _ k hk n a ⟨x, fk, fc, hxa, hn, hab⟩ ) (cwV 0 C0.2.2.2.2 gX3_removePlaces_X3_mean rfl rfl rfl (by decide +kernel) ⟨Nat.le_of_ble_eq_true rfl, Nat.le_of_ble_eq_true rfl⟩) rfl rfl hl.1 (Nat.le_of_ble_eq_true rfl) dX3_removePlaces_25 ⟨Nat.le_of_ble_eq_true rfl, Nat.le_of_ble_eq_true rfl⟩ (fun r25 g25c H locs h25 hH => ?_)
    obtain ⟨e25, rfl⟩ := h25
    rw [e25] at hH
    refine lv_bipush (v := nI 100) hx hb dX3_removePlaces_28 (by decide) ?_
    refine lv_iload_n hx hb dX3_removePlaces_30 rfl (lv_at hl 3 rfl) ?_
    refine ni_isub hx hb (by omega) dX3_removePlaces_31 ?_
    refine ni_i2l hx hb (by omega) dX3_removePlaces_32 ?_
    refine ni_lmul hx hb dX3_removePlaces_33 ?_
    refine lv_lstore (lv' := [(6, .long (lN ((sp_mean n a) * (100 - uv)))), (4, .long (lN ((sp_mean n a) * (100 + tv)))), (0, .ref (ad k)), (1, .int (nI tv)), (2, .int (nI uv)), (3, .int (nI lv))]) hx hb dX3_removePlaces_34 hl (by decide) rfl (fun ls hl => ?_)
    have hB9 := mean_up (t := 100 + tv) hn hab (by omega)
    have hC9 := mean_up (t := 100 - uv) hn hab (by omega)
    refine lv_iconst (v := nI 0) hx hb dX3_removePlaces_36 (by decide) ?_
    refine lv_istore (lv' := [(8, .int (nI 0)), (6, .long (lN ((sp_mean n a) * (100 - uv)))), (4, .long (lN ((sp_mean n a) * (100 + tv)))), (0, .ref (ad k)), (1, .int (nI tv)), (2, .int (nI uv)), (3, .int (nI lv))]) hx hb dX3_removePlaces_37 hl (by decide) rfl (fun ls hl => ?_)
    refine lv_iconst (v := nI 0) hx hb dX3_removePlaces_39 (by decide) ?_
    refine lv_istore (lv' := [(9, .int (nI 0)), (8, .int (nI 0)), (6, .long (lN ((sp_mean n a) * (100 - uv)))), (4, .long (lN ((sp_mean n a) * (100 + tv)))), (0, .ref (ad k)), (1, .int (nI tv)), (2, .int (nI uv)), (3, .int (nI lv))]) hx hb dX3_removePlaces_40 hl (by decide) rfl (fun ls hl => ?_)
    refine lv_iconst (v := nI 0) hx hb dX3_removePlaces_42 (by decide) ?_
    refine lv_istore (lv' := [(10, .int (nI 0)), (9, .int (nI 0)), (8, .int (nI 0)), (6, .long (lN ((sp_mean n a) * (100 - uv)))), (4, .long (lN ((sp_mean n a) * (100 + tv)))), (0, .ref (ad k)), (1, .int (nI tv)), (2, .int (nI uv)), (3, .int (nI lv))]) hx hb dX3_removePlaces_43 hl (by decide) rfl (fun ls hl => ?_)
    refine lv_iconst (v := nI 0) hx hb dX3_removePlaces_45 (by decide) ?_
    refine lv_istore (lv' := [(12, .int (nI 0)), (10, .int (nI 0)), (9, .int (nI 0)), (8, .int (nI 0)), (6, .long (lN ((sp_mean n a) * (100 - uv)))), (4, .long (lN ((sp_mean n a) * (100 + tv)))), (0, .ref (ad k)), (1, .int (nI tv)), (2, .int (nI uv)), (3, .int (nI lv))]) hx hb dX3_removePlaces_46 hl (by decide) rfl (fun ls hl => ?_)
    have L48 : ∀ (fu : Nat) (kp : Nat) (sp : Nat) (gp : Nat) (i : Nat) (o : Nat → Nat) (x9 : Nat → Nat) (g1 : PF) (H : Heap) (locs : List Loc) (ls : Array Slot), (i ≤ n) → (kp ≤ i) → (gp ≤ 1) → (sp ≤ i) → (cur (plc n a (sp_mean n a * (100 + tv)) (sp_mean n a * (100 - uv)) lv) (clf n a (sp_mean n a * (100 + tv)) (sp_mean n a * (100 - uv)) lv) n (n - i) i (kp, sp, gp, o) = cl n a (sp_mean n a * (100 + tv)) (sp_mean n a * (100 - uv)) lv) → (∀ j, i ≤ j → j < n → x9 j = a j) → (∀ j, j < kp → x9 j = o j) → (∀ j, j < n → x9 j ≤ 1000000) → n - i < fu → WH X 48 ad (pA 48 ad s.heap.size) s g1 H locs → g1 k = .inr (3, [.int (nI n), .ref (ad (k + 1))]) → g1 (k + 1) = arr X 400 x9 → (∀ j, j ≠ k → j ≠ (k + 1) → g1 j = g j) → lv_has ls 13 [(12, .int (nI i)), (10, .int (nI gp)), (9, .int (nI sp)), (8, .int (nI kp)), (6, .long (lN ((sp_mean n a) * (100 - uv)))), (4, .long (lN ((sp_mean n a) * (100 + tv)))), (0, .ref (ad k)), (1, .int (nI tv)), (2, .int (nI uv)), (3, .int (nI lv))] → W p l e zr3 s m ([.ref (ad k), .int (nI tv), .int (nI uv), .int (nI lv)] : List Value).toArray below meth c H locs 0 0 Q (F0 m 48 ls []) := by
      intro fu
      induction fu with
      | zero =>
        intro kp sp gp i o x9 g1 H locs ls j1 j2 j7 j8 i3 j5 j6 j9 hm
        exact absurd hm (Nat.not_lt_zero _)
      | succ fu ih =>
        have ih48 := ih; clear ih
        intro kp sp gp i o x9 g1 H locs ls j1 j2 j7 j8 i3 j5 j6 j9 hm48 hH fk fc fr hl
        have hpl := plc_le n a (sp_mean n a * (100 + tv)) (sp_mean n a * (100 - uv)) lv i
        refine lv_iload hx hb dX3_removePlaces_48 (lv_at hl 0 rfl) ?_
        refine lv_aload_n hx hb dX3_removePlaces_50 rfl (lv_at hl 6 rfl) ?_
        refine rp_get C0 FX hH k (by omega) (ci := 3) (k := 0) fk rfl kiX3 (by decide) kf21 rfl dX3_removePlaces_51 ?_
        refine ni_cge hx hb 138 dX3_removePlaces_54 (by decide) (by omega) (by omega) (fun c54 => ?_) (fun c54 => ?_)
        · refine lv_aload_n hx hb dX3_removePlaces_138 rfl (lv_at hl 6 rfl) ?_
          refine lv_iload hx hb dX3_removePlaces_139 (lv_at hl 3 rfl) ?_
          refine rp_put C0 FX hH k (by omega) (ci := 3) (k := 0) tyX3 tyX3_ok nmX3 fk rfl kiX3 (by decide) kf21 rfl rfl rfl (Nat.le_of_ble_eq_true rfl) dX3_removePlaces_141 (fun g2 H locs eq3 nq3 hH => ?_)
          have fk : g2 k = .inr (3, [.int (nI kp), .ref (ad (k + 1))]) := eq3
          have fc : g2 (k + 1) = arr X 400 x9 := (nq3 _ (by omega)).trans fc
          have fr : ∀ j, j ≠ k → j ≠ (k + 1) → g2 j = g j := fun j a0 a1 => (nq3 j (by omega)).trans (fr j a0 a1)
          refine lv_iload hx hb dX3_removePlaces_144 (lv_at hl 2 rfl) ?_
          refine RET _ _ _ _ _ _ dX3_removePlaces_146 rfl ?_ hH
          have hT : cl n a (sp_mean n a * (100 + tv)) (sp_mean n a * (100 - uv)) lv = (kp, sp, gp, o) := by rw [← i3, cur_no _ _ (by omega)]
          exact post3 (by unfold sp_cleared; rw [if_pos c6, tN_nI (by omega), tN_nI (by omega), tN_nI (by omega), hT]) ⟨x9, fk, fc, j6, by omega, fun j hj => by rw [← j6 j hj]; exact j9 j (by omega)⟩ fr
        · refine lv_aload_n hx hb dX3_removePlaces_57 rfl (lv_at hl 6 rfl) ?_
          refine lv_iload hx hb dX3_removePlaces_58 (lv_at hl 0 rfl) ?_
          refine lv_lload hx hb dX3_removePlaces_60 (lv_at hl 5 rfl) ?_
          refine lv_lload hx hb dX3_removePlaces_62 (lv_at hl 4 rfl) ?_
          refine lv_iload_n hx hb dX3_removePlaces_64 rfl (lv_at hl 9 rfl) ?_
          refine rc_Vi (rest := []) C0 FX hH k (by omega) fk rfl (k_X3_placeFrom l X ad hi _ k hk n x9 ⟨x9, fk, fc, fun j _ => rfl, hn, j9⟩ i ((sp_mean n a) * (100 + tv)) ((sp_mean n a) * (100 - uv)) lv (by omega) (by omega) (by omega) (by omega)) (cwV 4 C0.2.2.2.2 gX3_removePlaces_X3_placeFrom rfl rfl rfl (by decide +kernel) ⟨Nat.le_of_ble_eq_true rfl, Nat.le_of_ble_eq_true rfl⟩) rfl rfl hl.1 (Nat.le_of_ble_eq_true rfl) dX3_removePlaces_65 ⟨Nat.le_of_ble_eq_true rfl, Nat.le_of_ble_eq_true rfl⟩ (fun r65 g65c H locs h65 hH => ?_)
          obtain ⟨e65, rfl⟩ := h65
          rw [e65] at hH
          rw [plc_cong j5]
          refine lv_istore (lv' := [(11, .int (nI (plc n a (sp_mean n a * (100 + tv)) (sp_mean n a * (100 - uv)) lv i))), (12, .int (nI i)), (10, .int (nI gp)), (9, .int (nI sp)), (8, .int (nI kp)), (6, .long (lN ((sp_mean n a) * (100 - uv)))), (4, .long (lN ((sp_mean n a) * (100 + tv)))), (0, .ref (ad k)), (1, .int (nI tv)), (2, .int (nI uv)), (3, .int (nI lv))]) hx hb dX3_removePlaces_68 hl (by decide) rfl (fun ls hl => ?_)
          refine lv_iload hx hb dX3_removePlaces_70 (lv_at hl 0 rfl) ?_
          refine ni_ne0 hx hb 112 dX3_removePlaces_72 (by decide) (by omega) (fun c72 => ?_) (fun c72 => ?_)
          · refine lv_iload hx hb dX3_removePlaces_112 (lv_at hl 0 rfl) ?_
            refine ni_le0 hx hb 121 dX3_removePlaces_114 (by decide) (by omega) (fun c114 => ?_) (fun c114 => ?_)
            · exact absurd c114 (by omega)
            · refine lv_iconst (v := nI 1) hx hb dX3_removePlaces_117 (by decide) ?_
              refine lv_goto (tgt := 122) hx hb dX3_removePlaces_118 (by decide) ?_
              refine lv_istore (lv' := [(10, .int (nI 1)), (11, .int (nI (plc n a (sp_mean n a * (100 + tv)) (sp_mean n a * (100 - uv)) lv i))), (12, .int (nI i)), (9, .int (nI sp)), (8, .int (nI kp)), (6, .long (lN ((sp_mean n a) * (100 - uv)))), (4, .long (lN ((sp_mean n a) * (100 + tv)))), (0, .ref (ad k)), (1, .int (nI tv)), (2, .int (nI uv)), (3, .int (nI lv))]) hx hb dX3_removePlaces_122 hl (by decide) rfl (fun ls hl => ?_)
              refine lv_iload hx hb dX3_removePlaces_124 (lv_at hl 2 rfl) ?_
              refine lv_iload hx hb dX3_removePlaces_126 (lv_at hl 1 rfl) ?_
              refine lv_iconst (v := nI 1) hx hb dX3_removePlaces_128 (by decide) ?_
              refine va_mmax hx hb (by rw [C0.2.2.1]; exact hl.1.symm) C0.2.2.2.1 (C0.2.2.2.2 (.methodLink RX3 77 Lib.Math.max.name) (by decide +kernel)) (C0.2.2.2.2 (.static Lib.Math.max.name) (by decide +kernel)) (C0.2.2.2.2 (.initialized "java/lang/Math") (by decide +kernel)) (C0.2.2.2.2 (.code Lib.Math.max.name Lib.Math.max.code 2 (some .int)) (by decide +kernel)) (Nat.le_of_ble_eq_true rfl) (Nat.le_of_ble_eq_true rfl) (Nat.le_of_ble_eq_true rfl) (Nat.le_of_ble_eq_true rfl) dX3_removePlaces_129 ?_
              rw [ni_max (by omega) (by omega)]
              refine ni_iadd hx hb dX3_removePlaces_132 ?_
              refine lv_istore (lv' := [(12, .int (nI (i + (max (plc n a (sp_mean n a * (100 + tv)) (sp_mean n a * (100 - uv)) lv i) 1)))), (10, .int (nI 1)), (11, .int (nI (plc n a (sp_mean n a * (100 + tv)) (sp_mean n a * (100 - uv)) lv i))), (9, .int (nI sp)), (8, .int (nI kp)), (6, .long (lN ((sp_mean n a) * (100 - uv)))), (4, .long (lN ((sp_mean n a) * (100 + tv)))), (0, .ref (ad k)), (1, .int (nI tv)), (2, .int (nI uv)), (3, .int (nI lv))]) hx hb dX3_removePlaces_133 hl (by decide) rfl (fun ls hl => ?_)
              refine lv_goto (tgt := 48) hx hb dX3_removePlaces_135 (by decide) ?_
              exact ih48 kp sp 1 (i + (max (plc n a (sp_mean n a * (100 + tv)) (sp_mean n a * (100 - uv)) lv i) 1)) o x9 _ _ _ ls (by omega) (by omega) (by omega) (by omega) (by rw [← i3, cur_step _ _ c54, show clf n a (sp_mean n a * (100 + tv)) (sp_mean n a * (100 - uv)) lv i (kp, sp, gp, o) = (kp, sp, 1, o) from by unfold clf; rw [if_neg (by omega)]]) (fun j h1 h2 => j5 j (by omega) h2) (j6) (j9) (by omega) hH fk fc fr (lv_sub hl [0, 1, 3, 4, 5, 6, 7, 8, 9, 10] rfl)
          · refine lv_iload hx hb dX3_removePlaces_75 (lv_at hl 3 rfl) ?_
            refine lv_iload hx hb dX3_removePlaces_77 (lv_at hl 2 rfl) ?_
            refine ni_eq0 hx hb 91 dX3_removePlaces_79 (by decide) (by omega) (fun c79 => ?_) (fun c79 => ?_)
            · refine lv_iconst (v := nI 0) hx hb dX3_removePlaces_91 (by decide) ?_
              refine ni_iadd hx hb dX3_removePlaces_92 ?_
              refine lv_istore (lv' := [(9, .int (nI (sp + 0))), (11, .int (nI (plc n a (sp_mean n a * (100 + tv)) (sp_mean n a * (100 - uv)) lv i))), (12, .int (nI i)), (10, .int (nI gp)), (8, .int (nI kp)), (6, .long (lN ((sp_mean n a) * (100 - uv)))), (4, .long (lN ((sp_mean n a) * (100 + tv)))), (0, .ref (ad k)), (1, .int (nI tv)), (2, .int (nI uv)), (3, .int (nI lv))]) hx hb dX3_removePlaces_93 hl (by decide) rfl (fun ls hl => ?_)
              refine lv_aload_n hx hb dX3_removePlaces_95 rfl (lv_at hl 7 rfl) ?_
              refine rp_get C0 FX hH k (by omega) (ci := 3) (k := 1) fk rfl kiX3 (by decide) kf11 rfl dX3_removePlaces_96 ?_
              refine lv_iload hx hb dX3_removePlaces_99 (lv_at hl 4 rfl) ?_
              refine lv_aload_n hx hb dX3_removePlaces_101 rfl (lv_at hl 7 rfl) ?_
              refine rp_get C0 FX hH k (by omega) (ci := 3) (k := 1) fk rfl kiX3 (by decide) kf11 rfl dX3_removePlaces_102 ?_
              refine lv_iload hx hb dX3_removePlaces_105 (lv_at hl 2 rfl) ?_
              refine rp_iald C0 FX hH (k + 1) (by omega) (v := a i) fc i (by omega) (by decide) (j5 _ (by omega) (by omega)) dX3_removePlaces_107 ?_
              refine rp_iast C0 FX hH (k + 1) (by omega) fc kp (a i) (by omega) (by decide) dX3_removePlaces_108 (fun g4 H locs eq5 nq5 hH => ?_)
              have fc : g4 (k + 1) = arr X 400 (va_up x9 kp (a i)) := eq5
              have fk : g4 k = .inr (3, [.int (nI n), .ref (ad (k + 1))]) := (nq5 _ (by omega)).trans fk
              have fr : ∀ j, j ≠ k → j ≠ (k + 1) → g4 j = g j := fun j a0 a1 => (nq5 j (by omega)).trans (fr j a0 a1)
              refine lv_iinc (v := nI (kp + 1)) (lv' := [(8, .int (nI (kp + 1))), (9, .int (nI (sp + 0))), (11, .int (nI (plc n a (sp_mean n a * (100 + tv)) (sp_mean n a * (100 - uv)) lv i))), (12, .int (nI i)), (10, .int (nI gp)), (6, .long (lN ((sp_mean n a) * (100 - uv)))), (4, .long (lN ((sp_mean n a) * (100 + tv)))), (0, .ref (ad k)), (1, .int (nI tv)), (2, .int (nI uv)), (3, .int (nI lv))]) hx hb dX3_removePlaces_109 hl (k := 4) rfl (ni_inc1 _) (by decide) rfl (fun ls hl => ?_)
              refine lv_iload hx hb dX3_removePlaces_112 (lv_at hl 2 rfl) ?_
              refine ni_le0 hx hb 121 dX3_removePlaces_114 (by decide) (by omega) (fun c114 => ?_) (fun c114 => ?_)
              · refine lv_iconst (v := nI 0) hx hb dX3_removePlaces_121 (by decide) ?_
                refine lv_istore (lv' := [(10, .int (nI 0)), (8, .int (nI (kp + 1))), (9, .int (nI (sp + 0))), (11, .int (nI (plc n a (sp_mean n a * (100 + tv)) (sp_mean n a * (100 - uv)) lv i))), (12, .int (nI i)), (6, .long (lN ((sp_mean n a) * (100 - uv)))), (4, .long (lN ((sp_mean n a) * (100 + tv)))), (0, .ref (ad k)), (1, .int (nI tv)), (2, .int (nI uv)), (3, .int (nI lv))]) hx hb dX3_removePlaces_122 hl (by decide) rfl (fun ls hl => ?_)
                refine lv_iload hx hb dX3_removePlaces_124 (lv_at hl 4 rfl) ?_
                refine lv_iload hx hb dX3_removePlaces_126 (lv_at hl 3 rfl) ?_
                refine lv_iconst (v := nI 1) hx hb dX3_removePlaces_128 (by decide) ?_
                refine va_mmax hx hb (by rw [C0.2.2.1]; exact hl.1.symm) C0.2.2.2.1 (C0.2.2.2.2 (.methodLink RX3 77 Lib.Math.max.name) (by decide +kernel)) (C0.2.2.2.2 (.static Lib.Math.max.name) (by decide +kernel)) (C0.2.2.2.2 (.initialized "java/lang/Math") (by decide +kernel)) (C0.2.2.2.2 (.code Lib.Math.max.name Lib.Math.max.code 2 (some .int)) (by decide +kernel)) (Nat.le_of_ble_eq_true rfl) (Nat.le_of_ble_eq_true rfl) (Nat.le_of_ble_eq_true rfl) (Nat.le_of_ble_eq_true rfl) dX3_removePlaces_129 ?_
                rw [ni_max (by omega) (by omega)]
                refine ni_iadd hx hb dX3_removePlaces_132 ?_
                refine lv_istore (lv' := [(12, .int (nI (i + (max (plc n a (sp_mean n a * (100 + tv)) (sp_mean n a * (100 - uv)) lv i) 1)))), (10, .int (nI 0)), (8, .int (nI (kp + 1))), (9, .int (nI (sp + 0))), (11, .int (nI (plc n a (sp_mean n a * (100 + tv)) (sp_mean n a * (100 - uv)) lv i))), (6, .long (lN ((sp_mean n a) * (100 - uv)))), (4, .long (lN ((sp_mean n a) * (100 + tv)))), (0, .ref (ad k)), (1, .int (nI tv)), (2, .int (nI uv)), (3, .int (nI lv))]) hx hb dX3_removePlaces_133 hl (by decide) rfl (fun ls hl => ?_)
                refine lv_goto (tgt := 48) hx hb dX3_removePlaces_135 (by decide) ?_
                exact ih48 (kp + 1) (sp + 0) 0 (i + (max (plc n a (sp_mean n a * (100 + tv)) (sp_mean n a * (100 - uv)) lv i) 1)) (va_up o kp (a i)) (va_up x9 kp (a i)) _ _ _ ls (by omega) (by omega) (by omega) (by omega) (by rw [← i3, cur_step _ _ c54, show clf n a (sp_mean n a * (100 + tv)) (sp_mean n a * (100 - uv)) lv i (kp, sp, gp, o) = (kp + 1, sp + 0, 0, va_up o kp (a i)) from by unfold clf; rw [if_pos c72]; show (_, sp + (if 0 < gp ∧ 0 < kp then 1 else 0), _, _) = _; rw [if_neg (fun z => by first | (have := z.1; omega) | (have := z.2; omega))]]) (up_ge j5 (by omega) (by omega)) (up_lt j6) (up_le j9 (hab i c54)) (by omega) hH fk fc fr (lv_sub hl [0, 1, 3, 2, 5, 6, 7, 8, 9, 10] rfl)
              · exact absurd c114 (by omega)
            · refine lv_iload hx hb dX3_removePlaces_82 (lv_at hl 4 rfl) ?_
              refine ni_le0 hx hb 91 dX3_removePlaces_84 (by decide) (by omega) (fun c84 => ?_) (fun c84 => ?_)
              · refine lv_iconst (v := nI 0) hx hb dX3_removePlaces_91 (by decide) ?_
                refine ni_iadd hx hb dX3_removePlaces_92 ?_
                refine lv_istore (lv' := [(9, .int (nI (sp + 0))), (11, .int (nI (plc n a (sp_mean n a * (100 + tv)) (sp_mean n a * (100 - uv)) lv i))), (12, .int (nI i)), (10, .int (nI gp)), (8, .int (nI kp)), (6, .long (lN ((sp_mean n a) * (100 - uv)))), (4, .long (lN ((sp_mean n a) * (100 + tv)))), (0, .ref (ad k)), (1, .int (nI tv)), (2, .int (nI uv)), (3, .int (nI lv))]) hx hb dX3_removePlaces_93 hl (by decide) rfl (fun ls hl => ?_)
                refine lv_aload_n hx hb dX3_removePlaces_95 rfl (lv_at hl 7 rfl) ?_
                refine rp_get C0 FX hH k (by omega) (ci := 3) (k := 1) fk rfl kiX3 (by decide) kf11 rfl dX3_removePlaces_96 ?_
                refine lv_iload hx hb dX3_removePlaces_99 (lv_at hl 4 rfl) ?_
                refine lv_aload_n hx hb dX3_removePlaces_101 rfl (lv_at hl 7 rfl) ?_
                refine rp_get C0 FX hH k (by omega) (ci := 3) (k := 1) fk rfl kiX3 (by decide) kf11 rfl dX3_removePlaces_102 ?_
                refine lv_iload hx hb dX3_removePlaces_105 (lv_at hl 2 rfl) ?_
                refine rp_iald C0 FX hH (k + 1) (by omega) (v := a i) fc i (by omega) (by decide) (j5 _ (by omega) (by omega)) dX3_removePlaces_107 ?_
                refine rp_iast C0 FX hH (k + 1) (by omega) fc kp (a i) (by omega) (by decide) dX3_removePlaces_108 (fun g6 H locs eq7 nq7 hH => ?_)
                have fc : g6 (k + 1) = arr X 400 (va_up x9 kp (a i)) := eq7
                have fk : g6 k = .inr (3, [.int (nI n), .ref (ad (k + 1))]) := (nq7 _ (by omega)).trans fk
                have fr : ∀ j, j ≠ k → j ≠ (k + 1) → g6 j = g j := fun j a0 a1 => (nq7 j (by omega)).trans (fr j a0 a1)
                refine lv_iinc (v := nI (kp + 1)) (lv' := [(8, .int (nI (kp + 1))), (9, .int (nI (sp + 0))), (11, .int (nI (plc n a (sp_mean n a * (100 + tv)) (sp_mean n a * (100 - uv)) lv i))), (12, .int (nI i)), (10, .int (nI gp)), (6, .long (lN ((sp_mean n a) * (100 - uv)))), (4, .long (lN ((sp_mean n a) * (100 + tv)))), (0, .ref (ad k)), (1, .int (nI tv)), (2, .int (nI uv)), (3, .int (nI lv))]) hx hb dX3_removePlaces_109 hl (k := 4) rfl (ni_inc1 _) (by decide) rfl (fun ls hl => ?_)
                refine lv_iload hx hb dX3_removePlaces_112 (lv_at hl 2 rfl) ?_
                refine ni_le0 hx hb 121 dX3_removePlaces_114 (by decide) (by omega) (fun c114 => ?_) (fun c114 => ?_)
                · refine lv_iconst (v := nI 0) hx hb dX3_removePlaces_121 (by decide) ?_
                  refine lv_istore (lv' := [(10, .int (nI 0)), (8, .int (nI (kp + 1))), (9, .int (nI (sp + 0))), (11, .int (nI (plc n a (sp_mean n a * (100 + tv)) (sp_mean n a * (100 - uv)) lv i))), (12, .int (nI i)), (6, .long (lN ((sp_mean n a) * (100 - uv)))), (4, .long (lN ((sp_mean n a) * (100 + tv)))), (0, .ref (ad k)), (1, .int (nI tv)), (2, .int (nI uv)), (3, .int (nI lv))]) hx hb dX3_removePlaces_122 hl (by decide) rfl (fun ls hl => ?_)
                  refine lv_iload hx hb dX3_removePlaces_124 (lv_at hl 4 rfl) ?_
                  refine lv_iload hx hb dX3_removePlaces_126 (lv_at hl 3 rfl) ?_
                  refine lv_iconst (v := nI 1) hx hb dX3_removePlaces_128 (by decide) ?_
                  refine va_mmax hx hb (by rw [C0.2.2.1]; exact hl.1.symm) C0.2.2.2.1 (C0.2.2.2.2 (.methodLink RX3 77 Lib.Math.max.name) (by decide +kernel)) (C0.2.2.2.2 (.static Lib.Math.max.name) (by decide +kernel)) (C0.2.2.2.2 (.initialized "java/lang/Math") (by decide +kernel)) (C0.2.2.2.2 (.code Lib.Math.max.name Lib.Math.max.code 2 (some .int)) (by decide +kernel)) (Nat.le_of_ble_eq_true rfl) (Nat.le_of_ble_eq_true rfl) (Nat.le_of_ble_eq_true rfl) (Nat.le_of_ble_eq_true rfl) dX3_removePlaces_129 ?_
                  rw [ni_max (by omega) (by omega)]
                  refine ni_iadd hx hb dX3_removePlaces_132 ?_
                  refine lv_istore (lv' := [(12, .int (nI (i + (max (plc n a (sp_mean n a * (100 + tv)) (sp_mean n a * (100 - uv)) lv i) 1)))), (10, .int (nI 0)), (8, .int (nI (kp + 1))), (9, .int (nI (sp + 0))), (11, .int (nI (plc n a (sp_mean n a * (100 + tv)) (sp_mean n a * (100 - uv)) lv i))), (6, .long (lN ((sp_mean n a) * (100 - uv)))), (4, .long (lN ((sp_mean n a) * (100 + tv)))), (0, .ref (ad k)), (1, .int (nI tv)), (2, .int (nI uv)), (3, .int (nI lv))]) hx hb dX3_removePlaces_133 hl (by decide) rfl (fun ls hl => ?_)
                  refine lv_goto (tgt := 48) hx hb dX3_removePlaces_135 (by decide) ?_
                  exact ih48 (kp + 1) (sp + 0) 0 (i + (max (plc n a (sp_mean n a * (100 + tv)) (sp_mean n a * (100 - uv)) lv i) 1)) (va_up o kp (a i)) (va_up x9 kp (a i)) _ _ _ ls (by omega) (by omega) (by omega) (by omega) (by rw [← i3, cur_step _ _ c54, show clf n a (sp_mean n a * (100 + tv)) (sp_mean n a * (100 - uv)) lv i (kp, sp, gp, o) = (kp + 1, sp + 0, 0, va_up o kp (a i)) from by unfold clf; rw [if_pos c72]; show (_, sp + (if 0 < gp ∧ 0 < kp then 1 else 0), _, _) = _; rw [if_neg (fun z => by first | (have := z.1; omega) | (have := z.2; omega))]]) (up_ge j5 (by omega) (by omega)) (up_lt j6) (up_le j9 (hab i c54)) (by omega) hH fk fc fr (lv_sub hl [0, 1, 3, 2, 5, 6, 7, 8, 9, 10] rfl)
                · exact absurd c114 (by omega)
              · refine lv_iconst (v := nI 1) hx hb dX3_removePlaces_87 (by decide) ?_
                refine lv_goto (tgt := 92) hx hb dX3_removePlaces_88 (by decide) ?_
                refine ni_iadd hx hb dX3_removePlaces_92 ?_
                refine lv_istore (lv' := [(9, .int (nI (sp + 1))), (11, .int (nI (plc n a (sp_mean n a * (100 + tv)) (sp_mean n a * (100 - uv)) lv i))), (12, .int (nI i)), (10, .int (nI gp)), (8, .int (nI kp)), (6, .long (lN ((sp_mean n a) * (100 - uv)))), (4, .long (lN ((sp_mean n a) * (100 + tv)))), (0, .ref (ad k)), (1, .int (nI tv)), (2, .int (nI uv)), (3, .int (nI lv))]) hx hb dX3_removePlaces_93 hl (by decide) rfl (fun ls hl => ?_)
                refine lv_aload_n hx hb dX3_removePlaces_95 rfl (lv_at hl 7 rfl) ?_
                refine rp_get C0 FX hH k (by omega) (ci := 3) (k := 1) fk rfl kiX3 (by decide) kf11 rfl dX3_removePlaces_96 ?_
                refine lv_iload hx hb dX3_removePlaces_99 (lv_at hl 4 rfl) ?_
                refine lv_aload_n hx hb dX3_removePlaces_101 rfl (lv_at hl 7 rfl) ?_
                refine rp_get C0 FX hH k (by omega) (ci := 3) (k := 1) fk rfl kiX3 (by decide) kf11 rfl dX3_removePlaces_102 ?_
                refine lv_iload hx hb dX3_removePlaces_105 (lv_at hl 2 rfl) ?_
                refine rp_iald C0 FX hH (k + 1) (by omega) (v := a i) fc i (by omega) (by decide) (j5 _ (by omega) (by omega)) dX3_removePlaces_107 ?_
                refine rp_iast C0 FX hH (k + 1) (by omega) fc kp (a i) (by omega) (by decide) dX3_removePlaces_108 (fun g8 H locs eq9 nq9 hH => ?_)
                have fc : g8 (k + 1) = arr X 400 (va_up x9 kp (a i)) := eq9
                have fk : g8 k = .inr (3, [.int (nI n), .ref (ad (k + 1))]) := (nq9 _ (by omega)).trans fk
                have fr : ∀ j, j ≠ k → j ≠ (k + 1) → g8 j = g j := fun j a0 a1 => (nq9 j (by omega)).trans (fr j a0 a1)
                refine lv_iinc (v := nI (kp + 1)) (lv' := [(8, .int (nI (kp + 1))), (9, .int (nI (sp + 1))), (11, .int (nI (plc n a (sp_mean n a * (100 + tv)) (sp_mean n a * (100 - uv)) lv i))), (12, .int (nI i)), (10, .int (nI gp)), (6, .long (lN ((sp_mean n a) * (100 - uv)))), (4, .long (lN ((sp_mean n a) * (100 + tv)))), (0, .ref (ad k)), (1, .int (nI tv)), (2, .int (nI uv)), (3, .int (nI lv))]) hx hb dX3_removePlaces_109 hl (k := 4) rfl (ni_inc1 _) (by decide) rfl (fun ls hl => ?_)
                refine lv_iload hx hb dX3_removePlaces_112 (lv_at hl 2 rfl) ?_
                refine ni_le0 hx hb 121 dX3_removePlaces_114 (by decide) (by omega) (fun c114 => ?_) (fun c114 => ?_)
                · refine lv_iconst (v := nI 0) hx hb dX3_removePlaces_121 (by decide) ?_
                  refine lv_istore (lv' := [(10, .int (nI 0)), (8, .int (nI (kp + 1))), (9, .int (nI (sp + 1))), (11, .int (nI (plc n a (sp_mean n a * (100 + tv)) (sp_mean n a * (100 - uv)) lv i))), (12, .int (nI i)), (6, .long (lN ((sp_mean n a) * (100 - uv)))), (4, .long (lN ((sp_mean n a) * (100 + tv)))), (0, .ref (ad k)), (1, .int (nI tv)), (2, .int (nI uv)), (3, .int (nI lv))]) hx hb dX3_removePlaces_122 hl (by decide) rfl (fun ls hl => ?_)
                  refine lv_iload hx hb dX3_removePlaces_124 (lv_at hl 4 rfl) ?_
                  refine lv_iload hx hb dX3_removePlaces_126 (lv_at hl 3 rfl) ?_
                  refine lv_iconst (v := nI 1) hx hb dX3_removePlaces_128 (by decide) ?_
                  refine va_mmax hx hb (by rw [C0.2.2.1]; exact hl.1.symm) C0.2.2.2.1 (C0.2.2.2.2 (.methodLink RX3 77 Lib.Math.max.name) (by decide +kernel)) (C0.2.2.2.2 (.static Lib.Math.max.name) (by decide +kernel)) (C0.2.2.2.2 (.initialized "java/lang/Math") (by decide +kernel)) (C0.2.2.2.2 (.code Lib.Math.max.name Lib.Math.max.code 2 (some .int)) (by decide +kernel)) (Nat.le_of_ble_eq_true rfl) (Nat.le_of_ble_eq_true rfl) (Nat.le_of_ble_eq_true rfl) (Nat.le_of_ble_eq_true rfl) dX3_removePlaces_129 ?_
                  rw [ni_max (by omega) (by omega)]
                  refine ni_iadd hx hb dX3_removePlaces_132 ?_
                  refine lv_istore (lv' := [(12, .int (nI (i + (max (plc n a (sp_mean n a * (100 + tv)) (sp_mean n a * (100 - uv)) lv i) 1)))), (10, .int (nI 0)), (8, .int (nI (kp + 1))), (9, .int (nI (sp + 1))), (11, .int (nI (plc n a (sp_mean n a * (100 + tv)) (sp_mean n a * (100 - uv)) lv i))), (6, .long (lN ((sp_mean n a) * (100 - uv)))), (4, .long (lN ((sp_mean n a) * (100 + tv)))), (0, .ref (ad k)), (1, .int (nI tv)), (2, .int (nI uv)), (3, .int (nI lv))]) hx hb dX3_removePlaces_133 hl (by decide) rfl (fun ls hl => ?_)
                  refine lv_goto (tgt := 48) hx hb dX3_removePlaces_135 (by decide) ?_
                  exact ih48 (kp + 1) (sp + 1) 0 (i + (max (plc n a (sp_mean n a * (100 + tv)) (sp_mean n a * (100 - uv)) lv i) 1)) (va_up o kp (a i)) (va_up x9 kp (a i)) _ _ _ ls (by omega) (by omega) (by omega) (by omega) (by rw [← i3, cur_step _ _ c54, show clf n a (sp_mean n a * (100 + tv)) (sp_mean n a * (100 - uv)) lv i (kp, sp, gp, o) = (kp + 1, sp + 1, 0, va_up o kp (a i)) from by unfold clf; rw [if_pos c72]; show (_, sp + (if 0 < gp ∧ 0 < kp then 1 else 0), _, _) = _; rw [if_pos ⟨c79, c84⟩]]) (up_ge j5 (by omega) (by omega)) (up_lt j6) (up_le j9 (hab i c54)) (by omega) hH fk fc fr (lv_sub hl [0, 1, 3, 2, 5, 6, 7, 8, 9, 10] rfl)
                · exact absurd c114 (by omega)
    exact L48 ((n - 0) + 1) 0 0 0 0 (fun _ => 0) x _ _ _ ls (by omega) (by omega) (by omega) (by omega) (by rfl) (fun j _ h => hxa j h) (fun j h => absurd h (Nat.not_lt_zero _)) (fun j h => by rw [hxa j h]; exact hab j h) (Nat.lt_succ_self _) hH fk fc fr (lv_sub hl [0, 1, 2, 3, 4, 5, 6, 7, 8, 9] rfl)
  · refine lv_bipush (v := (-2)) hx hb dX3_removePlaces_9 (by decide) ?_
    refine RET _ _ _ _ _ _ dX3_removePlaces_11 rfl ?_ hH
    exact post3 (by unfold sp_cleared; rw [if_neg c6]) ⟨x, fk, fc, hxa, hn, hab⟩ fr
set_option maxHeartbeats 4000000 in
set_option maxRecDepth 100000 in
theorem k_X3_addRow (l : Launch) (X : Cx) (ad : Nat → Nat) (hi : inj 48 ad) (g : PF) (k : Nat) (hk : k + 1 < 48) (n : Nat) (a : Nat → Nat) (hR : rRow X ad k n a g) (k2 : Nat) (hk2 : k2 + 1 < 48) (n2 : Nat) (b : Nat → Nat) (hR2 : rRow X ad k2 n2 b g) (d1 : k2 ≠ k) (d2 : k2 ≠ k + 1) (d3 : k2 + 1 ≠ k) : Ki l yX3_addRow wsX3_addRow zr1 X 48 ad g [.ref (ad k), .ref (ad k2)] (fun r g' => r = (sp_join n2 b n a).1 ∧ rRow X ad k (sp_join n2 b n a).2.1 (sp_join n2 b n a).2.2 g' ∧ fr2 k g g') := by
  refine Ki.of (cc := cX3_addRow) (maxL := 3) hi (by decide) rfl (Nat.le_of_ble_eq_true rfl) ?_
  intro p e s m below meth c Q E RET ls hl
  obtain ⟨C0, FX, hH⟩ := E
  have hx := C0.1
  have hb := C0.2.1
  have kiX3 : ∀ w ∈ u_ws RX3 TX3 2, w ∈ wsX3_addRow := (by decide +kernel)
  have kf11 : Cond.fieldLink RX3 11 "YarnMill$Row" "cells" "[I" ∈ wsX3_addRow := (by decide +kernel)
  have kf21 : Cond.fieldLink RX3 21 "YarnMill$Row" "size" "I" ∈ wsX3_addRow := (by decide +kernel)
  have kc32 := C0.2.2.2.2 (.constant RX3 32 (nI 1000000)) (by decide +kernel)
  have hl : lv_has ls 3 [(0, .ref (ad k)), (1, .ref (ad k2))] := hl
  have fr : ∀ j, j ≠ k → j ≠ (k + 1) → g j = g j := fun j _ _ => rfl
  obtain ⟨x, fk, fc, hxa, hn, hab⟩ := hR
  obtain ⟨y, fk2, fc2, hyb, hn2, hbb⟩ := hR2
  refine lv_aload_n hx hb dX3_addRow_0 rfl (lv_at hl 1 rfl) ?_
  refine rp_get C0 FX hH k2 (by omega) (ci := 3) (k := 0) fk2 rfl kiX3 (by decide) kf21 rfl dX3_addRow_1 ?_
  refine lv_aload_n hx hb dX3_addRow_4 rfl (lv_at hl 0 rfl) ?_
  refine rp_get C0 FX hH k (by omega) (ci := 3) (k := 0) fk rfl kiX3 (by decide) kf21 rfl dX3_addRow_5 ?_
  refine ni_ceq hx hb 14 dX3_addRow_8 (by decide) (by omega) (by omega) (fun c8 => ?_) (fun c8 => ?_)
  · refine lv_iconst (v := nI 0) hx hb dX3_addRow_14 (by decide) ?_
    refine lv_istore_n (lv' := [(2, .int (nI 0)), (0, .ref (ad k)), (1, .ref (ad k2))]) hx hb dX3_addRow_15 rfl hl (by decide) rfl (fun ls hl => ?_)
    have L16 : ∀ (fu : Nat) (i : Nat) (ls : Array Slot), (i ≤ n) → (∀ j, j < i → a j + b j ≤ 1000000) → n - i < fu → lv_has ls 3 [(2, .int (nI i)), (0, .ref (ad k)), (1, .ref (ad k2))] → W p l e zr1 s m ([.ref (ad k), .ref (ad k2)] : List Value).toArray below meth c s.heap [] 0 0 Q (F0 m 16 ls []) := by
      intro fu
      induction fu with
      | zero =>
        intro i  ls i1 i2 hm
        exact absurd hm (Nat.not_lt_zero _)
      | succ fu ih =>
        have ih16 := ih; clear ih
        intro i  ls i1 i2 hm16  hl
        have hq1 := hab i
        have hq2 := hbb i
        refine lv_iload_n hx hb dX3_addRow_16 rfl (lv_at hl 0 rfl) ?_
        refine lv_aload_n hx hb dX3_addRow_17 rfl (lv_at hl 1 rfl) ?_
        refine rp_get C0 FX hH k (by omega) (ci := 3) (k := 0) fk rfl kiX3 (by decide) kf21 rfl dX3_addRow_18 ?_
        refine ni_cge hx hb 51 dX3_addRow_21 (by decide) (by omega) (by omega) (fun c21 => ?_) (fun c21 => ?_)
        · have hFC : ∀ j, j < n → a j + b j ≤ 1000000 := fun j hj => i2 j (by omega)
          refine lv_iconst (v := nI 0) hx hb dX3_addRow_51 (by decide) ?_
          refine lv_istore_n (lv' := [(2, .int (nI 0)), (0, .ref (ad k)), (1, .ref (ad k2))]) hx hb dX3_addRow_52 rfl hl (by decide) rfl (fun ls hl => ?_)
          have L53 : ∀ (fu : Nat) (i : Nat) (x9 : Nat → Nat) (g1 : PF) (H : Heap) (locs : List Loc) (ls : Array Slot), (i ≤ n) → (∀ j, i ≤ j → j < n → x9 j = a j) → (∀ j, j < i → x9 j = a j + b j) → n - i < fu → WH X 48 ad (pA 48 ad s.heap.size) s g1 H locs → g1 k = .inr (3, [.int (nI n), .ref (ad (k + 1))]) → g1 (k + 1) = arr X 400 x9 → g1 k2 = .inr (3, [.int (nI n2), .ref (ad (k2 + 1))]) → g1 (k2 + 1) = arr X 400 y → (∀ j, j ≠ k → j ≠ (k + 1) → g1 j = g j) → lv_has ls 3 [(2, .int (nI i)), (0, .ref (ad k)), (1, .ref (ad k2))] → W p l e zr1 s m ([.ref (ad k), .ref (ad k2)] : List Value).toArray below meth c H locs 0 0 Q (F0 m 53 ls []) := by
            intro fu
            induction fu with
            | zero =>
              intro i x9 g1 H locs ls j1 j5 j6 hm
              exact absurd hm (Nat.not_lt_zero _)
            | succ fu ih =>
              have ih53 := ih; clear ih
              intro i x9 g1 H locs ls j1 j5 j6 hm53 hH fk fc fk2 fc2 fr hl
              refine lv_iload_n hx hb dX3_addRow_53 rfl (lv_at hl 0 rfl) ?_
              refine lv_aload_n hx hb dX3_addRow_54 rfl (lv_at hl 1 rfl) ?_
              refine rp_get C0 FX hH k (by omega) (ci := 3) (k := 0) fk rfl kiX3 (by decide) kf21 rfl dX3_addRow_55 ?_
              refine ni_cge hx hb 82 dX3_addRow_58 (by decide) (by omega) (by omega) (fun c58 => ?_) (fun c58 => ?_)
              · refine lv_aload_n hx hb dX3_addRow_82 rfl (lv_at hl 1 rfl) ?_
                refine rp_get C0 FX hH k (by omega) (ci := 3) (k := 0) fk rfl kiX3 (by decide) kf21 rfl dX3_addRow_83 ?_
                refine RET _ _ _ _ _ _ dX3_addRow_86 rfl ?_ hH
                exact post3 (by unfold sp_join; rw [if_pos c8, if_pos hFC]) ⟨x9, fk, fc, fun j hj => j6 j (by omega), hn, hFC⟩ fr
              · refine lv_aload_n hx hb dX3_addRow_61 rfl (lv_at hl 1 rfl) ?_
                refine rp_get C0 FX hH k (by omega) (ci := 3) (k := 1) fk rfl kiX3 (by decide) kf11 rfl dX3_addRow_62 ?_
                refine lv_iload_n hx hb dX3_addRow_65 rfl (lv_at hl 0 rfl) ?_
                refine lv_dup2_11 hx hb dX3_addRow_66 rfl rfl ?_
                refine rp_iald C0 FX hH (k + 1) (by omega) (v := a i) fc i (by omega) (by decide) (j5 _ (by omega) (by omega)) dX3_addRow_67 ?_
                refine lv_aload_n hx hb dX3_addRow_68 rfl (lv_at hl 2 rfl) ?_
                refine rp_get C0 FX hH k2 (by omega) (ci := 3) (k := 1) fk2 rfl kiX3 (by decide) kf11 rfl dX3_addRow_69 ?_
                refine lv_iload_n hx hb dX3_addRow_72 rfl (lv_at hl 0 rfl) ?_
                refine rp_iald C0 FX hH (k2 + 1) (by omega) (v := b i) fc2 i (by omega) (by decide) (hyb _ (by omega)) dX3_addRow_73 ?_
                refine ni_iadd hx hb dX3_addRow_74 ?_
                refine rp_iast C0 FX hH (k + 1) (by omega) fc i ((a i) + (b i)) (by omega) (by decide) dX3_addRow_75 (fun g2 H locs eq3 nq3 hH => ?_)
                have fc : g2 (k + 1) = arr X 400 (va_up x9 i ((a i) + (b i))) := eq3
                have fk : g2 k = .inr (3, [.int (nI n), .ref (ad (k + 1))]) := (nq3 _ (by omega)).trans fk
                have fk2 : g2 k2 = .inr (3, [.int (nI n2), .ref (ad (k2 + 1))]) := (nq3 _ (by omega)).trans fk2
                have fc2 : g2 (k2 + 1) = arr X 400 y := (nq3 _ (by omega)).trans fc2
                have fr : ∀ j, j ≠ k → j ≠ (k + 1) → g2 j = g j := fun j a0 a1 => (nq3 j (by omega)).trans (fr j a0 a1)
                refine lv_iinc (v := nI (i + 1)) (lv' := [(2, .int (nI (i + 1))), (0, .ref (ad k)), (1, .ref (ad k2))]) hx hb dX3_addRow_76 hl (k := 0) rfl (ni_inc1 _) (by decide) rfl (fun ls hl => ?_)
                refine lv_goto (tgt := 53) hx hb dX3_addRow_79 (by decide) ?_
                exact ih53 (i + 1) (va_up x9 i ((a i) + (b i))) _ _ _ ls (by omega) (up_ge j5 (by omega) (by omega)) (fun j h => by by_cases q : j = i; subst q; rw [va_up_self]; rw [va_up_ne _ _ q]; exact j6 j (by omega)) (by omega) hH fk fc fk2 fc2 fr (lv_sub hl [0, 1, 2] rfl)
          exact L53 ((n - 0) + 1) 0 x _ _ _ ls (by omega) (fun j _ h => hxa j h) (fun j h => absurd h (Nat.not_lt_zero _)) (Nat.lt_succ_self _) hH fk fc fk2 fc2 fr (lv_sub hl [0, 1, 2] rfl)
        · refine lv_aload_n hx hb dX3_addRow_24 rfl (lv_at hl 1 rfl) ?_
          refine rp_get C0 FX hH k (by omega) (ci := 3) (k := 1) fk rfl kiX3 (by decide) kf11 rfl dX3_addRow_25 ?_
          refine lv_iload_n hx hb dX3_addRow_28 rfl (lv_at hl 0 rfl) ?_
          refine rp_iald C0 FX hH (k + 1) (by omega) (v := a i) fc i (by omega) (by decide) (hxa _ (by omega)) dX3_addRow_29 ?_
          refine lv_aload_n hx hb dX3_addRow_30 rfl (lv_at hl 2 rfl) ?_
          refine rp_get C0 FX hH k2 (by omega) (ci := 3) (k := 1) fk2 rfl kiX3 (by decide) kf11 rfl dX3_addRow_31 ?_
          refine lv_iload_n hx hb dX3_addRow_34 rfl (lv_at hl 0 rfl) ?_
          refine rp_iald C0 FX hH (k2 + 1) (by omega) (v := b i) fc2 i (by omega) (by decide) (hyb _ (by omega)) dX3_addRow_35 ?_
          refine ni_iadd hx hb dX3_addRow_36 ?_
          refine lv_ldc hx hb C0.2.2.2.1 kc32 dX3_addRow_37 ?_
          refine ni_cle hx hb 45 dX3_addRow_39 (by decide) (by have := hq1 c21; have := hq2 (by omega); omega) (by omega) (fun c39 => ?_) (fun c39 => ?_)
          · refine lv_iinc (v := nI (i + 1)) (lv' := [(2, .int (nI (i + 1))), (0, .ref (ad k)), (1, .ref (ad k2))]) hx hb dX3_addRow_45 hl (k := 0) rfl (ni_inc1 _) (by decide) rfl (fun ls hl => ?_)
            refine lv_goto (tgt := 16) hx hb dX3_addRow_48 (by decide) ?_
            exact ih16 (i + 1) ls (by omega) (fun j h => by rcases Nat.lt_succ_iff_lt_or_eq.mp h with q | q; exact i2 j q; subst q; exact c39) (by omega) (lv_sub hl [0, 1, 2] rfl)
          · refine lv_bipush (v := (-6)) hx hb dX3_addRow_42 (by decide) ?_
            refine RET _ _ _ _ _ _ dX3_addRow_44 rfl ?_ hH
            exact post3 (by unfold sp_join; rw [if_pos c8, if_neg (fun z => by have := z i c21; omega)]) ⟨x, fk, fc, hxa, hn, hab⟩ fr
    exact L16 ((n - 0) + 1) 0 ls (by omega) (fun j h => absurd h (Nat.not_lt_zero _)) (Nat.lt_succ_self _) (lv_sub hl [0, 1, 2] rfl)
  · refine lv_bipush (v := (-3)) hx hb dX3_addRow_11 (by decide) ?_
    refine RET _ _ _ _ _ _ dX3_addRow_13 rfl ?_ hH
    exact post3 (by unfold sp_join; rw [if_neg c8]) ⟨x, fk, fc, hxa, hn, hab⟩ fr
end
section
set_option maxHeartbeats 4000000 in
set_option maxRecDepth 100000 in
theorem k_X3_stretchBy (l : Launch) (X : Cx) (ad : Nat → Nat) (hi : inj 48 ad) (g : PF) (k : Nat) (hk : k + 1 < 48) (n : Nat) (a : Nat → Nat) (hR : rRow X ad k n a g) (p0 : Int32) : Ki l yX3_stretchBy wsX3_stretchBy zr1 X 48 ad g [.ref (ad k), .int p0] (fun r g' => r = (sp_stretch p0 n a).1 ∧ rRow X ad k (sp_stretch p0 n a).2.1 (sp_stretch p0 n a).2.2 g' ∧ fr2 k g g') := by
  refine Ki.of (cc := cX3_stretchBy) (maxL := 6) hi (by decide) rfl (Nat.le_of_ble_eq_true rfl) ?_
  intro p e s m below meth c Q E RET ls hl
  obtain ⟨C0, FX, hH⟩ := E
  have hx := C0.1
  have hb := C0.2.1
  have kl33 := C0.2.2.2.2 (.constantLong RX3 33 (lN 2)) (by decide +kernel)
  have kl35 := C0.2.2.2.2 (.constantLong RX3 35 (lN 8)) (by decide +kernel)
  have kiX3 : ∀ w ∈ u_ws RX3 TX3 2, w ∈ wsX3_stretchBy := (by decide +kernel)
  have kf11 : Cond.fieldLink RX3 11 "YarnMill$Row" "cells" "[I" ∈ wsX3_stretchBy := (by decide +kernel)
  have kf21 : Cond.fieldLink RX3 21 "YarnMill$Row" "size" "I" ∈ wsX3_stretchBy := (by decide +kernel)
  have hl : lv_has ls 6 [(0, .ref (ad k)), (1, .int p0)] := hl
  have fr : ∀ j, j ≠ k → j ≠ (k + 1) → g j = g j := fun j _ _ => rfl
  obtain ⟨x, fk, fc, hxa, hn, hab⟩ := hR
  refine lv_iload_n hx hb dX3_stretchBy_0 rfl (lv_at hl 1 rfl) ?_
  refine lv_i2l hx hb dX3_stretchBy_1 rfl ?_
  refine lv_ldc2 hx hb C0.2.2.2.1 kl33 dX3_stretchBy_2 ?_
  refine lv_ldc2 hx hb C0.2.2.2.1 kl35 dX3_stretchBy_5 ?_
  refine rc_Ni (rest := []) C0 FX hH (k_X5_within_rng l X ad hi _ p0 2 8 (by omega) (by omega)) ⟨va_cnB 3 C0.2.2.2.2 gX3_stretchBy_X5_within_n17 rfl rfl rfl (FX.1.2 (RX3, 17, yX5_within) (by decide +kernel)) (C0.2.2.2.2 (.initialized RX5) (by decide +kernel)) (by decide +kernel) ⟨Nat.le_of_ble_eq_true rfl, Nat.le_of_ble_eq_true rfl⟩, C0.2.2.2.2 (.static yX5_within) (by decide +kernel), trivial⟩ rfl rfl hl.1 (Nat.le_of_ble_eq_true rfl) dX3_stretchBy_8 ⟨Nat.le_of_ble_eq_true rfl, Nat.le_of_ble_eq_true rfl⟩ (fun r8 g8c H locs h8 hH => ?_)
  obtain ⟨e8, rfl⟩ := h8
  rw [e8] at hH
  refine rb_ne hx hb 17 dX3_stretchBy_11 (by decide) (fun c11 => ?_) (fun c11 => ?_)
  · obtain ⟨dv, rfl, dv1, dv2, dv3⟩ := rng_nI c11
    have hnd := Nat.mul_le_mul hn dv2
    refine lv_aload_n hx hb dX3_stretchBy_17 rfl (lv_at hl 0 rfl) ?_
    refine rp_get C0 FX hH k (by omega) (ci := 3) (k := 0) fk rfl kiX3 (by decide) kf21 rfl dX3_stretchBy_18 ?_
    refine lv_iload_n hx hb dX3_stretchBy_21 rfl (lv_at hl 1 rfl) ?_
    refine ni_imul hx hb dX3_stretchBy_22 ?_
    refine lv_sipush (v := nI 400) hx hb dX3_stretchBy_23 (by decide) ?_
    refine ni_cle hx hb 32 dX3_stretchBy_26 (by decide) (by omega) (by omega) (fun c26 => ?_) (fun c26 => ?_)
    · refine lv_aload_n hx hb dX3_stretchBy_32 rfl (lv_at hl 0 rfl) ?_
      refine rp_get C0 FX hH k (by omega) (ci := 3) (k := 0) fk rfl kiX3 (by decide) kf21 rfl dX3_stretchBy_33 ?_
      refine lv_iconst (v := nI 1) hx hb dX3_stretchBy_36 (by decide) ?_
      refine lv_isub hx hb dX3_stretchBy_37 ?_
      refine lv_istore_n (lv' := [(2, .int ((nI n) - (nI 1))), (0, .ref (ad k)), (1, .int (nI dv))]) hx hb dX3_stretchBy_38 rfl hl (by decide) rfl (fun ls hl => ?_)
      have L39 : ∀ (fu : Nat) (ct : Nat) (x9 : Nat → Nat) (g1 : PF) (H : Heap) (locs : List Loc) (ls : Array Slot), (ct ≤ n) → (∀ j, j < ct → x9 j = a j) → (∀ j, ct * dv ≤ j → j < n * dv → x9 j = stf dv a j) → ct < fu → WH X 48 ad (pA 48 ad s.heap.size) s g1 H locs → g1 k = .inr (3, [.int (nI n), .ref (ad (k + 1))]) → g1 (k + 1) = arr X 400 x9 → (∀ j, j ≠ k → j ≠ (k + 1) → g1 j = g j) → lv_has ls 6 [(2, .int (nI ct - nI 1)), (0, .ref (ad k)), (1, .int (nI dv))] → W p l e zr1 s m ([.ref (ad k), .int (nI dv)] : List Value).toArray below meth c H locs 0 0 Q (F0 m 39 ls []) := by
        intro fu
        induction fu with
        | zero =>
          intro ct x9 g1 H locs ls j1 j5 j6 hm
          exact absurd hm (Nat.not_lt_zero _)
        | succ fu ih =>
          have ih39 := ih; clear ih
          intro ct x9 g1 H locs ls j1 j5 j6 hm39 hH fk fc fr hl
          refine lv_iload_n hx hb dX3_stretchBy_39 rfl (lv_at hl 0 rfl) ?_
          refine lv_if_lt (tgt := 108) hx hb dX3_stretchBy_40 (by decide) (fun c40 => ?_) (fun c40 => ?_)
          · have hc0 : ct = 0 := (m1_neg (by omega)).mp c40
            refine lv_aload_n hx hb dX3_stretchBy_108 rfl (lv_at hl 1 rfl) ?_
            refine lv_dup hx hb dX3_stretchBy_109 rfl ?_
            refine rp_get C0 FX hH k (by omega) (ci := 3) (k := 0) fk rfl kiX3 (by decide) kf21 rfl dX3_stretchBy_110 ?_
            refine lv_iload_n hx hb dX3_stretchBy_113 rfl (lv_at hl 2 rfl) ?_
            refine ni_imul hx hb dX3_stretchBy_114 ?_
            refine rp_put C0 FX hH k (by omega) (ci := 3) (k := 0) tyX3 tyX3_ok nmX3 fk rfl kiX3 (by decide) kf21 rfl rfl rfl (Nat.le_of_ble_eq_true rfl) dX3_stretchBy_115 (fun g2 H locs eq3 nq3 hH => ?_)
            have fk : g2 k = .inr (3, [.int (nI (n * dv)), .ref (ad (k + 1))]) := eq3
            have fc : g2 (k + 1) = arr X 400 x9 := (nq3 _ (by omega)).trans fc
            have fr : ∀ j, j ≠ k → j ≠ (k + 1) → g2 j = g j := fun j a0 a1 => (nq3 j (by omega)).trans (fr j a0 a1)
            refine lv_aload_n hx hb dX3_stretchBy_118 rfl (lv_at hl 1 rfl) ?_
            refine rp_get C0 FX hH k (by omega) (ci := 3) (k := 0) fk rfl kiX3 (by decide) kf21 rfl dX3_stretchBy_119 ?_
            refine RET _ _ _ _ _ _ dX3_stretchBy_122 rfl ?_ hH
            exact post3 (by unfold sp_stretch; rw [if_pos ((rng_iff (by omega)).mpr (by omega)), tN_nI (by omega), if_neg (by omega)]) ⟨x9, fk, fc, fun j hj => j6 j (by rw [hc0, Nat.zero_mul]; omega) hj, c26, stf_le hab dv1⟩ fr
          · have hne : ct ≠ 0 := fun z => c40 ((m1_neg (by omega)).mpr z)
            obtain ⟨cp, rfl⟩ : ∃ cp, ct = cp + 1 := ⟨ct - 1, by omega⟩
            have hmd := Nat.mod_lt (a cp) (show 0 < dv by omega)
            rw [ni_pred] at hl
            have hcd := Nat.mul_le_mul_right dv (show cp + 1 ≤ n by omega)
            rw [Nat.succ_mul] at hcd
            have hq := hab cp (by omega)
            have hge := Nat.le_mul_of_pos_right cp (show 0 < dv by omega)
            refine lv_aload_n hx hb dX3_stretchBy_43 rfl (lv_at hl 1 rfl) ?_
            refine rp_get C0 FX hH k (by omega) (ci := 3) (k := 1) fk rfl kiX3 (by decide) kf11 rfl dX3_stretchBy_44 ?_
            refine lv_iload_n hx hb dX3_stretchBy_47 rfl (lv_at hl 0 rfl) ?_
            refine rp_iald C0 FX hH (k + 1) (by omega) (v := a cp) fc cp (by omega) (by decide) (j5 _ (by omega)) dX3_stretchBy_48 ?_
            refine lv_iload_n hx hb dX3_stretchBy_49 rfl (lv_at hl 2 rfl) ?_
            refine ni_idiv hx hb (by omega) (by omega) (by omega) dX3_stretchBy_50 ?_
            refine lv_istore_n (lv' := [(3, .int (nI ((a cp) / dv))), (2, .int (nI cp)), (0, .ref (ad k)), (1, .int (nI dv))]) hx hb dX3_stretchBy_51 rfl hl (by decide) rfl (fun ls hl => ?_)
            refine lv_aload_n hx hb dX3_stretchBy_52 rfl (lv_at hl 2 rfl) ?_
            refine rp_get C0 FX hH k (by omega) (ci := 3) (k := 1) fk rfl kiX3 (by decide) kf11 rfl dX3_stretchBy_53 ?_
            refine lv_iload_n hx hb dX3_stretchBy_56 rfl (lv_at hl 1 rfl) ?_
            refine rp_iald C0 FX hH (k + 1) (by omega) (v := a cp) fc cp (by omega) (by decide) (j5 _ (by omega)) dX3_stretchBy_57 ?_
            refine lv_iload_n hx hb dX3_stretchBy_58 rfl (lv_at hl 3 rfl) ?_
            refine ni_irem hx hb (by omega) (by omega) (by omega) dX3_stretchBy_59 ?_
            refine lv_istore (lv' := [(4, .int (nI ((a cp) % dv))), (3, .int (nI ((a cp) / dv))), (2, .int (nI cp)), (0, .ref (ad k)), (1, .int (nI dv))]) hx hb dX3_stretchBy_60 hl (by decide) rfl (fun ls hl => ?_)
            refine lv_iconst (v := nI 0) hx hb dX3_stretchBy_62 (by decide) ?_
            refine lv_istore (lv' := [(5, .int (nI 0)), (4, .int (nI ((a cp) % dv))), (3, .int (nI ((a cp) / dv))), (2, .int (nI cp)), (0, .ref (ad k)), (1, .int (nI dv))]) hx hb dX3_stretchBy_63 hl (by decide) rfl (fun ls hl => ?_)
            have L65 : ∀ (fu : Nat) (jj : Nat) (x8 : Nat → Nat) (g4 : PF) (H : Heap) (locs : List Loc) (ls : Array Slot), (jj ≤ dv) → (∀ j, j < cp → x8 j = a j) → (∀ j, cp * dv ≤ j → j < cp * dv + jj → x8 j = stf dv a j) → (∀ j, (cp + 1) * dv ≤ j → j < n * dv → x8 j = stf dv a j) → dv - jj < fu → WH X 48 ad (pA 48 ad s.heap.size) s g4 H locs → g4 k = .inr (3, [.int (nI n), .ref (ad (k + 1))]) → g4 (k + 1) = arr X 400 x8 → (∀ j, j ≠ k → j ≠ (k + 1) → g4 j = g j) → lv_has ls 6 [(5, .int (nI jj)), (4, .int (nI ((a cp) % dv))), (3, .int (nI ((a cp) / dv))), (2, .int (nI cp)), (0, .ref (ad k)), (1, .int (nI dv))] → W p l e zr1 s m ([.ref (ad k), .int (nI dv)] : List Value).toArray below meth c H locs 0 0 Q (F0 m 65 ls []) := by
              intro fu
              induction fu with
              | zero =>
                intro jj x8 g4 H locs ls m0 m1 m2 m3 hm
                exact absurd hm (Nat.not_lt_zero _)
              | succ fu ih =>
                have ih65 := ih; clear ih
                intro jj x8 g4 H locs ls m0 m1 m2 m3 hm65 hH fk fc fr hl
                refine lv_iload hx hb dX3_stretchBy_65 (lv_at hl 0 rfl) ?_
                refine lv_iload_n hx hb dX3_stretchBy_67 rfl (lv_at hl 5 rfl) ?_
                refine ni_cge hx hb 102 dX3_stretchBy_68 (by decide) (by omega) (by omega) (fun c68 => ?_) (fun c68 => ?_)
                · refine lv_iinc (v := nI cp - nI 1) (lv' := [(2, .int (nI cp - nI 1)), (5, .int (nI jj)), (4, .int (nI ((a cp) % dv))), (3, .int (nI ((a cp) / dv))), (0, .ref (ad k)), (1, .int (nI dv))]) hx hb dX3_stretchBy_102 hl (k := 3) rfl (ni_decr _) (by decide) rfl (fun ls hl => ?_)
                  refine lv_goto (tgt := 39) hx hb dX3_stretchBy_105 (by decide) ?_
                  exact ih39 cp x8 _ _ _ ls (by omega) (fun j hj => m1 j hj) (fun j h1 h2 => by rcases Nat.lt_or_ge j (cp * dv + jj) with q | q; exact m2 j h1 q; exact m3 j (by rw [Nat.succ_mul]; omega) h2) (by omega) hH fk fc fr (lv_sub hl [0, 4, 5] rfl)
                · refine lv_aload_n hx hb dX3_stretchBy_71 rfl (lv_at hl 4 rfl) ?_
                  refine rp_get C0 FX hH k (by omega) (ci := 3) (k := 1) fk rfl kiX3 (by decide) kf11 rfl dX3_stretchBy_72 ?_
                  refine lv_iload_n hx hb dX3_stretchBy_75 rfl (lv_at hl 3 rfl) ?_
                  refine lv_iload_n hx hb dX3_stretchBy_76 rfl (lv_at hl 5 rfl) ?_
                  refine ni_imul hx hb dX3_stretchBy_77 ?_
                  refine lv_iload hx hb dX3_stretchBy_78 (lv_at hl 0 rfl) ?_
                  refine ni_iadd hx hb dX3_stretchBy_80 ?_
                  refine lv_iload hx hb dX3_stretchBy_81 (lv_at hl 0 rfl) ?_
                  refine lv_iload hx hb dX3_stretchBy_83 (lv_at hl 1 rfl) ?_
                  refine ni_cge hx hb 94 dX3_stretchBy_85 (by decide) (by omega) (by omega) (fun c85 => ?_) (fun c85 => ?_)
                  · refine lv_iload_n hx hb dX3_stretchBy_94 rfl (lv_at hl 2 rfl) ?_
                    refine rp_iast C0 FX hH (k + 1) (by omega) fc ((cp * dv) + jj) ((a cp) / dv) (by omega) (by decide) dX3_stretchBy_95 (fun g5 H locs eq6 nq6 hH => ?_)
                    have fc : g5 (k + 1) = arr X 400 (va_up x8 ((cp * dv) + jj) ((a cp) / dv)) := eq6
                    have fk : g5 k = .inr (3, [.int (nI n), .ref (ad (k + 1))]) := (nq6 _ (by omega)).trans fk
                    have fr : ∀ j, j ≠ k → j ≠ (k + 1) → g5 j = g j := fun j a0 a1 => (nq6 j (by omega)).trans (fr j a0 a1)
                    refine lv_iinc (v := nI (jj + 1)) (lv' := [(5, .int (nI (jj + 1))), (4, .int (nI ((a cp) % dv))), (3, .int (nI ((a cp) / dv))), (2, .int (nI cp)), (0, .ref (ad k)), (1, .int (nI dv))]) hx hb dX3_stretchBy_96 hl (k := 0) rfl (ni_inc1 _) (by decide) rfl (fun ls hl => ?_)
                    refine lv_goto (tgt := 65) hx hb dX3_stretchBy_99 (by decide) ?_
                    exact ih65 (jj + 1) (va_up x8 ((cp * dv) + jj) ((a cp) / dv)) _ _ _ ls (by omega) (fun j hj => by rw [va_up_ne _ _ (by omega)]; exact m1 j hj) (fun j h1 h2 => by by_cases q : j = cp * dv + jj; rw [q, va_up_self, stf_at a c68, if_neg (by omega), Nat.add_zero]; rw [va_up_ne _ _ q]; exact m2 j h1 (by omega)) (fun j h1 h2 => by rw [va_up_ne _ _ (by rw [Nat.succ_mul] at h1; omega)]; exact m3 j h1 h2) (by omega) hH fk fc fr (lv_sub hl [0, 1, 2, 3, 4, 5] rfl)
                  · refine lv_iload_n hx hb dX3_stretchBy_88 rfl (lv_at hl 2 rfl) ?_
                    refine lv_iconst (v := nI 1) hx hb dX3_stretchBy_89 (by decide) ?_
                    refine ni_iadd hx hb dX3_stretchBy_90 ?_
                    refine lv_goto (tgt := 95) hx hb dX3_stretchBy_91 (by decide) ?_
                    refine rp_iast C0 FX hH (k + 1) (by omega) fc ((cp * dv) + jj) (((a cp) / dv) + 1) (by omega) (by decide) dX3_stretchBy_95 (fun g7 H locs eq8 nq8 hH => ?_)
                    have fc : g7 (k + 1) = arr X 400 (va_up x8 ((cp * dv) + jj) (((a cp) / dv) + 1)) := eq8
                    have fk : g7 k = .inr (3, [.int (nI n), .ref (ad (k + 1))]) := (nq8 _ (by omega)).trans fk
                    have fr : ∀ j, j ≠ k → j ≠ (k + 1) → g7 j = g j := fun j a0 a1 => (nq8 j (by omega)).trans (fr j a0 a1)
                    refine lv_iinc (v := nI (jj + 1)) (lv' := [(5, .int (nI (jj + 1))), (4, .int (nI ((a cp) % dv))), (3, .int (nI ((a cp) / dv))), (2, .int (nI cp)), (0, .ref (ad k)), (1, .int (nI dv))]) hx hb dX3_stretchBy_96 hl (k := 0) rfl (ni_inc1 _) (by decide) rfl (fun ls hl => ?_)
                    refine lv_goto (tgt := 65) hx hb dX3_stretchBy_99 (by decide) ?_
                    exact ih65 (jj + 1) (va_up x8 ((cp * dv) + jj) (((a cp) / dv) + 1)) _ _ _ ls (by omega) (fun j hj => by rw [va_up_ne _ _ (by omega)]; exact m1 j hj) (fun j h1 h2 => by by_cases q : j = cp * dv + jj; rw [q, va_up_self, stf_at a c68, if_pos c85]; rw [va_up_ne _ _ q]; exact m2 j h1 (by omega)) (fun j h1 h2 => by rw [va_up_ne _ _ (by rw [Nat.succ_mul] at h1; omega)]; exact m3 j h1 h2) (by omega) hH fk fc fr (lv_sub hl [0, 1, 2, 3, 4, 5] rfl)
            exact L65 ((dv - 0) + 1) 0 x9 _ _ _ ls (by omega) (fun j hj => j5 j (by omega)) (fun j h1 h2 => absurd h2 (by omega)) (j6) (Nat.lt_succ_self _) hH fk fc fr (lv_sub hl [0, 1, 2, 3, 4, 5] rfl)
      exact L39 (n + 1) n x _ _ _ ls (by omega) (hxa) (fun j h1 h2 => absurd h2 (by omega)) (Nat.lt_succ_self _) hH fk fc fr (lv_sub hl [0, 1, 2] rfl)
    · refine lv_bipush (v := (-4)) hx hb dX3_stretchBy_29 (by decide) ?_
      refine RET _ _ _ _ _ _ dX3_stretchBy_31 rfl ?_ hH
      exact post3 (by unfold sp_stretch; rw [if_pos ((rng_iff (by omega)).mpr (by omega)), tN_nI (by omega), if_pos c26]) ⟨x, fk, fc, hxa, hn, hab⟩ fr
  · refine lv_bipush (v := (-2)) hx hb dX3_stretchBy_14 (by decide) ?_
    refine RET _ _ _ _ _ _ dX3_stretchBy_16 rfl ?_ hH
    exact post3 (by unfold sp_stretch; rw [if_neg c11]) ⟨x, fk, fc, hxa, hn, hab⟩ fr
set_option maxHeartbeats 4000000 in
set_option maxRecDepth 100000 in
theorem k_X3_gatherBy (l : Launch) (X : Cx) (ad : Nat → Nat) (hi : inj 48 ad) (g : PF) (k : Nat) (hk : k + 1 < 48) (n : Nat) (a : Nat → Nat) (hR : rRow X ad k n a g) (p0 : Int32) : Ki l yX3_gatherBy wsX3_gatherBy zr2 X 48 ad g [.ref (ad k), .int p0] (fun r g' => r = (sp_gather p0 n a).1 ∧ rRow X ad k (sp_gather p0 n a).2.1 (sp_gather p0 n a).2.2 g' ∧ fr2 k g g') := by
  refine Ki.of (cc := cX3_gatherBy) (maxL := 4) hi (by decide) rfl (Nat.le_of_ble_eq_true rfl) ?_
  intro p e s m below meth c Q E RET ls hl
  obtain ⟨C0, FX, hH⟩ := E
  have hx := C0.1
  have hb := C0.2.1
  have kl33 := C0.2.2.2.2 (.constantLong RX3 33 (lN 2)) (by decide +kernel)
  have kl37 := C0.2.2.2.2 (.constantLong RX3 37 (lN 20)) (by decide +kernel)
  have kiX3 : ∀ w ∈ u_ws RX3 TX3 2, w ∈ wsX3_gatherBy := (by decide +kernel)
  have kf11 : Cond.fieldLink RX3 11 "YarnMill$Row" "cells" "[I" ∈ wsX3_gatherBy := (by decide +kernel)
  have kf21 : Cond.fieldLink RX3 21 "YarnMill$Row" "size" "I" ∈ wsX3_gatherBy := (by decide +kernel)
  have kc32 := C0.2.2.2.2 (.constant RX3 32 (nI 1000000)) (by decide +kernel)
  have hl : lv_has ls 4 [(0, .ref (ad k)), (1, .int p0)] := hl
  have fr : ∀ j, j ≠ k → j ≠ (k + 1) → g j = g j := fun j _ _ => rfl
  obtain ⟨x, fk, fc, hxa, hn, hab⟩ := hR
  refine lv_iload_n hx hb dX3_gatherBy_0 rfl (lv_at hl 1 rfl) ?_
  refine lv_i2l hx hb dX3_gatherBy_1 rfl ?_
  refine lv_ldc2 hx hb C0.2.2.2.1 kl33 dX3_gatherBy_2 ?_
  refine lv_ldc2 hx hb C0.2.2.2.1 kl37 dX3_gatherBy_5 ?_
  refine rc_Ni (rest := []) C0 FX hH (k_X5_within_rng l X ad hi _ p0 2 20 (by omega) (by omega)) ⟨va_cnB 3 C0.2.2.2.2 gX3_gatherBy_X5_within_n17 rfl rfl rfl (FX.1.2 (RX3, 17, yX5_within) (by decide +kernel)) (C0.2.2.2.2 (.initialized RX5) (by decide +kernel)) (by decide +kernel) ⟨Nat.le_of_ble_eq_true rfl, Nat.le_of_ble_eq_true rfl⟩, C0.2.2.2.2 (.static yX5_within) (by decide +kernel), trivial⟩ rfl rfl hl.1 (Nat.le_of_ble_eq_true rfl) dX3_gatherBy_8 ⟨Nat.le_of_ble_eq_true rfl, Nat.le_of_ble_eq_true rfl⟩ (fun r8 g8c H locs h8 hH => ?_)
  obtain ⟨e8, rfl⟩ := h8
  rw [e8] at hH
  refine rb_ne hx hb 17 dX3_gatherBy_11 (by decide) (fun c11 => ?_) (fun c11 => ?_)
  · obtain ⟨gv, rfl, gv1, gv2, gv3⟩ := rng_nI c11
    refine lv_iconst (v := nI 0) hx hb dX3_gatherBy_17 (by decide) ?_
    refine lv_istore_n (lv' := [(2, .int (nI 0)), (0, .ref (ad k)), (1, .int (nI gv))]) hx hb dX3_gatherBy_18 rfl hl (by decide) rfl (fun ls hl => ?_)
    have L19 : ∀ (fu : Nat) (t : Nat) (q : Nat) (H : Heap) (locs : List Loc) (ls : Array Slot), (t ≤ n + gv) → (t = q * gv) → (q ≤ (n + gv - 1) / gv) → (∀ i, i < q → gsm n a gv i ≤ 1000000) → n - t < fu → WH X 48 ad (pA 48 ad s.heap.size) s g H locs → lv_has ls 4 [(2, .int (nI t)), (0, .ref (ad k)), (1, .int (nI gv))] → W p l e zr2 s m ([.ref (ad k), .int (nI gv)] : List Value).toArray below meth c H locs 0 0 Q (F0 m 19 ls []) := by
      intro fu
      induction fu with
      | zero =>
        intro t q H locs ls j4 j1 j2 j3 hm
        exact absurd hm (Nat.not_lt_zero _)
      | succ fu ih =>
        have ih19 := ih; clear ih
        intro t q H locs ls j4 j1 j2 j3 hm19 hH hl
        have hsg := sg_le (a := a) (f := t) (k := min (t + gv) n - t) (b := 1000000) (fun j hj => hab _ (by omega))
        refine lv_iload_n hx hb dX3_gatherBy_19 rfl (lv_at hl 0 rfl) ?_
        refine lv_aload_n hx hb dX3_gatherBy_20 rfl (lv_at hl 1 rfl) ?_
        refine rp_get C0 FX hH k (by omega) (ci := 3) (k := 0) fk rfl kiX3 (by decide) kf21 rfl dX3_gatherBy_21 ?_
        refine ni_cge hx hb 48 dX3_gatherBy_24 (by decide) (by omega) (by omega) (fun c24 => ?_) (fun c24 => ?_)
        · have hq9 : q = (n + gv - 1) / gv := Nat.le_antisymm j2 (Nat.le_of_not_lt (fun z => by have := (ceil_lt (by omega)).mp z; omega))
          have hFC : ∀ i, i < (n + gv - 1) / gv → gsm n a gv i ≤ 1000000 := fun i h => j3 i (by omega)
          refine lv_iconst (v := nI 0) hx hb dX3_gatherBy_48 (by decide) ?_
          refine lv_istore_n (lv' := [(2, .int (nI 0)), (0, .ref (ad k)), (1, .int (nI gv))]) hx hb dX3_gatherBy_49 rfl hl (by decide) rfl (fun ls hl => ?_)
          refine lv_iconst (v := nI 0) hx hb dX3_gatherBy_50 (by decide) ?_
          refine lv_istore_n (lv' := [(3, .int (nI 0)), (2, .int (nI 0)), (0, .ref (ad k)), (1, .int (nI gv))]) hx hb dX3_gatherBy_51 rfl hl (by decide) rfl (fun ls hl => ?_)
          have L52 : ∀ (fu : Nat) (gd : Nat) (t : Nat) (x9 : Nat → Nat) (g1 : PF) (H : Heap) (locs : List Loc) (ls : Array Slot), (t ≤ n + gv) → (gd ≤ n) → (t = gd * gv) → (gd ≤ (n + gv - 1) / gv) → (∀ j, t ≤ j → j < n → x9 j = a j) → (∀ j, j < gd → x9 j = gsm n a gv j) → (∀ j, j < n → x9 j ≤ 1000000) → n - t < fu → WH X 48 ad (pA 48 ad s.heap.size) s g1 H locs → g1 k = .inr (3, [.int (nI n), .ref (ad (k + 1))]) → g1 (k + 1) = arr X 400 x9 → (∀ j, j ≠ k → j ≠ (k + 1) → g1 j = g j) → lv_has ls 4 [(3, .int (nI t)), (2, .int (nI gd)), (0, .ref (ad k)), (1, .int (nI gv))] → W p l e zr2 s m ([.ref (ad k), .int (nI gv)] : List Value).toArray below meth c H locs 0 0 Q (F0 m 52 ls []) := by
            intro fu
            induction fu with
            | zero =>
              intro gd t x9 g1 H locs ls k4 k3 k1 k2 k5 k6 k9 hm
              exact absurd hm (Nat.not_lt_zero _)
            | succ fu ih =>
              have ih52 := ih; clear ih
              intro gd t x9 g1 H locs ls k4 k3 k1 k2 k5 k6 k9 hm52 hH fk fc fr hl
              have hgt := Nat.le_mul_of_pos_right gd (show 0 < gv by omega)
              refine lv_iload_n hx hb dX3_gatherBy_52 rfl (lv_at hl 0 rfl) ?_
              refine lv_aload_n hx hb dX3_gatherBy_53 rfl (lv_at hl 2 rfl) ?_
              refine rp_get C0 FX hH k (by omega) (ci := 3) (k := 0) fk rfl kiX3 (by decide) kf21 rfl dX3_gatherBy_54 ?_
              refine ni_cge hx hb 82 dX3_gatherBy_57 (by decide) (by omega) (by omega) (fun c57 => ?_) (fun c57 => ?_)
              · have hq8 : gd = (n + gv - 1) / gv := Nat.le_antisymm k2 (Nat.le_of_not_lt (fun z => by have := (ceil_lt (by omega)).mp z; omega))
                refine lv_aload_n hx hb dX3_gatherBy_82 rfl (lv_at hl 2 rfl) ?_
                refine lv_iload_n hx hb dX3_gatherBy_83 rfl (lv_at hl 1 rfl) ?_
                refine rp_put C0 FX hH k (by omega) (ci := 3) (k := 0) tyX3 tyX3_ok nmX3 fk rfl kiX3 (by decide) kf21 rfl rfl rfl (Nat.le_of_ble_eq_true rfl) dX3_gatherBy_84 (fun g2 H locs eq3 nq3 hH => ?_)
                have fk : g2 k = .inr (3, [.int (nI gd), .ref (ad (k + 1))]) := eq3
                have fc : g2 (k + 1) = arr X 400 x9 := (nq3 _ (by omega)).trans fc
                have fr : ∀ j, j ≠ k → j ≠ (k + 1) → g2 j = g j := fun j a0 a1 => (nq3 j (by omega)).trans (fr j a0 a1)
                refine lv_aload_n hx hb dX3_gatherBy_87 rfl (lv_at hl 2 rfl) ?_
                refine rp_get C0 FX hH k (by omega) (ci := 3) (k := 0) fk rfl kiX3 (by decide) kf21 rfl dX3_gatherBy_88 ?_
                refine RET _ _ _ _ _ _ dX3_gatherBy_91 rfl ?_ hH
                exact post3 (by unfold sp_gather; rw [if_pos ((rng_iff (by omega)).mpr (by omega)), tN_nI (by omega), if_pos hFC, ← hq8]) ⟨x9, fk, fc, k6, by omega, fun j hj => hFC j (by omega)⟩ fr
              · refine lv_aload_n hx hb dX3_gatherBy_60 rfl (lv_at hl 2 rfl) ?_
                refine rp_get C0 FX hH k (by omega) (ci := 3) (k := 1) fk rfl kiX3 (by decide) kf11 rfl dX3_gatherBy_61 ?_
                refine lv_iload_n hx hb dX3_gatherBy_64 rfl (lv_at hl 1 rfl) ?_
                refine lv_aload_n hx hb dX3_gatherBy_65 rfl (lv_at hl 2 rfl) ?_
                refine lv_iload_n hx hb dX3_gatherBy_66 rfl (lv_at hl 0 rfl) ?_
                refine lv_iload_n hx hb dX3_gatherBy_67 rfl (lv_at hl 3 rfl) ?_
                refine rc_Vi (rest := [.int (nI gd), .ref (ad (k + 1))]) C0 FX hH k (by omega) fk rfl (k_X3_sumOf l X ad hi _ k hk n x9 ⟨x9, fk, fc, fun j _ => rfl, hn, k9⟩ t gv (by omega) (by omega)) (cwV 2 C0.2.2.2.2 gX3_gatherBy_X3_sumOf rfl rfl rfl (by decide +kernel) ⟨Nat.le_of_ble_eq_true rfl, Nat.le_of_ble_eq_true rfl⟩) rfl rfl hl.1 (Nat.le_of_ble_eq_true rfl) dX3_gatherBy_68 ⟨Nat.le_of_ble_eq_true rfl, Nat.le_of_ble_eq_true rfl⟩ (fun r68 g68c H locs h68 hH => ?_)
                obtain ⟨e68, rfl⟩ := h68
                rw [e68] at hH
                rw [sg_cong (b := a) (fun j h1 h2 => k5 j h1 (by omega))]
                refine rp_iast C0 FX hH (k + 1) (by omega) fc gd (sg a t (min (t + gv) n - t)) (by omega) (by decide) dX3_gatherBy_71 (fun g4 H locs eq5 nq5 hH => ?_)
                have fc : g4 (k + 1) = arr X 400 (va_up x9 gd (sg a t (min (t + gv) n - t))) := eq5
                have fk : g4 k = .inr (3, [.int (nI n), .ref (ad (k + 1))]) := (nq5 _ (by omega)).trans fk
                have fr : ∀ j, j ≠ k → j ≠ (k + 1) → g4 j = g j := fun j a0 a1 => (nq5 j (by omega)).trans (fr j a0 a1)
                refine lv_iinc (v := nI (gd + 1)) (lv' := [(2, .int (nI (gd + 1))), (3, .int (nI t)), (0, .ref (ad k)), (1, .int (nI gv))]) hx hb dX3_gatherBy_72 hl (k := 1) rfl (ni_inc1 _) (by decide) rfl (fun ls hl => ?_)
                refine lv_iload_n hx hb dX3_gatherBy_75 rfl (lv_at hl 1 rfl) ?_
                refine lv_iload_n hx hb dX3_gatherBy_76 rfl (lv_at hl 3 rfl) ?_
                refine ni_iadd hx hb dX3_gatherBy_77 ?_
                refine lv_istore_n (lv' := [(3, .int (nI (t + gv))), (2, .int (nI (gd + 1))), (0, .ref (ad k)), (1, .int (nI gv))]) hx hb dX3_gatherBy_78 rfl hl (by decide) rfl (fun ls hl => ?_)
                refine lv_goto (tgt := 52) hx hb dX3_gatherBy_79 (by decide) ?_
                exact ih52 (gd + 1) (t + gv) (va_up x9 gd (sg a t (min (t + gv) n - t))) _ _ _ ls (by omega) (by omega) (by rw [Nat.succ_mul, k1]) ((ceil_lt (by omega)).mpr (by omega)) (up_ge k5 (by omega) (by omega)) (fun j h => by by_cases z : j = gd; subst z; rw [va_up_self]; unfold gsm; rw [← k1]; rw [va_up_ne _ _ z]; exact k6 j (by omega)) (up_le k9 (by have := hFC gd ((ceil_lt (by omega)).mpr (by omega)); unfold gsm at this; rw [← k1] at this; exact this)) (by omega) hH fk fc fr (lv_sub hl [0, 1, 2, 3] rfl)
          exact L52 ((n - 0) + 1) 0 0 x _ _ _ ls (by omega) (by omega) (by rw [Nat.zero_mul]) (Nat.zero_le _) (fun j _ h => hxa j h) (fun j h => absurd h (Nat.not_lt_zero _)) (fun j h => by rw [hxa j h]; exact hab j h) (Nat.lt_succ_self _) hH fk fc fr (lv_sub hl [0, 1, 2, 3] rfl)
        · refine lv_aload_n hx hb dX3_gatherBy_27 rfl (lv_at hl 1 rfl) ?_
          refine lv_iload_n hx hb dX3_gatherBy_28 rfl (lv_at hl 0 rfl) ?_
          refine lv_iload_n hx hb dX3_gatherBy_29 rfl (lv_at hl 2 rfl) ?_
          refine rc_Vi (rest := []) C0 FX hH k (by omega) fk rfl (k_X3_sumOf l X ad hi _ k hk n a ⟨x, fk, fc, hxa, hn, hab⟩ t gv (by omega) (by omega)) (cwV 2 C0.2.2.2.2 gX3_gatherBy_X3_sumOf rfl rfl rfl (by decide +kernel) ⟨Nat.le_of_ble_eq_true rfl, Nat.le_of_ble_eq_true rfl⟩) rfl rfl hl.1 (Nat.le_of_ble_eq_true rfl) dX3_gatherBy_30 ⟨Nat.le_of_ble_eq_true rfl, Nat.le_of_ble_eq_true rfl⟩ (fun r30 g30c H locs h30 hH => ?_)
          obtain ⟨e30, rfl⟩ := h30
          rw [e30] at hH
          refine lv_ldc hx hb C0.2.2.2.1 kc32 dX3_gatherBy_33 ?_
          refine ni_cle hx hb 41 dX3_gatherBy_35 (by decide) (by omega) (by omega) (fun c35 => ?_) (fun c35 => ?_)
          · refine lv_iload_n hx hb dX3_gatherBy_41 rfl (lv_at hl 0 rfl) ?_
            refine lv_iload_n hx hb dX3_gatherBy_42 rfl (lv_at hl 2 rfl) ?_
            refine ni_iadd hx hb dX3_gatherBy_43 ?_
            refine lv_istore_n (lv' := [(2, .int (nI (t + gv))), (0, .ref (ad k)), (1, .int (nI gv))]) hx hb dX3_gatherBy_44 rfl hl (by decide) rfl (fun ls hl => ?_)
            refine lv_goto (tgt := 19) hx hb dX3_gatherBy_45 (by decide) ?_
            exact ih19 (t + gv) (q + 1) _ _ ls (by omega) (by rw [Nat.succ_mul, j1]) ((ceil_lt (by omega)).mpr (by omega)) (fun i h => by rcases Nat.lt_succ_iff_lt_or_eq.mp h with z | z; exact j3 i z; subst z; unfold gsm; rw [← j1]; exact c35) (by omega) hH (lv_sub hl [0, 1, 2] rfl)
          · refine lv_bipush (v := (-6)) hx hb dX3_gatherBy_38 (by decide) ?_
            refine RET _ _ _ _ _ _ dX3_gatherBy_40 rfl ?_ hH
            exact post3 (by unfold sp_gather; rw [if_pos ((rng_iff (by omega)).mpr (by omega)), tN_nI (by omega), if_neg (fun z => by have z2 := z q ((ceil_lt (by omega)).mpr (by omega)); unfold gsm at z2; rw [← j1] at z2; omega)]) ⟨x, fk, fc, hxa, hn, hab⟩ fr
    exact L19 ((n - 0) + 1) 0 0 _ _ ls (by omega) (by rw [Nat.zero_mul]) (Nat.zero_le _) (fun i h => absurd h (Nat.not_lt_zero _)) (Nat.lt_succ_self _) hH (lv_sub hl [0, 1, 2] rfl)
  · refine lv_bipush (v := (-2)) hx hb dX3_gatherBy_14 (by decide) ?_
    refine RET _ _ _ _ _ _ dX3_gatherBy_16 rfl ?_ hH
    exact post3 (by unfold sp_gather; rw [if_neg c11]) ⟨x, fk, fc, hxa, hn, hab⟩ fr
set_option maxHeartbeats 4000000 in
set_option maxRecDepth 100000 in
theorem k_X3_addDrawn (l : Launch) (X : Cx) (ad : Nat → Nat) (hi : inj 48 ad) (g : PF) (k : Nat) (hk : k + 1 < 48) (n : Nat) (a : Nat → Nat) (hR : rRow X ad k n a g) (nn mm ww sd : Int32) : Ki l yX3_addDrawn wsX3_addDrawn zr1 X 48 ad g [.ref (ad k), .int nn, .int mm, .int ww, .int sd] (fun r g' => r = (sp_draw nn mm ww sd n a).1 ∧ rRow X ad k (sp_draw nn mm ww sd n a).2.1 (sp_draw nn mm ww sd n a).2.2 g' ∧ fr2 k g g') := by
  refine Ki.of (cc := cX3_addDrawn) (maxL := 7) hi (by decide) rfl (Nat.le_of_ble_eq_true rfl) ?_
  intro p e s m below meth c Q E RET ls hl
  obtain ⟨C0, FX, hH⟩ := E
  have hx := C0.1
  have hb := C0.2.1
  have kl25 := C0.2.2.2.2 (.constantLong RX3 25 (lN 100)) (by decide +kernel)
  have kl27 := C0.2.2.2.2 (.constantLong RX3 27 (lN 10000)) (by decide +kernel)
  have kiX3 : ∀ w ∈ u_ws RX3 TX3 2, w ∈ wsX3_addDrawn := (by decide +kernel)
  have kf11 : Cond.fieldLink RX3 11 "YarnMill$Row" "cells" "[I" ∈ wsX3_addDrawn := (by decide +kernel)
  have kf21 : Cond.fieldLink RX3 21 "YarnMill$Row" "size" "I" ∈ wsX3_addDrawn := (by decide +kernel)
  have kc29 := C0.2.2.2.2 (.constant RX3 29 (nI 1103515245)) (by decide +kernel)
  have kc30 := C0.2.2.2.2 (.constant RX3 30 (nI 2147483647)) (by decide +kernel)
  have kc31 := C0.2.2.2.2 (.constant RX3 31 (nI 65536)) (by decide +kernel)
  have hl : lv_has ls 7 [(0, .ref (ad k)), (1, .int nn), (2, .int mm), (3, .int ww), (4, .int sd)] := hl
  have fr : ∀ j, j ≠ k → j ≠ (k + 1) → g j = g j := fun j _ _ => rfl
  obtain ⟨x, fk, fc, hxa, hn, hab⟩ := hR
  refine lv_iload_n hx hb dX3_addDrawn_0 rfl (lv_at hl 1 rfl) ?_
  refine lv_i2l hx hb dX3_addDrawn_1 rfl ?_
  refine lv_lconst (v := lN 1) hx hb dX3_addDrawn_2 (by decide) ?_
  refine lv_ldc2 hx hb C0.2.2.2.1 kl25 dX3_addDrawn_3 ?_
  refine rc_Ni (rest := []) C0 FX hH (k_X5_within_rng l X ad hi _ nn 1 100 (by omega) (by omega)) ⟨va_cnB 3 C0.2.2.2.2 gX3_addDrawn_X5_within_n17 rfl rfl rfl (FX.1.2 (RX3, 17, yX5_within) (by decide +kernel)) (C0.2.2.2.2 (.initialized RX5) (by decide +kernel)) (by decide +kernel) ⟨Nat.le_of_ble_eq_true rfl, Nat.le_of_ble_eq_true rfl⟩, C0.2.2.2.2 (.static yX5_within) (by decide +kernel), trivial⟩ rfl rfl hl.1 (Nat.le_of_ble_eq_true rfl) dX3_addDrawn_6 ⟨Nat.le_of_ble_eq_true rfl, Nat.le_of_ble_eq_true rfl⟩ (fun r6 g6c H locs h6 hH => ?_)
  obtain ⟨e6, rfl⟩ := h6
  rw [e6] at hH
  refine rb_eq hx hb 40 dX3_addDrawn_9 (by decide) (fun c9 => ?_) (fun c9 => ?_)
  · refine lv_bipush (v := (-2)) hx hb dX3_addDrawn_40 (by decide) ?_
    refine RET _ _ _ _ _ _ dX3_addDrawn_42 rfl ?_ hH
    exact post3 (by unfold sp_draw; rw [if_neg (fun z => by first | exact absurd z.1 (by assumption) | exact absurd z.2.1 (by assumption) | exact absurd z.2.2.2 (by assumption) | (have z3 := z.2.2.1; rw [tN_nI (by omega)] at z3; exact absurd z3 (by assumption)))]) ⟨x, fk, fc, hxa, hn, hab⟩ fr
  · obtain ⟨nv, rfl, nv1, nv2, nv3⟩ := rng_nI c9
    refine lv_iload_n hx hb dX3_addDrawn_12 rfl (lv_at hl 2 rfl) ?_
    refine lv_i2l hx hb dX3_addDrawn_13 rfl ?_
    refine lv_lconst (v := lN 0) hx hb dX3_addDrawn_14 (by decide) ?_
    refine lv_ldc2 hx hb C0.2.2.2.1 kl27 dX3_addDrawn_15 ?_
    refine rc_Ni (rest := []) C0 FX hH (k_X5_within_rng l X ad hi _ mm 0 10000 (by omega) (by omega)) ⟨va_cnB 3 C0.2.2.2.2 gX3_addDrawn_X5_within_n17 rfl rfl rfl (FX.1.2 (RX3, 17, yX5_within) (by decide +kernel)) (C0.2.2.2.2 (.initialized RX5) (by decide +kernel)) (by decide +kernel) ⟨Nat.le_of_ble_eq_true rfl, Nat.le_of_ble_eq_true rfl⟩, C0.2.2.2.2 (.static yX5_within) (by decide +kernel), trivial⟩ rfl rfl hl.1 (Nat.le_of_ble_eq_true rfl) dX3_addDrawn_18 ⟨Nat.le_of_ble_eq_true rfl, Nat.le_of_ble_eq_true rfl⟩ (fun r18 g18c H locs h18 hH => ?_)
    obtain ⟨e18, rfl⟩ := h18
    rw [e18] at hH
    refine rb_eq hx hb 40 dX3_addDrawn_21 (by decide) (fun c21 => ?_) (fun c21 => ?_)
    · refine lv_bipush (v := (-2)) hx hb dX3_addDrawn_40 (by decide) ?_
      refine RET _ _ _ _ _ _ dX3_addDrawn_42 rfl ?_ hH
      exact post3 (by unfold sp_draw; rw [if_neg (fun z => by first | exact absurd z.1 (by assumption) | exact absurd z.2.1 (by assumption) | exact absurd z.2.2.2 (by assumption) | (have z3 := z.2.2.1; rw [tN_nI (by omega)] at z3; exact absurd z3 (by assumption)))]) ⟨x, fk, fc, hxa, hn, hab⟩ fr
    · obtain ⟨mv, rfl, mv1, mv2, mv3⟩ := rng_nI c21
      refine lv_iload_n hx hb dX3_addDrawn_24 rfl (lv_at hl 3 rfl) ?_
      refine lv_i2l hx hb dX3_addDrawn_25 rfl ?_
      refine lv_lconst (v := lN 0) hx hb dX3_addDrawn_26 (by decide) ?_
      refine lv_iload_n hx hb dX3_addDrawn_27 rfl (lv_at hl 2 rfl) ?_
      refine ni_i2l hx hb (by omega) dX3_addDrawn_28 ?_
      refine rc_Ni (rest := []) C0 FX hH (k_X5_within_rng l X ad hi _ ww 0 mv (by omega) (by omega)) ⟨va_cnB 3 C0.2.2.2.2 gX3_addDrawn_X5_within_n17 rfl rfl rfl (FX.1.2 (RX3, 17, yX5_within) (by decide +kernel)) (C0.2.2.2.2 (.initialized RX5) (by decide +kernel)) (by decide +kernel) ⟨Nat.le_of_ble_eq_true rfl, Nat.le_of_ble_eq_true rfl⟩, C0.2.2.2.2 (.static yX5_within) (by decide +kernel), trivial⟩ rfl rfl hl.1 (Nat.le_of_ble_eq_true rfl) dX3_addDrawn_29 ⟨Nat.le_of_ble_eq_true rfl, Nat.le_of_ble_eq_true rfl⟩ (fun r29 g29c H locs h29 hH => ?_)
      obtain ⟨e29, rfl⟩ := h29
      rw [e29] at hH
      refine rb_eq hx hb 40 dX3_addDrawn_32 (by decide) (fun c32 => ?_) (fun c32 => ?_)
      · refine lv_bipush (v := (-2)) hx hb dX3_addDrawn_40 (by decide) ?_
        refine RET _ _ _ _ _ _ dX3_addDrawn_42 rfl ?_ hH
        exact post3 (by unfold sp_draw; rw [if_neg (fun z => by first | exact absurd z.1 (by assumption) | exact absurd z.2.1 (by assumption) | exact absurd z.2.2.2 (by assumption) | (have z3 := z.2.2.1; rw [tN_nI (by omega)] at z3; exact absurd z3 (by assumption)))]) ⟨x, fk, fc, hxa, hn, hab⟩ fr
      · obtain ⟨wv, rfl, wv1, wv2, wv3⟩ := rng_nI c32
        refine lv_iload hx hb dX3_addDrawn_35 (lv_at hl 4 rfl) ?_
        refine lv_if_ge (tgt := 43) hx hb dX3_addDrawn_37 (by decide) (fun c37 => ?_) (fun c37 => ?_)
        · obtain ⟨sv, rfl, sv3⟩ := ge0_nI c37
          refine lv_aload_n hx hb dX3_addDrawn_43 rfl (lv_at hl 0 rfl) ?_
          refine rp_get C0 FX hH k (by omega) (ci := 3) (k := 0) fk rfl kiX3 (by decide) kf21 rfl dX3_addDrawn_44 ?_
          refine lv_iload_n hx hb dX3_addDrawn_47 rfl (lv_at hl 1 rfl) ?_
          refine ni_iadd hx hb dX3_addDrawn_48 ?_
          refine lv_sipush (v := nI 400) hx hb dX3_addDrawn_49 (by decide) ?_
          refine ni_cle hx hb 58 dX3_addDrawn_52 (by decide) (by omega) (by omega) (fun c52 => ?_) (fun c52 => ?_)
          · refine lv_iload hx hb dX3_addDrawn_58 (lv_at hl 4 rfl) ?_
            refine lv_istore (lv' := [(5, .int (nI sv)), (0, .ref (ad k)), (1, .int (nI nv)), (2, .int (nI mv)), (3, .int (nI wv)), (4, .int (nI sv))]) hx hb dX3_addDrawn_60 hl (by decide) rfl (fun ls hl => ?_)
            refine lv_iconst (v := nI 0) hx hb dX3_addDrawn_62 (by decide) ?_
            refine lv_istore (lv' := [(6, .int (nI 0)), (5, .int (nI sv)), (0, .ref (ad k)), (1, .int (nI nv)), (2, .int (nI mv)), (3, .int (nI wv)), (4, .int (nI sv))]) hx hb dX3_addDrawn_63 hl (by decide) rfl (fun ls hl => ?_)
            have L65 : ∀ (fu : Nat) (z : Nat) (i : Nat) (x9 : Nat → Nat) (g1 : PF) (H : Heap) (locs : List Loc) (ls : Array Slot), (i ≤ nv) → (z = lcg sv i) → (z < 2147483648) → (∀ j, j < n → x9 j = a j) → (∀ j, j < i → x9 (n + j) = dr mv wv sv j) → nv - i < fu → WH X 48 ad (pA 48 ad s.heap.size) s g1 H locs → g1 k = .inr (3, [.int (nI n), .ref (ad (k + 1))]) → g1 (k + 1) = arr X 400 x9 → (∀ j, j ≠ k → j ≠ (k + 1) → g1 j = g j) → lv_has ls 7 [(6, .int (nI i)), (5, .int (nI z)), (0, .ref (ad k)), (1, .int (nI nv)), (2, .int (nI mv)), (3, .int (nI wv)), (4, .int (nI sv))] → W p l e zr1 s m ([.ref (ad k), .int (nI nv), .int (nI mv), .int (nI wv), .int (nI sv)] : List Value).toArray below meth c H locs 0 0 Q (F0 m 65 ls []) := by
              intro fu
              induction fu with
              | zero =>
                intro z i x9 g1 H locs ls j1 j2 j3 j5 j6 hm
                exact absurd hm (Nat.not_lt_zero _)
              | succ fu ih =>
                have ih65 := ih; clear ih
                intro z i x9 g1 H locs ls j1 j2 j3 j5 j6 hm65 hH fk fc fr hl
                refine lv_iload hx hb dX3_addDrawn_65 (lv_at hl 0 rfl) ?_
                refine lv_iload_n hx hb dX3_addDrawn_67 rfl (lv_at hl 3 rfl) ?_
                refine ni_cge hx hb 118 dX3_addDrawn_68 (by decide) (by omega) (by omega) (fun c68 => ?_) (fun c68 => ?_)
                · refine lv_aload_n hx hb dX3_addDrawn_118 rfl (lv_at hl 2 rfl) ?_
                  refine lv_dup hx hb dX3_addDrawn_119 rfl ?_
                  refine rp_get C0 FX hH k (by omega) (ci := 3) (k := 0) fk rfl kiX3 (by decide) kf21 rfl dX3_addDrawn_120 ?_
                  refine lv_iload_n hx hb dX3_addDrawn_123 rfl (lv_at hl 3 rfl) ?_
                  refine ni_iadd hx hb dX3_addDrawn_124 ?_
                  refine rp_put C0 FX hH k (by omega) (ci := 3) (k := 0) tyX3 tyX3_ok nmX3 fk rfl kiX3 (by decide) kf21 rfl rfl rfl (Nat.le_of_ble_eq_true rfl) dX3_addDrawn_125 (fun g2 H locs eq3 nq3 hH => ?_)
                  have fk : g2 k = .inr (3, [.int (nI (n + nv)), .ref (ad (k + 1))]) := eq3
                  have fc : g2 (k + 1) = arr X 400 x9 := (nq3 _ (by omega)).trans fc
                  have fr : ∀ j, j ≠ k → j ≠ (k + 1) → g2 j = g j := fun j a0 a1 => (nq3 j (by omega)).trans (fr j a0 a1)
                  refine lv_aload_n hx hb dX3_addDrawn_128 rfl (lv_at hl 2 rfl) ?_
                  refine rp_get C0 FX hH k (by omega) (ci := 3) (k := 0) fk rfl kiX3 (by decide) kf21 rfl dX3_addDrawn_129 ?_
                  refine RET _ _ _ _ _ _ dX3_addDrawn_132 rfl ?_ hH
                  refine post3 (by unfold sp_draw; rw [if_pos ⟨(rng_iff (by omega)).mpr (by omega), (rng_iff (by omega)).mpr (by omega), (rng_iff (by omega)).mpr (by rw [tN_nI (by omega)]; omega), c37⟩, tN_nI (by omega), tN_nI (by omega), tN_nI (by omega), tN_nI (by omega), if_neg (by omega)]) ⟨x9, fk, fc, fun j hj => ?_, by omega, fun j hj => ?_⟩ fr
                  · rcases Nat.lt_or_ge j n with q | q
                    · rw [if_pos q]; exact j5 j q
                    · rw [if_neg (by omega), ← j6 (j - n) (by omega), show n + (j - n) = j by omega]
                  · rcases Nat.lt_or_ge j n with q | q
                    · rw [if_pos q]; exact hab j q
                    · rw [if_neg (by omega)]; unfold dr; have := Nat.mod_lt (lcg sv (j - n + 1) / 65536) (show 0 < 2 * wv + 1 by omega); omega
                · refine lv_iload hx hb dX3_addDrawn_71 (lv_at hl 1 rfl) ?_
                  refine lv_ldc hx hb C0.2.2.2.1 kc29 dX3_addDrawn_73 ?_
                  refine ni_imul hx hb dX3_addDrawn_75 ?_
                  refine lv_sipush (v := nI 12345) hx hb dX3_addDrawn_76 (by decide) ?_
                  refine ni_iadd hx hb dX3_addDrawn_79 ?_
                  refine lv_ldc hx hb C0.2.2.2.1 kc30 dX3_addDrawn_80 ?_
                  refine ni_mask31 hx hb dX3_addDrawn_82 ?_
                  refine lv_istore (lv' := [(5, .int (nI (((z * 1103515245) + 12345) % 2147483648))), (6, .int (nI i)), (0, .ref (ad k)), (1, .int (nI nv)), (2, .int (nI mv)), (3, .int (nI wv)), (4, .int (nI sv))]) hx hb dX3_addDrawn_83 hl (by decide) rfl (fun ls hl => ?_)
                  refine lv_aload_n hx hb dX3_addDrawn_85 rfl (lv_at hl 2 rfl) ?_
                  refine rp_get C0 FX hH k (by omega) (ci := 3) (k := 1) fk rfl kiX3 (by decide) kf11 rfl dX3_addDrawn_86 ?_
                  refine lv_aload_n hx hb dX3_addDrawn_89 rfl (lv_at hl 2 rfl) ?_
                  refine rp_get C0 FX hH k (by omega) (ci := 3) (k := 0) fk rfl kiX3 (by decide) kf21 rfl dX3_addDrawn_90 ?_
                  refine lv_iload hx hb dX3_addDrawn_93 (lv_at hl 1 rfl) ?_
                  refine ni_iadd hx hb dX3_addDrawn_95 ?_
                  refine lv_iload_n hx hb dX3_addDrawn_96 rfl (lv_at hl 4 rfl) ?_
                  refine lv_iload hx hb dX3_addDrawn_97 (lv_at hl 0 rfl) ?_
                  refine lv_ldc hx hb C0.2.2.2.1 kc31 dX3_addDrawn_99 ?_
                  refine ni_idiv hx hb (by omega) (by omega) (by omega) dX3_addDrawn_101 ?_
                  refine lv_iconst (v := nI 2) hx hb dX3_addDrawn_102 (by decide) ?_
                  refine lv_iload_n hx hb dX3_addDrawn_103 rfl (lv_at hl 5 rfl) ?_
                  refine ni_imul hx hb dX3_addDrawn_104 ?_
                  refine lv_iconst (v := nI 1) hx hb dX3_addDrawn_105 (by decide) ?_
                  refine ni_iadd hx hb dX3_addDrawn_106 ?_
                  refine ni_irem hx hb (by omega) (by omega) (by omega) dX3_addDrawn_107 ?_
                  refine ni_iadd hx hb dX3_addDrawn_108 ?_
                  refine lv_iload_n hx hb dX3_addDrawn_109 rfl (lv_at hl 5 rfl) ?_
                  refine ni_isub hx hb (by omega) dX3_addDrawn_110 ?_
                  refine rp_iast C0 FX hH (k + 1) (by omega) fc (n + i) ((mv + (((((z * 1103515245) + 12345) % 2147483648) / 65536) % ((2 * wv) + 1))) - wv) (by omega) (by decide) dX3_addDrawn_111 (fun g4 H locs eq5 nq5 hH => ?_)
                  have fc : g4 (k + 1) = arr X 400 (va_up x9 (n + i) ((mv + (((((z * 1103515245) + 12345) % 2147483648) / 65536) % ((2 * wv) + 1))) - wv)) := eq5
                  have fk : g4 k = .inr (3, [.int (nI n), .ref (ad (k + 1))]) := (nq5 _ (by omega)).trans fk
                  have fr : ∀ j, j ≠ k → j ≠ (k + 1) → g4 j = g j := fun j a0 a1 => (nq5 j (by omega)).trans (fr j a0 a1)
                  refine lv_iinc (v := nI (i + 1)) (lv' := [(6, .int (nI (i + 1))), (5, .int (nI (((z * 1103515245) + 12345) % 2147483648))), (0, .ref (ad k)), (1, .int (nI nv)), (2, .int (nI mv)), (3, .int (nI wv)), (4, .int (nI sv))]) hx hb dX3_addDrawn_112 hl (k := 1) rfl (ni_inc1 _) (by decide) rfl (fun ls hl => ?_)
                  refine lv_goto (tgt := 65) hx hb dX3_addDrawn_115 (by decide) ?_
                  exact ih65 (((z * 1103515245) + 12345) % 2147483648) (i + 1) (va_up x9 (n + i) ((mv + (((((z * 1103515245) + 12345) % 2147483648) / 65536) % ((2 * wv) + 1))) - wv)) _ _ _ ls (by omega) (by rw [j2]; rfl) (by omega) (fun j h => by rw [va_up_ne _ _ (by omega)]; exact j5 j h) (fun j h => by by_cases q : j = i; subst q; rw [va_up_self]; unfold dr; rw [j2]; rfl; rw [va_up_ne _ _ (by omega)]; exact j6 j (by omega)) (by omega) hH fk fc fr (lv_sub hl [0, 1, 2, 3, 4, 5, 6] rfl)
            exact L65 ((nv - 0) + 1) sv 0 x _ _ _ ls (by omega) (by rfl) (by omega) (hxa) (fun j h => absurd h (Nat.not_lt_zero _)) (Nat.lt_succ_self _) hH fk fc fr (lv_sub hl [0, 1, 2, 3, 4, 5, 6] rfl)
          · refine lv_bipush (v := (-4)) hx hb dX3_addDrawn_55 (by decide) ?_
            refine RET _ _ _ _ _ _ dX3_addDrawn_57 rfl ?_ hH
            exact post3 (by unfold sp_draw; rw [if_pos ⟨(rng_iff (by omega)).mpr (by omega), (rng_iff (by omega)).mpr (by omega), (rng_iff (by omega)).mpr (by rw [tN_nI (by omega)]; omega), c37⟩, tN_nI (by omega), if_pos (by omega)]) ⟨x, fk, fc, hxa, hn, hab⟩ fr
        · refine lv_bipush (v := (-2)) hx hb dX3_addDrawn_40 (by decide) ?_
          refine RET _ _ _ _ _ _ dX3_addDrawn_42 rfl ?_ hH
          exact post3 (by unfold sp_draw; rw [if_neg (fun z => by first | exact absurd z.1 (by assumption) | exact absurd z.2.1 (by assumption) | exact absurd z.2.2.2 (by assumption) | (have z3 := z.2.2.1; rw [tN_nI (by omega)] at z3; exact absurd z3 (by assumption)))]) ⟨x, fk, fc, hxa, hn, hab⟩ fr
end
section
set_option maxHeartbeats 4000000 in
set_option maxRecDepth 100000 in
theorem k_X3_faultBy (l : Launch) (X : Cx) (ad : Nat → Nat) (hi : inj 48 ad) (g : PF) (k : Nat) (hk : k + 1 < 48) (n : Nat) (a : Nat → Nat) (hR : rRow X ad k n a g) (p0 p1 : Int32) : Ki l yX3_faultBy wsX3_faultBy zr2 X 48 ad g [.ref (ad k), .int p0, .int p1] (fun r g' => r = (sp_fault p0 p1 n a).1 ∧ rRow X ad k (sp_fault p0 p1 n a).2.1 (sp_fault p0 p1 n a).2.2 g' ∧ fr2 k g g') := by
  refine Ki.of (cc := cX3_faultBy) (maxL := 8) hi (by decide) rfl (Nat.le_of_ble_eq_true rfl) ?_
  intro p e s m below meth c Q E RET ls hl
  obtain ⟨C0, FX, hH⟩ := E
  have hx := C0.1
  have hb := C0.2.1
  have kl33 := C0.2.2.2.2 (.constantLong RX3 33 (lN 2)) (by decide +kernel)
  have kl43 := C0.2.2.2.2 (.constantLong RX3 43 (lN 400)) (by decide +kernel)
  have kl45 := C0.2.2.2.2 (.constantLong RX3 45 (lN 1000)) (by decide +kernel)
  have kiX3 : ∀ w ∈ u_ws RX3 TX3 2, w ∈ wsX3_faultBy := (by decide +kernel)
  have kf11 : Cond.fieldLink RX3 11 "YarnMill$Row" "cells" "[I" ∈ wsX3_faultBy := (by decide +kernel)
  have kf21 : Cond.fieldLink RX3 21 "YarnMill$Row" "size" "I" ∈ wsX3_faultBy := (by decide +kernel)
  have kc32 := C0.2.2.2.2 (.constant RX3 32 (nI 1000000)) (by decide +kernel)
  have hl : lv_has ls 8 [(0, .ref (ad k)), (1, .int p0), (2, .int p1)] := hl
  have fr : ∀ j, j ≠ k → j ≠ (k + 1) → g j = g j := fun j _ _ => rfl
  obtain ⟨x, fk, fc, hxa, hn, hab⟩ := hR
  refine lv_iload_n hx hb dX3_faultBy_0 rfl (lv_at hl 1 rfl) ?_
  refine lv_i2l hx hb dX3_faultBy_1 rfl ?_
  refine lv_ldc2 hx hb C0.2.2.2.1 kl33 dX3_faultBy_2 ?_
  refine lv_ldc2 hx hb C0.2.2.2.1 kl43 dX3_faultBy_5 ?_
  refine rc_Ni (rest := []) C0 FX hH (k_X5_within_rng l X ad hi _ p0 2 400 (by omega) (by omega)) ⟨va_cnB 3 C0.2.2.2.2 gX3_faultBy_X5_within_n17 rfl rfl rfl (FX.1.2 (RX3, 17, yX5_within) (by decide +kernel)) (C0.2.2.2.2 (.initialized RX5) (by decide +kernel)) (by decide +kernel) ⟨Nat.le_of_ble_eq_true rfl, Nat.le_of_ble_eq_true rfl⟩, C0.2.2.2.2 (.static yX5_within) (by decide +kernel), trivial⟩ rfl rfl hl.1 (Nat.le_of_ble_eq_true rfl) dX3_faultBy_8 ⟨Nat.le_of_ble_eq_true rfl, Nat.le_of_ble_eq_true rfl⟩ (fun r8 g8c H locs h8 hH => ?_)
  obtain ⟨e8, rfl⟩ := h8
  rw [e8] at hH
  refine rb_eq hx hb 26 dX3_faultBy_11 (by decide) (fun c11 => ?_) (fun c11 => ?_)
  · refine lv_bipush (v := (-2)) hx hb dX3_faultBy_26 (by decide) ?_
    refine RET _ _ _ _ _ _ dX3_faultBy_28 rfl ?_ hH
    exact post3 (by unfold sp_fault; rw [if_neg (fun z => by first | exact absurd z.1 (by assumption) | exact absurd z.2 (by assumption))]) ⟨x, fk, fc, hxa, hn, hab⟩ fr
  · obtain ⟨w, rfl, w1, w2, w3⟩ := rng_nI c11
    refine lv_iload_n hx hb dX3_faultBy_14 rfl (lv_at hl 2 rfl) ?_
    refine lv_i2l hx hb dX3_faultBy_15 rfl ?_
    refine lv_lconst (v := lN 0) hx hb dX3_faultBy_16 (by decide) ?_
    refine lv_ldc2 hx hb C0.2.2.2.1 kl45 dX3_faultBy_17 ?_
    refine rc_Ni (rest := []) C0 FX hH (k_X5_within_rng l X ad hi _ p1 0 1000 (by omega) (by omega)) ⟨va_cnB 3 C0.2.2.2.2 gX3_faultBy_X5_within_n17 rfl rfl rfl (FX.1.2 (RX3, 17, yX5_within) (by decide +kernel)) (C0.2.2.2.2 (.initialized RX5) (by decide +kernel)) (by decide +kernel) ⟨Nat.le_of_ble_eq_true rfl, Nat.le_of_ble_eq_true rfl⟩, C0.2.2.2.2 (.static yX5_within) (by decide +kernel), trivial⟩ rfl rfl hl.1 (Nat.le_of_ble_eq_true rfl) dX3_faultBy_20 ⟨Nat.le_of_ble_eq_true rfl, Nat.le_of_ble_eq_true rfl⟩ (fun r20 g20c H locs h20 hH => ?_)
    obtain ⟨e20, rfl⟩ := h20
    rw [e20] at hH
    refine rb_ne hx hb 29 dX3_faultBy_23 (by decide) (fun c23 => ?_) (fun c23 => ?_)
    · obtain ⟨sz, rfl, sz1, sz2, sz3⟩ := rng_nI c23
      have hdm := Nat.div_mul_le_self n w
      refine lv_iload_n hx hb dX3_faultBy_29 rfl (lv_at hl 1 rfl) ?_
      refine lv_iconst (v := nI 2) hx hb dX3_faultBy_30 (by decide) ?_
      refine ni_idiv hx hb (by omega) (by omega) (by omega) dX3_faultBy_31 ?_
      refine lv_istore_n (lv' := [(3, .int (nI (w / 2))), (0, .ref (ad k)), (1, .int (nI w)), (2, .int (nI sz))]) hx hb dX3_faultBy_32 rfl hl (by decide) rfl (fun ls hl => ?_)
      refine lv_iconst (v := nI 0) hx hb dX3_faultBy_33 (by decide) ?_
      refine lv_istore (lv' := [(4, .int (nI 0)), (3, .int (nI (w / 2))), (0, .ref (ad k)), (1, .int (nI w)), (2, .int (nI sz))]) hx hb dX3_faultBy_34 hl (by decide) rfl (fun ls hl => ?_)
      have L36 : ∀ (fu : Nat) (t : Nat) (q : Nat) (H : Heap) (locs : List Loc) (ls : Array Slot), (t = q * w) → (t ≤ n) → (q ≤ n / w) → (∀ r, r < q → ∀ i, i < w / 2 → a (r * w + i + w / 2) + gvn a sz (r * w + i) ≤ 1000000) → n - t < fu → WH X 48 ad (pA 48 ad s.heap.size) s g H locs → lv_has ls 8 [(4, .int (nI t)), (3, .int (nI (w / 2))), (0, .ref (ad k)), (1, .int (nI w)), (2, .int (nI sz))] → W p l e zr2 s m ([.ref (ad k), .int (nI w), .int (nI sz)] : List Value).toArray below meth c H locs 0 0 Q (F0 m 36 ls []) := by
        intro fu
        induction fu with
        | zero =>
          intro t q H locs ls j1 j4 j2 j3 hm
          exact absurd hm (Nat.not_lt_zero _)
        | succ fu ih =>
          have ih36 := ih; clear ih
          intro t q H locs ls j1 j4 j2 j3 hm36 hH hl
          refine lv_iload hx hb dX3_faultBy_36 (lv_at hl 0 rfl) ?_
          refine lv_iload_n hx hb dX3_faultBy_38 rfl (lv_at hl 3 rfl) ?_
          refine ni_iadd hx hb dX3_faultBy_39 ?_
          refine lv_aload_n hx hb dX3_faultBy_40 rfl (lv_at hl 2 rfl) ?_
          refine rp_get C0 FX hH k (by omega) (ci := 3) (k := 0) fk rfl kiX3 (by decide) kf21 rfl dX3_faultBy_41 ?_
          refine ni_cgt hx hb 100 dX3_faultBy_44 (by decide) (by omega) (by omega) (fun c44 => ?_) (fun c44 => ?_)
          · have hqe : q = n / w := Nat.le_antisymm j2 (Nat.le_of_not_lt (fun z => by have z2 := (Nat.le_div_iff_mul_le (show 0 < w by omega)).mp (show q + 1 ≤ n / w from z); rw [Nat.succ_mul] at z2; omega))
            have hFC : fltC n a w sz := fun r h i hi => j3 r (by omega) i hi
            refine lv_iconst (v := nI 0) hx hb dX3_faultBy_100 (by decide) ?_
            refine lv_istore (lv' := [(4, .int (nI 0)), (3, .int (nI (w / 2))), (0, .ref (ad k)), (1, .int (nI w)), (2, .int (nI sz))]) hx hb dX3_faultBy_101 hl (by decide) rfl (fun ls hl => ?_)
            refine lv_iconst (v := nI 0) hx hb dX3_faultBy_103 (by decide) ?_
            refine lv_istore (lv' := [(5, .int (nI 0)), (4, .int (nI 0)), (3, .int (nI (w / 2))), (0, .ref (ad k)), (1, .int (nI w)), (2, .int (nI sz))]) hx hb dX3_faultBy_104 hl (by decide) rfl (fun ls hl => ?_)
            have L106 : ∀ (fu : Nat) (T : Nat) (t : Nat) (q : Nat) (x9 : Nat → Nat) (g1 : PF) (H : Heap) (locs : List Loc) (ls : Array Slot), (t = q * w) → (t ≤ n) → (q ≤ n / w) → (T = fltS n a w sz q) → (∀ j, j < n → x9 j = if j < t then flt n a w sz j else a j) → n - t < fu → WH X 48 ad (pA 48 ad s.heap.size) s g1 H locs → g1 k = .inr (3, [.int (nI n), .ref (ad (k + 1))]) → g1 (k + 1) = arr X 400 x9 → (∀ j, j ≠ k → j ≠ (k + 1) → g1 j = g j) → lv_has ls 8 [(5, .int (nI t)), (4, .int (nI T)), (3, .int (nI (w / 2))), (0, .ref (ad k)), (1, .int (nI w)), (2, .int (nI sz))] → W p l e zr2 s m ([.ref (ad k), .int (nI w), .int (nI sz)] : List Value).toArray below meth c H locs 0 0 Q (F0 m 106 ls []) := by
              intro fu
              induction fu with
              | zero =>
                intro T t q x9 g1 H locs ls j1 j4 j2 j3 j5 hm
                exact absurd hm (Nat.not_lt_zero _)
              | succ fu ih =>
                have ih106 := ih; clear ih
                intro T t q x9 g1 H locs ls j1 j4 j2 j3 j5 hm106 hH fk fc fr hl
                refine lv_iload hx hb dX3_faultBy_106 (lv_at hl 0 rfl) ?_
                refine lv_iload_n hx hb dX3_faultBy_108 rfl (lv_at hl 4 rfl) ?_
                refine ni_iadd hx hb dX3_faultBy_109 ?_
                refine lv_aload_n hx hb dX3_faultBy_110 rfl (lv_at hl 3 rfl) ?_
                refine rp_get C0 FX hH k (by omega) (ci := 3) (k := 0) fk rfl kiX3 (by decide) kf21 rfl dX3_faultBy_111 ?_
                refine ni_cgt hx hb 187 dX3_faultBy_114 (by decide) (by omega) (by omega) (fun c114 => ?_) (fun c114 => ?_)
                · have hqe2 : q = n / w := Nat.le_antisymm j2 (Nat.le_of_not_lt (fun z => by have z2 := (Nat.le_div_iff_mul_le (show 0 < w by omega)).mp (show q + 1 ≤ n / w from z); rw [Nat.succ_mul] at z2; omega))
                  refine lv_iload hx hb dX3_faultBy_187 (lv_at hl 1 rfl) ?_
                  refine RET _ _ _ _ _ _ dX3_faultBy_189 rfl ?_ hH
                  exact post3 (by unfold sp_fault; rw [if_pos ⟨(rng_iff (by omega)).mpr (by omega), (rng_iff (by omega)).mpr (by omega)⟩, tN_nI (by omega), tN_nI (by omega), if_pos hFC, j3, hqe2]) ⟨x9, fk, fc, fun j hj => by rw [j5 j hj]; split; rfl; exact (flt_out (by omega) (by rw [← hqe2]; omega)).symm, hn, flt_le (by omega) hFC hab⟩ fr
                · have hq1 : q + 1 ≤ n / w := (Nat.le_div_iff_mul_le (by omega)).mpr (by rw [Nat.succ_mul]; omega)
                  refine lv_iload hx hb dX3_faultBy_117 (lv_at hl 0 rfl) ?_
                  refine lv_istore (lv' := [(6, .int (nI t)), (5, .int (nI t)), (4, .int (nI T)), (3, .int (nI (w / 2))), (0, .ref (ad k)), (1, .int (nI w)), (2, .int (nI sz))]) hx hb dX3_faultBy_119 hl (by decide) rfl (fun ls hl => ?_)
                  have L121 : ∀ (fu : Nat) (T : Nat) (u : Nat) (x8 : Nat → Nat) (g2 : PF) (H : Heap) (locs : List Loc) (ls : Array Slot), (t ≤ u) → (u ≤ t + w / 2) → (T = fltS n a w sz q + sm (fun i => gvn a sz (q * w + i)) (u - t)) → (∀ j, j < n → x8 j = if j < t then flt n a w sz j else if j < u ∨ (t + w / 2 ≤ j ∧ j < u + w / 2) then flt n a w sz j else a j) → t + w / 2 - u < fu → WH X 48 ad (pA 48 ad s.heap.size) s g2 H locs → g2 k = .inr (3, [.int (nI n), .ref (ad (k + 1))]) → g2 (k + 1) = arr X 400 x8 → (∀ j, j ≠ k → j ≠ (k + 1) → g2 j = g j) → lv_has ls 8 [(6, .int (nI u)), (5, .int (nI t)), (4, .int (nI T)), (3, .int (nI (w / 2))), (0, .ref (ad k)), (1, .int (nI w)), (2, .int (nI sz))] → W p l e zr2 s m ([.ref (ad k), .int (nI w), .int (nI sz)] : List Value).toArray below meth c H locs 0 0 Q (F0 m 121 ls []) := by
                    intro fu
                    induction fu with
                    | zero =>
                      intro T u x8 g2 H locs ls m1 m2 m4 m5 hm
                      exact absurd hm (Nat.not_lt_zero _)
                    | succ fu ih =>
                      have ih121 := ih; clear ih
                      intro T u x8 g2 H locs ls m1 m2 m4 m5 hm121 hH fk fc fr hl
                      refine lv_iload hx hb dX3_faultBy_121 (lv_at hl 0 rfl) ?_
                      refine lv_iload hx hb dX3_faultBy_123 (lv_at hl 1 rfl) ?_
                      refine lv_iload_n hx hb dX3_faultBy_125 rfl (lv_at hl 3 rfl) ?_
                      refine ni_iadd hx hb dX3_faultBy_126 ?_
                      refine ni_cge hx hb 178 dX3_faultBy_127 (by decide) (by omega) (by omega) (fun c127 => ?_) (fun c127 => ?_)
                      · refine lv_iload hx hb dX3_faultBy_178 (lv_at hl 1 rfl) ?_
                        refine lv_iload_n hx hb dX3_faultBy_180 rfl (lv_at hl 5 rfl) ?_
                        refine ni_iadd hx hb dX3_faultBy_181 ?_
                        refine lv_istore (lv' := [(5, .int (nI (t + w))), (6, .int (nI u)), (4, .int (nI T)), (3, .int (nI (w / 2))), (0, .ref (ad k)), (1, .int (nI w)), (2, .int (nI sz))]) hx hb dX3_faultBy_182 hl (by decide) rfl (fun ls hl => ?_)
                        refine lv_goto (tgt := 106) hx hb dX3_faultBy_184 (by decide) ?_
                        exact ih106 T (t + w) (q + 1) x8 _ _ _ ls (by rw [Nat.succ_mul, j1]) (by omega) (hq1) (by rw [m4, show u - t = w / 2 by omega]; rfl) (flt_next j1 (by omega) m5) (by omega) hH fk fc fr (lv_sub hl [0, 2, 3, 4, 5, 6] rfl)
                      · have hxu : x8 u = a u := by rw [m5 u (by omega), if_neg (by omega), if_neg (by omega)]
                        have hxv : x8 (u + w / 2) = a (u + w / 2) := by rw [m5 (u + w / 2) (by omega), if_neg (by omega), if_neg (by omega)]
                        have hxu9 : ∀ j, j = u → x8 j = a j := fun j h => by rw [h]; exact hxu
                        have hb8 : ∀ j, j < n → x8 j ≤ 1000000 := fun j hj => by rw [m5 j hj]; split; exact flt_le (by omega) hFC hab j hj; split; exact flt_le (by omega) hFC hab j hj; exact hab j hj
                        have hgu : a u * sz / 1000 ≤ a u := gvn_le (a := a) (j := u) sz2
                        refine lv_aload_n hx hb dX3_faultBy_130 rfl (lv_at hl 4 rfl) ?_
                        refine lv_iload hx hb dX3_faultBy_131 (lv_at hl 0 rfl) ?_
                        refine lv_iload_n hx hb dX3_faultBy_133 rfl (lv_at hl 6 rfl) ?_
                        refine rc_Vi (rest := []) C0 FX hH k (by omega) fk rfl (k_X3_given l X ad hi _ k hk n x8 ⟨x8, fk, fc, fun j _ => rfl, hn, hb8⟩ u sz (by omega) (by omega)) (cwV 2 C0.2.2.2.2 gX3_faultBy_X3_given rfl rfl rfl (by decide +kernel) ⟨Nat.le_of_ble_eq_true rfl, Nat.le_of_ble_eq_true rfl⟩) rfl rfl hl.1 (Nat.le_of_ble_eq_true rfl) dX3_faultBy_134 ⟨Nat.le_of_ble_eq_true rfl, Nat.le_of_ble_eq_true rfl⟩ (fun r134 g134c H locs h134 hH => ?_)
                        obtain ⟨e134, rfl⟩ := h134
                        rw [e134] at hH
                        rw [hxu]
                        refine lv_istore (lv' := [(7, .int (nI (a u * sz / 1000))), (6, .int (nI u)), (5, .int (nI t)), (4, .int (nI T)), (3, .int (nI (w / 2))), (0, .ref (ad k)), (1, .int (nI w)), (2, .int (nI sz))]) hx hb dX3_faultBy_137 hl (by decide) rfl (fun ls hl => ?_)
                        refine lv_aload_n hx hb dX3_faultBy_139 rfl (lv_at hl 5 rfl) ?_
                        refine rp_get C0 FX hH k (by omega) (ci := 3) (k := 1) fk rfl kiX3 (by decide) kf11 rfl dX3_faultBy_140 ?_
                        refine lv_iload hx hb dX3_faultBy_143 (lv_at hl 1 rfl) ?_
                        refine lv_dup2_11 hx hb dX3_faultBy_145 rfl rfl ?_
                        refine rp_iald C0 FX hH (k + 1) (by omega) (v := a u) fc u (by omega) (by decide) (hxu9 _ rfl) dX3_faultBy_146 ?_
                        refine lv_iload hx hb dX3_faultBy_147 (lv_at hl 0 rfl) ?_
                        refine ni_isub hx hb (by omega) dX3_faultBy_149 ?_
                        refine rp_iast C0 FX hH (k + 1) (by omega) fc u ((a u) - (a u * sz / 1000)) (by omega) (by decide) dX3_faultBy_150 (fun g3 H locs eq4 nq4 hH => ?_)
                        have fc : g3 (k + 1) = arr X 400 (va_up x8 u ((a u) - (a u * sz / 1000))) := eq4
                        have fk : g3 k = .inr (3, [.int (nI n), .ref (ad (k + 1))]) := (nq4 _ (by omega)).trans fk
                        have fr : ∀ j, j ≠ k → j ≠ (k + 1) → g3 j = g j := fun j a0 a1 => (nq4 j (by omega)).trans (fr j a0 a1)
                        have hy150 : ∀ j, j = u + w / 2 → (va_up x8 u ((a u) - (a u * sz / 1000))) j = a j := fun j h => by rw [h, va_up_ne _ _ (by omega)]; exact hxv
                        refine lv_aload_n hx hb dX3_faultBy_151 rfl (lv_at hl 5 rfl) ?_
                        refine rp_get C0 FX hH k (by omega) (ci := 3) (k := 1) fk rfl kiX3 (by decide) kf11 rfl dX3_faultBy_152 ?_
                        refine lv_iload hx hb dX3_faultBy_155 (lv_at hl 1 rfl) ?_
                        refine lv_iload_n hx hb dX3_faultBy_157 rfl (lv_at hl 4 rfl) ?_
                        refine ni_iadd hx hb dX3_faultBy_158 ?_
                        refine lv_dup2_11 hx hb dX3_faultBy_159 rfl rfl ?_
                        refine rp_iald C0 FX hH (k + 1) (by omega) (v := a (u + (w / 2))) fc (u + (w / 2)) (by omega) (by decide) (hy150 _ rfl) dX3_faultBy_160 ?_
                        refine lv_iload hx hb dX3_faultBy_161 (lv_at hl 0 rfl) ?_
                        refine ni_iadd hx hb dX3_faultBy_163 ?_
                        refine rp_iast C0 FX hH (k + 1) (by omega) fc (u + (w / 2)) ((a (u + (w / 2))) + (a u * sz / 1000)) (by omega) (by decide) dX3_faultBy_164 (fun g5 H locs eq6 nq6 hH => ?_)
                        have fc : g5 (k + 1) = arr X 400 (va_up (va_up x8 u ((a u) - (a u * sz / 1000))) (u + (w / 2)) ((a (u + (w / 2))) + (a u * sz / 1000))) := eq6
                        have fk : g5 k = .inr (3, [.int (nI n), .ref (ad (k + 1))]) := (nq6 _ (by omega)).trans fk
                        have fr : ∀ j, j ≠ k → j ≠ (k + 1) → g5 j = g j := fun j a0 a1 => (nq6 j (by omega)).trans (fr j a0 a1)
                        refine lv_iload hx hb dX3_faultBy_165 (lv_at hl 3 rfl) ?_
                        refine lv_iload hx hb dX3_faultBy_167 (lv_at hl 0 rfl) ?_
                        refine ni_iadd hx hb dX3_faultBy_169 ?_
                        refine lv_istore (lv' := [(4, .int (nI (T + (a u * sz / 1000)))), (7, .int (nI (a u * sz / 1000))), (6, .int (nI u)), (5, .int (nI t)), (3, .int (nI (w / 2))), (0, .ref (ad k)), (1, .int (nI w)), (2, .int (nI sz))]) hx hb dX3_faultBy_170 hl (by decide) rfl (fun ls hl => ?_)
                        refine lv_iinc (v := nI (u + 1)) (lv' := [(6, .int (nI (u + 1))), (4, .int (nI (T + (a u * sz / 1000)))), (7, .int (nI (a u * sz / 1000))), (5, .int (nI t)), (3, .int (nI (w / 2))), (0, .ref (ad k)), (1, .int (nI w)), (2, .int (nI sz))]) hx hb dX3_faultBy_172 hl (k := 2) rfl (ni_inc1 _) (by decide) rfl (fun ls hl => ?_)
                        refine lv_goto (tgt := 121) hx hb dX3_faultBy_175 (by decide) ?_
                        exact ih121 (T + (a u * sz / 1000)) (u + 1) (va_up (va_up x8 u ((a u) - (a u * sz / 1000))) (u + (w / 2)) ((a (u + (w / 2))) + (a u * sz / 1000))) _ _ _ ls (by omega) (by omega) (by rw [m4, sm_up m1, show q * w + (u - t) = u by omega, Nat.add_assoc]; rfl) (flt_step j1 hq1 m1 c127 m5) (by omega) hH fk fc fr (lv_sub hl [0, 3, 1, 4, 5, 6, 7] rfl)
                  exact L121 ((t + w / 2 - t) + 1) T t x9 _ _ _ ls (by omega) (by omega) (by rw [j3, Nat.sub_self]; rfl) (fun j h => by rw [j5 j h]; by_cases z : j < t; rw [if_pos z, if_pos z]; rw [if_neg z, if_neg z, if_neg (by omega)]) (Nat.lt_succ_self _) hH fk fc fr (lv_sub hl [0, 1, 2, 3, 4, 5, 6] rfl)
            exact L106 ((n - 0) + 1) 0 0 0 x _ _ _ ls (by rw [Nat.zero_mul]) (by omega) (Nat.zero_le _) (by rfl) (fun j h => by rw [if_neg (by omega)]; exact hxa j h) (Nat.lt_succ_self _) hH fk fc fr (lv_sub hl [0, 1, 2, 3, 4, 5] rfl)
          · have hq1 : q + 1 ≤ n / w := (Nat.le_div_iff_mul_le (by omega)).mpr (by rw [Nat.succ_mul]; omega)
            refine lv_iload hx hb dX3_faultBy_47 (lv_at hl 0 rfl) ?_
            refine lv_istore (lv' := [(5, .int (nI t)), (4, .int (nI t)), (3, .int (nI (w / 2))), (0, .ref (ad k)), (1, .int (nI w)), (2, .int (nI sz))]) hx hb dX3_faultBy_49 hl (by decide) rfl (fun ls hl => ?_)
            have L51 : ∀ (fu : Nat) (u : Nat) (H : Heap) (locs : List Loc) (ls : Array Slot), (t ≤ u) → (u ≤ t + w / 2) → (∀ i, i < u - t → a (t + i + w / 2) + gvn a sz (t + i) ≤ 1000000) → t + w / 2 - u < fu → WH X 48 ad (pA 48 ad s.heap.size) s g H locs → lv_has ls 8 [(5, .int (nI u)), (4, .int (nI t)), (3, .int (nI (w / 2))), (0, .ref (ad k)), (1, .int (nI w)), (2, .int (nI sz))] → W p l e zr2 s m ([.ref (ad k), .int (nI w), .int (nI sz)] : List Value).toArray below meth c H locs 0 0 Q (F0 m 51 ls []) := by
              intro fu
              induction fu with
              | zero =>
                intro u H locs ls m1 m2 m3 hm
                exact absurd hm (Nat.not_lt_zero _)
              | succ fu ih =>
                have ih51 := ih; clear ih
                intro u H locs ls m1 m2 m3 hm51 hH hl
                have hqu := hab u
                have hqv := hab (u + w / 2)
                refine lv_iload hx hb dX3_faultBy_51 (lv_at hl 0 rfl) ?_
                refine lv_iload hx hb dX3_faultBy_53 (lv_at hl 1 rfl) ?_
                refine lv_iload_n hx hb dX3_faultBy_55 rfl (lv_at hl 2 rfl) ?_
                refine ni_iadd hx hb dX3_faultBy_56 ?_
                refine ni_cge hx hb 91 dX3_faultBy_57 (by decide) (by omega) (by omega) (fun c57 => ?_) (fun c57 => ?_)
                · refine lv_iload hx hb dX3_faultBy_91 (lv_at hl 1 rfl) ?_
                  refine lv_iload_n hx hb dX3_faultBy_93 rfl (lv_at hl 4 rfl) ?_
                  refine ni_iadd hx hb dX3_faultBy_94 ?_
                  refine lv_istore (lv' := [(4, .int (nI (t + w))), (5, .int (nI u)), (3, .int (nI (w / 2))), (0, .ref (ad k)), (1, .int (nI w)), (2, .int (nI sz))]) hx hb dX3_faultBy_95 hl (by decide) rfl (fun ls hl => ?_)
                  refine lv_goto (tgt := 36) hx hb dX3_faultBy_97 (by decide) ?_
                  exact ih36 (t + w) (q + 1) _ _ ls (by rw [Nat.succ_mul, j1]) (by omega) (hq1) (fun r h i hi => by rcases Nat.lt_succ_iff_lt_or_eq.mp h with z | z; exact j3 r z i hi; subst z; rw [← j1]; exact m3 i (by omega)) (by omega) hH (lv_sub hl [0, 2, 3, 4, 5] rfl)
                · refine lv_aload_n hx hb dX3_faultBy_60 rfl (lv_at hl 3 rfl) ?_
                  refine rp_get C0 FX hH k (by omega) (ci := 3) (k := 1) fk rfl kiX3 (by decide) kf11 rfl dX3_faultBy_61 ?_
                  refine lv_iload hx hb dX3_faultBy_64 (lv_at hl 0 rfl) ?_
                  refine lv_iload_n hx hb dX3_faultBy_66 rfl (lv_at hl 2 rfl) ?_
                  refine ni_iadd hx hb dX3_faultBy_67 ?_
                  refine rp_iald C0 FX hH (k + 1) (by omega) (v := a (u + (w / 2))) fc (u + (w / 2)) (by omega) (by decide) (hxa _ (by omega)) dX3_faultBy_68 ?_
                  refine lv_aload_n hx hb dX3_faultBy_69 rfl (lv_at hl 3 rfl) ?_
                  refine lv_iload hx hb dX3_faultBy_70 (lv_at hl 0 rfl) ?_
                  refine lv_iload_n hx hb dX3_faultBy_72 rfl (lv_at hl 5 rfl) ?_
                  refine rc_Vi (rest := [.int (nI (a (u + (w / 2))))]) C0 FX hH k (by omega) fk rfl (k_X3_given l X ad hi _ k hk n a ⟨x, fk, fc, hxa, hn, hab⟩ u sz (by omega) (by omega)) (cwV 2 C0.2.2.2.2 gX3_faultBy_X3_given rfl rfl rfl (by decide +kernel) ⟨Nat.le_of_ble_eq_true rfl, Nat.le_of_ble_eq_true rfl⟩) rfl rfl hl.1 (Nat.le_of_ble_eq_true rfl) dX3_faultBy_73 ⟨Nat.le_of_ble_eq_true rfl, Nat.le_of_ble_eq_true rfl⟩ (fun r73 g73c H locs h73 hH => ?_)
                  obtain ⟨e73, rfl⟩ := h73
                  rw [e73] at hH
                  refine ni_iadd hx hb dX3_faultBy_76 ?_
                  refine lv_ldc hx hb C0.2.2.2.1 kc32 dX3_faultBy_77 ?_
                  refine ni_cle hx hb 85 dX3_faultBy_79 (by decide) (by have h1 : a u * sz / 1000 ≤ a u := gvn_le (a := a) (j := u) sz2; have h2 := hqu (by omega); have h3 := hqv (by omega); omega) (by omega) (fun c79 => ?_) (fun c79 => ?_)
                  · refine lv_iinc (v := nI (u + 1)) (lv' := [(5, .int (nI (u + 1))), (4, .int (nI t)), (3, .int (nI (w / 2))), (0, .ref (ad k)), (1, .int (nI w)), (2, .int (nI sz))]) hx hb dX3_faultBy_85 hl (k := 0) rfl (ni_inc1 _) (by decide) rfl (fun ls hl => ?_)
                    refine lv_goto (tgt := 51) hx hb dX3_faultBy_88 (by decide) ?_
                    exact ih51 (u + 1) _ _ ls (by omega) (by omega) (fun i h => by by_cases z : i = u - t; subst z; rw [show t + (u - t) = u by omega]; exact c79; exact m3 i (by omega)) (by omega) hH (lv_sub hl [0, 1, 2, 3, 4, 5] rfl)
                  · refine lv_bipush (v := (-6)) hx hb dX3_faultBy_82 (by decide) ?_
                    refine RET _ _ _ _ _ _ dX3_faultBy_84 rfl ?_ hH
                    exact post3 (by unfold sp_fault; rw [if_pos ⟨(rng_iff (by omega)).mpr (by omega), (rng_iff (by omega)).mpr (by omega)⟩, tN_nI (by omega), tN_nI (by omega), if_neg (fun z => by have z2 := z q hq1 (u - t) (by omega); rw [show q * w + (u - t) = u by omega] at z2; unfold gvn at z2; omega)]) ⟨x, fk, fc, hxa, hn, hab⟩ fr
            exact L51 ((t + w / 2 - t) + 1) t _ _ ls (by omega) (by omega) (fun i h => absurd h (by omega)) (Nat.lt_succ_self _) hH (lv_sub hl [0, 1, 2, 3, 4, 5] rfl)
      exact L36 ((n - 0) + 1) 0 0 _ _ ls (by rw [Nat.zero_mul]) (by omega) (Nat.zero_le _) (fun r h => absurd h (Nat.not_lt_zero _)) (Nat.lt_succ_self _) hH (lv_sub hl [0, 1, 2, 3, 4] rfl)
    · refine lv_bipush (v := (-2)) hx hb dX3_faultBy_26 (by decide) ?_
      refine RET _ _ _ _ _ _ dX3_faultBy_28 rfl ?_ hH
      exact post3 (by unfold sp_fault; rw [if_neg (fun z => by first | exact absurd z.1 (by assumption) | exact absurd z.2 (by assumption))]) ⟨x, fk, fc, hxa, hn, hab⟩ fr
end
section
/-- Fibonacci's numbers, two by two -/
def fbp : Nat → Nat × Nat
  | 0 => (0, 1)
  | k + 1 => match fbp k with
    | (a, b) => (b, a + b)
theorem fbp_s (k : Nat) : (fbp (k + 1)).1 = (fbp k).2 ∧ (fbp (k + 1)).2 = (fbp k).1 + (fbp k).2 := ⟨rfl, rfl⟩
theorem fbp_98 : 9223372036854775808 ≤ (fbp 99).1 := by decide +kernel
/-- Euclid's steps: at most k more -/
def euc (k x y : Nat) : Prop := y < x ∧ (y < (fbp k).1 ∨ x < (fbp k).2)
theorem euc_step {k x y : Nat} (h : euc (k + 1) x y) (hy : 0 < y) : euc k y (x % y) := by
  obtain ⟨h1, h2⟩ := h
  obtain ⟨e1, e2⟩ := fbp_s k
  rw [e1, e2] at h2
  have h3 := Nat.mod_lt x hy
  have h4 : x % y ≤ x - y := by
    rw [Nat.mod_eq_sub_mod (by omega)]
    exact Nat.mod_le _ _
  refine ⟨h3, ?_⟩
  rcases Nat.lt_or_ge y (fbp k).2 with q | q
  · exact Or.inr q
  · left; omega
theorem euc_0 {x y : Nat} (h : euc 0 x y) : False := by
  obtain ⟨h1, h2⟩ := h
  have e : fbp 0 = (0, 1) := rfl
  rw [e] at h2
  simp only at h2
  omega
/-- lowest terms -/
def lt2 (a b : Nat) : Nat × Nat := (a / Nat.gcd a b, b / Nat.gcd a b)
theorem lt2_pos {a b : Nat} (ha : 0 < a) (hb : 0 < b) : 0 < (lt2 a b).1 ∧ 0 < (lt2 a b).2 := by
  have h := Nat.gcd_pos_of_pos_left b ha
  exact ⟨Nat.div_pos (Nat.gcd_le_left b ha) h, Nat.div_pos (Nat.gcd_le_right a hb) h⟩
theorem lt2_le (a b : Nat) : (lt2 a b).1 ≤ a ∧ (lt2 a b).2 ≤ b := ⟨Nat.div_le_self _ _, Nat.div_le_self _ _⟩
theorem lt2_one {a b : Nat} (h : Nat.gcd a b = 1) : lt2 a b = (a, b) := by unfold lt2; rw [h, Nat.div_one, Nat.div_one]
def frac (ad : Nat → Nat) (k a b : Nat) (g : PF) : Prop := g k = .inr (0, [.long (lN a), .long (lN b)])
def fr1 (k : Nat) (g g' : PF) : Prop := ∀ j, j ≠ k → g' j = g j
end
section
set_option maxHeartbeats 4000000 in
set_option maxRecDepth 100000 in
theorem k_X0_commonDivisor (l : Launch) (X : Cx) (ad : Nat → Nat) (hi : inj 48 ad) (g : PF) (u v : Nat) (hu : u < 2 ^ 63) (hv : v < 2 ^ 63) : Kl l yX0_commonDivisor wsX0_commonDivisor zr0 X 48 ad g [.long (lN u), .long (lN v)] (fun r g' => g' = g ∧ r = lN (Nat.gcd u v)) := by
  refine Kl.of (cc := cX0_commonDivisor) (maxL := 11) hi (by decide) rfl (Nat.le_of_ble_eq_true rfl) ?_
  intro p e s m below meth c Q E RET ls hl
  obtain ⟨C0, FX, hH⟩ := E
  have hx := C0.1
  have hb := C0.2.1
  have hl : lv_has ls 11 [(0, .long (lN u)), (2, .long (lN v))] := hl
  refine lv_lload_n hx hb dX0_commonDivisor_0 rfl (lv_at hl 0 rfl) ?_
  refine lv_lstore (lv' := [(4, .long (lN u)), (0, .long (lN u)), (2, .long (lN v))]) hx hb dX0_commonDivisor_1 hl (by decide) rfl (fun ls hl => ?_)
  refine lv_lload_n hx hb dX0_commonDivisor_3 rfl (lv_at hl 2 rfl) ?_
  refine lv_lstore (lv' := [(6, .long (lN v)), (4, .long (lN u)), (0, .long (lN u)), (2, .long (lN v))]) hx hb dX0_commonDivisor_4 hl (by decide) rfl (fun ls hl => ?_)
  refine lv_iconst (v := nI 0) hx hb dX0_commonDivisor_6 (by decide) ?_
  refine lv_istore (lv' := [(8, .int (nI 0)), (6, .long (lN v)), (4, .long (lN u)), (0, .long (lN u)), (2, .long (lN v))]) hx hb dX0_commonDivisor_7 hl (by decide) rfl (fun ls hl => ?_)
  have L9 : ∀ (fu : Nat) (x : Nat) (y : Nat) (i : Nat) (ls : Array Slot), (i ≤ 100) → (Nat.gcd x y = Nat.gcd u v) → (x < 2 ^ 63 ∧ y < 2 ^ 63) → (i = 0 ∨ euc (100 - i) x y) → 101 - i < fu → lv_has ls 11 [(8, .int (nI i)), (6, .long (lN y)), (4, .long (lN x)), (0, .long (lN u)), (2, .long (lN v))] → W p l e zr0 s m ([.long (lN u), .long (lN v)] : List Value).toArray below meth c s.heap [] 0 0 Q (F0 m 9 ls []) := by
    intro fu
    induction fu with
    | zero =>
      intro x y i  ls i1 i2 i3 i4 hm
      exact absurd hm (Nat.not_lt_zero _)
    | succ fu ih =>
      have ih9 := ih; clear ih
      intro x y i  ls i1 i2 i3 i4 hm9  hl
      refine lv_iload hx hb dX0_commonDivisor_9 (lv_at hl 0 rfl) ?_
      refine lv_bipush (v := nI 100) hx hb dX0_commonDivisor_11 (by decide) ?_
      refine ni_cge hx hb 44 dX0_commonDivisor_13 (by decide) (by omega) (by omega) (fun c13 => ?_) (fun c13 => ?_)
      · refine lv_lload hx hb dX0_commonDivisor_44 (lv_at hl 2 rfl) ?_
        refine RET _ _ _ _ _ _ dX0_commonDivisor_46 ?_ hH
        refine ⟨rfl, ?_⟩
        rcases i4 with z | z
        · omega
        · rw [show 100 - i = 0 by omega] at z; exact absurd z euc_0
      · refine lv_lload hx hb dX0_commonDivisor_16 (lv_at hl 1 rfl) ?_
        refine lv_lconst (v := lN 0) hx hb dX0_commonDivisor_18 (by decide) ?_
        refine nl_eq hx hb 44 dX0_commonDivisor_19 dX0_commonDivisor_20 (by decide) i3.2 (by omega) (fun c19 => ?_) (fun c19 => ?_)
        · refine lv_lload hx hb dX0_commonDivisor_44 (lv_at hl 2 rfl) ?_
          refine RET _ _ _ _ _ _ dX0_commonDivisor_46 ?_ hH
          refine ⟨rfl, ?_⟩
          rw [← i2, c19, Nat.gcd_zero_right]
        · have c19 : 0 < y := by omega
          refine lv_lload hx hb dX0_commonDivisor_23 (lv_at hl 2 rfl) ?_
          refine lv_lload hx hb dX0_commonDivisor_25 (lv_at hl 1 rfl) ?_
          refine ni_lrem hx hb i3.1 (by omega) i3.2 dX0_commonDivisor_27 ?_
          refine lv_lstore (lv' := [(9, .long (lN (x % y))), (8, .int (nI i)), (6, .long (lN y)), (4, .long (lN x)), (0, .long (lN u)), (2, .long (lN v))]) hx hb dX0_commonDivisor_28 hl (by decide) rfl (fun ls hl => ?_)
          refine lv_lload hx hb dX0_commonDivisor_30 (lv_at hl 2 rfl) ?_
          refine lv_lstore (lv' := [(4, .long (lN y)), (9, .long (lN (x % y))), (8, .int (nI i)), (6, .long (lN y)), (0, .long (lN u)), (2, .long (lN v))]) hx hb dX0_commonDivisor_32 hl (by decide) rfl (fun ls hl => ?_)
          refine lv_lload hx hb dX0_commonDivisor_34 (lv_at hl 1 rfl) ?_
          refine lv_lstore (lv' := [(6, .long (lN (x % y))), (4, .long (lN y)), (9, .long (lN (x % y))), (8, .int (nI i)), (0, .long (lN u)), (2, .long (lN v))]) hx hb dX0_commonDivisor_36 hl (by decide) rfl (fun ls hl => ?_)
          refine lv_iinc (v := nI (i + 1)) (lv' := [(8, .int (nI (i + 1))), (6, .long (lN (x % y))), (4, .long (lN y)), (9, .long (lN (x % y))), (0, .long (lN u)), (2, .long (lN v))]) hx hb dX0_commonDivisor_38 hl (k := 3) rfl (ni_inc1 _) (by decide) rfl (fun ls hl => ?_)
          refine lv_goto (tgt := 9) hx hb dX0_commonDivisor_41 (by decide) ?_
          exact ih9 y (x % y) (i + 1) ls (by omega) (by rw [← i2]; rw [Nat.gcd_comm x y, Nat.gcd_rec y x]; exact Nat.gcd_comm _ _) (⟨i3.2, by have := Nat.mod_lt x c19; omega⟩) (Or.inr (by rcases i4 with z | z; subst z; exact ⟨Nat.mod_lt x c19, Or.inl (by have h1 := Nat.mod_lt x c19; have h3 := fbp_98; show _ < (fbp 99).1; omega)⟩; rw [show 100 - i = (100 - (i + 1)) + 1 by omega] at z; exact euc_step z c19)) (by omega) (lv_sub hl [0, 1, 2, 4, 5] rfl)
  exact L9 ((101 - 0) + 1) u v 0 ls (by omega) (by rfl) (⟨hu, hv⟩) (Or.inl rfl) (Nat.lt_succ_self _) (lv_sub hl [0, 1, 2, 3, 4] rfl)
set_option maxHeartbeats 4000000 in
set_option maxRecDepth 100000 in
theorem k_X0_reduce (l : Launch) (X : Cx) (ad : Nat → Nat) (hi : inj 48 ad) (g : PF) (k : Nat) (hk : k < 48) (a b : Nat) (hF : frac ad k a b g) (ha : 0 < a) (hb0 : 0 < b) (ha2 : a < 2 ^ 63) (hb2 : b < 2 ^ 63) : Kv l yX0_reduce wsX0_reduce zr1 X 48 ad g [.ref (ad k)] (fun g' => frac ad k (lt2 a b).1 (lt2 a b).2 g' ∧ fr1 k g g') := by
  refine Kv.of (cc := cX0_reduce) (maxL := 3) hi (by decide) rfl (Nat.le_of_ble_eq_true rfl) ?_
  intro p e s m below meth c Q E RET ls hl
  obtain ⟨C0, FX, hH⟩ := E
  have hx := C0.1
  have hb := C0.2.1
  have kiX0 : ∀ w ∈ u_ws RX0 TX0 2, w ∈ wsX0_reduce := (by decide +kernel)
  have kf13 : Cond.fieldLink RX0 13 "YarnMill$Fraction" "below" "J" ∈ wsX0_reduce := (by decide +kernel)
  have kf7 : Cond.fieldLink RX0 7 "YarnMill$Fraction" "above" "J" ∈ wsX0_reduce := (by decide +kernel)
  have hl : lv_has ls 3 [(0, .ref (ad k))] := hl
  have fr : ∀ j, j ≠ k → g j = g j := fun j _ => rfl
  have fk : g k = .inr (0, [.long (lN a), .long (lN b)]) := hF
  have hgp := Nat.gcd_pos_of_pos_left b ha
  have hgl := Nat.gcd_le_left b ha
  refine lv_aload_n hx hb dX0_reduce_0 rfl (lv_at hl 0 rfl) ?_
  refine rp_get C0 FX hH k (by omega) (ci := 0) (k := 0) fk rfl kiX0 (by decide) kf7 rfl dX0_reduce_1 ?_
  refine lv_aload_n hx hb dX0_reduce_4 rfl (lv_at hl 0 rfl) ?_
  refine rp_get C0 FX hH k (by omega) (ci := 0) (k := 1) fk rfl kiX0 (by decide) kf13 rfl dX0_reduce_5 ?_
  refine rc_Sl (rest := []) C0 FX hH (k_X0_commonDivisor l X ad hi _ a b (by omega) (by omega)) (va_cwS 2 C0.2.2.2.2 gX0_reduce_X0_commonDivisor rfl rfl rfl (by decide +kernel) ⟨Nat.le_of_ble_eq_true rfl, Nat.le_of_ble_eq_true rfl⟩) rfl rfl hl.1 (Nat.le_of_ble_eq_true rfl) dX0_reduce_8 ⟨Nat.le_of_ble_eq_true rfl, Nat.le_of_ble_eq_true rfl⟩ (fun r8 g8c H locs h8 hH => ?_)
  obtain ⟨e8, rfl⟩ := h8
  rw [e8] at hH
  refine lv_lstore_n (lv' := [(1, .long (lN (Nat.gcd a b))), (0, .ref (ad k))]) hx hb dX0_reduce_11 rfl hl (by decide) rfl (fun ls hl => ?_)
  refine lv_lload_n hx hb dX0_reduce_12 rfl (lv_at hl 0 rfl) ?_
  refine lv_lconst (v := lN 1) hx hb dX0_reduce_13 (by decide) ?_
  refine nl_le hx hb 38 dX0_reduce_14 dX0_reduce_15 (by decide) (by omega) (by omega) (fun c14 => ?_) (fun c14 => ?_)
  · refine RET _ _ _ _ _ dX0_reduce_38 ?_ hH
    exact ⟨by rw [lt2_one (by omega)]; exact fk, fr⟩
  · refine lv_aload_n hx hb dX0_reduce_18 rfl (lv_at hl 1 rfl) ?_
    refine lv_dup hx hb dX0_reduce_19 rfl ?_
    refine rp_get C0 FX hH k (by omega) (ci := 0) (k := 0) fk rfl kiX0 (by decide) kf7 rfl dX0_reduce_20 ?_
    refine lv_lload_n hx hb dX0_reduce_23 rfl (lv_at hl 0 rfl) ?_
    refine ni_ldiv hx hb (by omega) (by omega) (by omega) dX0_reduce_24 ?_
    refine rp_put C0 FX hH k (by omega) (ci := 0) (k := 0) tyX0 tyX0_ok nmX0 fk rfl kiX0 (by decide) kf7 rfl rfl rfl (Nat.le_of_ble_eq_true rfl) dX0_reduce_25 (fun g1 H locs eq2 nq2 hH => ?_)
    have fk : g1 k = .inr (0, [.long (lN (a / (Nat.gcd a b))), .long (lN b)]) := eq2
    have fr : ∀ j, j ≠ k → g1 j = g j := fun j a0 => (nq2 j (by omega)).trans (fr j a0)
    refine lv_aload_n hx hb dX0_reduce_28 rfl (lv_at hl 1 rfl) ?_
    refine lv_dup hx hb dX0_reduce_29 rfl ?_
    refine rp_get C0 FX hH k (by omega) (ci := 0) (k := 1) fk rfl kiX0 (by decide) kf13 rfl dX0_reduce_30 ?_
    refine lv_lload_n hx hb dX0_reduce_33 rfl (lv_at hl 0 rfl) ?_
    refine ni_ldiv hx hb (by omega) (by omega) (by omega) dX0_reduce_34 ?_
    refine rp_put C0 FX hH k (by omega) (ci := 0) (k := 1) tyX0 tyX0_ok nmX0 fk rfl kiX0 (by decide) kf13 rfl rfl rfl (Nat.le_of_ble_eq_true rfl) dX0_reduce_35 (fun g3 H locs eq4 nq4 hH => ?_)
    have fk : g3 k = .inr (0, [.long (lN (a / (Nat.gcd a b))), .long (lN (b / (Nat.gcd a b)))]) := eq4
    have fr : ∀ j, j ≠ k → g3 j = g j := fun j a0 => (nq4 j (by omega)).trans (fr j a0)
    refine RET _ _ _ _ _ dX0_reduce_38 ?_ hH
    exact ⟨fk, fr⟩
set_option maxHeartbeats 4000000 in
set_option maxRecDepth 100000 in
theorem k_X0_set (l : Launch) (X : Cx) (ad : Nat → Nat) (hi : inj 48 ad) (g : PF) (k : Nat) (hk : k < 48) (a b : Nat) (hF : frac ad k a b g) (u v : Nat) (hu : 0 < u) (hv : 0 < v) (hu2 : u < 2 ^ 63) (hv2 : v < 2 ^ 63) : Kv l yX0_set wsX0_set zr2 X 48 ad g [.ref (ad k), .long (lN u), .long (lN v)] (fun g' => frac ad k (lt2 u v).1 (lt2 u v).2 g' ∧ fr1 k g g') := by
  refine Kv.of (cc := cX0_set) (maxL := 5) hi (by decide) rfl (Nat.le_of_ble_eq_true rfl) ?_
  intro p e s m below meth c Q E RET ls hl
  obtain ⟨C0, FX, hH⟩ := E
  have hx := C0.1
  have hb := C0.2.1
  have kiX0 : ∀ w ∈ u_ws RX0 TX0 2, w ∈ wsX0_set := (by decide +kernel)
  have kf13 : Cond.fieldLink RX0 13 "YarnMill$Fraction" "below" "J" ∈ wsX0_set := (by decide +kernel)
  have kf7 : Cond.fieldLink RX0 7 "YarnMill$Fraction" "above" "J" ∈ wsX0_set := (by decide +kernel)
  have hl : lv_has ls 5 [(0, .ref (ad k)), (1, .long (lN u)), (3, .long (lN v))] := hl
  have fr : ∀ j, j ≠ k → g j = g j := fun j _ => rfl
  have fk : g k = .inr (0, [.long (lN a), .long (lN b)]) := hF
  refine lv_aload_n hx hb dX0_set_0 rfl (lv_at hl 0 rfl) ?_
  refine lv_lload_n hx hb dX0_set_1 rfl (lv_at hl 1 rfl) ?_
  refine rp_put C0 FX hH k (by omega) (ci := 0) (k := 0) tyX0 tyX0_ok nmX0 fk rfl kiX0 (by decide) kf7 rfl rfl rfl (Nat.le_of_ble_eq_true rfl) dX0_set_2 (fun g1 H locs eq2 nq2 hH => ?_)
  have fk : g1 k = .inr (0, [.long (lN u), .long (lN b)]) := eq2
  have fr : ∀ j, j ≠ k → g1 j = g j := fun j a0 => (nq2 j (by omega)).trans (fr j a0)
  refine lv_aload_n hx hb dX0_set_5 rfl (lv_at hl 0 rfl) ?_
  refine lv_lload_n hx hb dX0_set_6 rfl (lv_at hl 2 rfl) ?_
  refine rp_put C0 FX hH k (by omega) (ci := 0) (k := 1) tyX0 tyX0_ok nmX0 fk rfl kiX0 (by decide) kf13 rfl rfl rfl (Nat.le_of_ble_eq_true rfl) dX0_set_7 (fun g3 H locs eq4 nq4 hH => ?_)
  have fk : g3 k = .inr (0, [.long (lN u), .long (lN v)]) := eq4
  have fr : ∀ j, j ≠ k → g3 j = g j := fun j a0 => (nq4 j (by omega)).trans (fr j a0)
  refine lv_aload_n hx hb dX0_set_10 rfl (lv_at hl 0 rfl) ?_
  refine rc_Vv (rest := []) C0 FX hH k (by omega) fk rfl (k_X0_reduce l X ad hi _ k (by omega) u v fk  (by omega) (by omega) (by omega) (by omega)) (cwV 0 C0.2.2.2.2 gX0_set_X0_reduce rfl rfl rfl (by decide +kernel) ⟨Nat.le_of_ble_eq_true rfl, Nat.le_of_ble_eq_true rfl⟩) rfl rfl hl.1 (Nat.le_of_ble_eq_true rfl) dX0_set_11 ⟨Nat.le_of_ble_eq_true rfl, Nat.le_of_ble_eq_true rfl⟩ (fun g11c H locs h11 hH => ?_)
  obtain ⟨eq5, nq5⟩ := h11
  have fk : g11c k = .inr (0, [.long (lN ((lt2 u v).1)), .long (lN ((lt2 u v).2))]) := eq5
  have fr : ∀ j, j ≠ k → g11c j = g j := fun j a0 => (nq5 j (by omega)).trans (fr j a0)
  refine RET _ _ _ _ _ dX0_set_14 ?_ hH
  exact ⟨fk, fr⟩
set_option maxHeartbeats 4000000 in
set_option maxRecDepth 100000 in
theorem k_X0_times (l : Launch) (X : Cx) (ad : Nat → Nat) (hi : inj 48 ad) (g : PF) (k : Nat) (hk : k < 48) (a b : Nat) (hF : frac ad k a b g) (u v : Nat) (hu : 0 < a * u) (hv : 0 < b * v) (hu2 : a * u < 2 ^ 63) (hv2 : b * v < 2 ^ 63) : Kv l yX0_times wsX0_times zr3 X 48 ad g [.ref (ad k), .long (lN u), .long (lN v)] (fun g' => frac ad k (lt2 (a * u) (b * v)).1 (lt2 (a * u) (b * v)).2 g' ∧ fr1 k g g') := by
  refine Kv.of (cc := cX0_times) (maxL := 5) hi (by decide) rfl (Nat.le_of_ble_eq_true rfl) ?_
  intro p e s m below meth c Q E RET ls hl
  obtain ⟨C0, FX, hH⟩ := E
  have hx := C0.1
  have hb := C0.2.1
  have kiX0 : ∀ w ∈ u_ws RX0 TX0 2, w ∈ wsX0_times := (by decide +kernel)
  have kf13 : Cond.fieldLink RX0 13 "YarnMill$Fraction" "below" "J" ∈ wsX0_times := (by decide +kernel)
  have kf7 : Cond.fieldLink RX0 7 "YarnMill$Fraction" "above" "J" ∈ wsX0_times := (by decide +kernel)
  have hl : lv_has ls 5 [(0, .ref (ad k)), (1, .long (lN u)), (3, .long (lN v))] := hl
  have fr : ∀ j, j ≠ k → g j = g j := fun j _ => rfl
  have fk : g k = .inr (0, [.long (lN a), .long (lN b)]) := hF
  refine lv_aload_n hx hb dX0_times_0 rfl (lv_at hl 0 rfl) ?_
  refine lv_aload_n hx hb dX0_times_1 rfl (lv_at hl 0 rfl) ?_
  refine rp_get C0 FX hH k (by omega) (ci := 0) (k := 0) fk rfl kiX0 (by decide) kf7 rfl dX0_times_2 ?_
  refine lv_lload_n hx hb dX0_times_5 rfl (lv_at hl 1 rfl) ?_
  refine ni_lmul hx hb dX0_times_6 ?_
  refine lv_aload_n hx hb dX0_times_7 rfl (lv_at hl 0 rfl) ?_
  refine rp_get C0 FX hH k (by omega) (ci := 0) (k := 1) fk rfl kiX0 (by decide) kf13 rfl dX0_times_8 ?_
  refine lv_lload_n hx hb dX0_times_11 rfl (lv_at hl 2 rfl) ?_
  refine ni_lmul hx hb dX0_times_12 ?_
  refine rc_Vv (rest := []) C0 FX hH k (by omega) fk rfl (k_X0_set l X ad hi _ k (by omega) a b fk (a * u) (b * v) (by omega) (by omega) (by omega) (by omega)) (cwV 2 C0.2.2.2.2 gX0_times_X0_set rfl rfl rfl (by decide +kernel) ⟨Nat.le_of_ble_eq_true rfl, Nat.le_of_ble_eq_true rfl⟩) rfl rfl hl.1 (Nat.le_of_ble_eq_true rfl) dX0_times_13 ⟨Nat.le_of_ble_eq_true rfl, Nat.le_of_ble_eq_true rfl⟩ (fun g13c H locs h13 hH => ?_)
  obtain ⟨eq1, nq1⟩ := h13
  have fk : g13c k = .inr (0, [.long (lN ((lt2 (a * u) (b * v)).1)), .long (lN ((lt2 (a * u) (b * v)).2))]) := eq1
  have fr : ∀ j, j ≠ k → g13c j = g j := fun j a0 => (nq1 j (by omega)).trans (fr j a0)
  refine RET _ _ _ _ _ dX0_times_16 ?_ hH
  exact ⟨fk, fr⟩
end
section
theorem zz_t : True := trivial
end
