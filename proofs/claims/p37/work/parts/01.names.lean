-- ===== PART A: goes FIRST, ahead of the names: the tables' words, and 'selects' of the private methods out of them =====
/-- a private method of a class that the tables say can be made, by its rows of tables_1 -/
def lw_okq (q : MethodName × Nat) : Prop := (q.1.cls ≠ "java/lang/invoke/MethodHandle" ∧ q.1.cls ≠ "java/lang/invoke/VarHandle") ∧ Cond.instantiable q.1.cls q.2 ∈ tables_1 ∧ Cond.privateMethod q.1 ∈ tables_1 ∧ Cond.instanceMethod q.1 ∈ tables_1
theorem lw_p0 : lw_okq (⟨"JugglingRows", "addRow", "(II)I"⟩, 10) := ⟨⟨by decide +kernel, by decide +kernel⟩, List.mem_of_getElem? (i := 20) (by decide +kernel), List.mem_of_getElem? (i := 221) (by decide +kernel), List.mem_of_getElem? (i := 222) (by decide +kernel)⟩
theorem lw_p1 : lw_okq (⟨"JugglingRows", "keepChange", "(I)I"⟩, 10) := ⟨⟨by decide +kernel, by decide +kernel⟩, List.mem_of_getElem? (i := 20) (by decide +kernel), List.mem_of_getElem? (i := 248) (by decide +kernel), List.mem_of_getElem? (i := 249) (by decide +kernel)⟩
theorem lw_p2 : lw_okq (⟨"JugglingRows", "swapBeats", "(III)I"⟩, 10) := ⟨⟨by decide +kernel, by decide +kernel⟩, List.mem_of_getElem? (i := 20) (by decide +kernel), List.mem_of_getElem? (i := 267) (by decide +kernel), List.mem_of_getElem? (i := 268) (by decide +kernel)⟩
theorem lw_p3 : lw_okq (⟨"JugglingRows", "beginWith", "(I)I"⟩, 10) := ⟨⟨by decide +kernel, by decide +kernel⟩, List.mem_of_getElem? (i := 20) (by decide +kernel), List.mem_of_getElem? (i := 285) (by decide +kernel), List.mem_of_getElem? (i := 286) (by decide +kernel)⟩
theorem lw_p4 : lw_okq (⟨"JugglingRows", "makeJoin", "(I)I"⟩, 10) := ⟨⟨by decide +kernel, by decide +kernel⟩, List.mem_of_getElem? (i := 20) (by decide +kernel), List.mem_of_getElem? (i := 293) (by decide +kernel), List.mem_of_getElem? (i := 294) (by decide +kernel)⟩
theorem lw_p5 : lw_okq (⟨"JugglingRows", "isOutOfReach", "(LJugglingRows$Row;)Z"⟩, 10) := ⟨⟨by decide +kernel, by decide +kernel⟩, List.mem_of_getElem? (i := 20) (by decide +kernel), List.mem_of_getElem? (i := 297) (by decide +kernel), List.mem_of_getElem? (i := 298) (by decide +kernel)⟩
theorem lw_p6 : lw_okq (⟨"JugglingRows", "makeRowOnce", "(I)I"⟩, 10) := ⟨⟨by decide +kernel, by decide +kernel⟩, List.mem_of_getElem? (i := 20) (by decide +kernel), List.mem_of_getElem? (i := 388) (by decide +kernel), List.mem_of_getElem? (i := 389) (by decide +kernel)⟩
theorem lw_p7 : lw_okq (⟨"JugglingRows", "carryOutAll", "()I"⟩, 10) := ⟨⟨by decide +kernel, by decide +kernel⟩, List.mem_of_getElem? (i := 20) (by decide +kernel), List.mem_of_getElem? (i := 415) (by decide +kernel), List.mem_of_getElem? (i := 416) (by decide +kernel)⟩
theorem lw_p8 : lw_okq (⟨"JugglingRows", "carryOut", "(I)I"⟩, 10) := ⟨⟨by decide +kernel, by decide +kernel⟩, List.mem_of_getElem? (i := 20) (by decide +kernel), List.mem_of_getElem? (i := 419) (by decide +kernel), List.mem_of_getElem? (i := 420) (by decide +kernel)⟩
theorem lw_p9 : lw_okq (⟨"JugglingRows", "dropRow", "(I)I"⟩, 10) := ⟨⟨by decide +kernel, by decide +kernel⟩, List.mem_of_getElem? (i := 20) (by decide +kernel), List.mem_of_getElem? (i := 425) (by decide +kernel), List.mem_of_getElem? (i := 426) (by decide +kernel)⟩
theorem lw_p10 : lw_okq (⟨"JugglingRows", "turnRow", "(I)I"⟩, 10) := ⟨⟨by decide +kernel, by decide +kernel⟩, List.mem_of_getElem? (i := 20) (by decide +kernel), List.mem_of_getElem? (i := 433) (by decide +kernel), List.mem_of_getElem? (i := 434) (by decide +kernel)⟩
theorem lw_p11 : lw_okq (⟨"JugglingRows", "liftRow", "(I)I"⟩, 10) := ⟨⟨by decide +kernel, by decide +kernel⟩, List.mem_of_getElem? (i := 20) (by decide +kernel), List.mem_of_getElem? (i := 441) (by decide +kernel), List.mem_of_getElem? (i := 442) (by decide +kernel)⟩
theorem lw_p12 : lw_okq (⟨"JugglingRows", "makeThrow", "(I)I"⟩, 10) := ⟨⟨by decide +kernel, by decide +kernel⟩, List.mem_of_getElem? (i := 20) (by decide +kernel), List.mem_of_getElem? (i := 445) (by decide +kernel), List.mem_of_getElem? (i := 446) (by decide +kernel)⟩
theorem lw_p13 : lw_okq (⟨"JugglingRows", "hasJoin", "(LJugglingRows$Row;)Z"⟩, 10) := ⟨⟨by decide +kernel, by decide +kernel⟩, List.mem_of_getElem? (i := 20) (by decide +kernel), List.mem_of_getElem? (i := 693) (by decide +kernel), List.mem_of_getElem? (i := 694) (by decide +kernel)⟩
theorem lw_p14 : lw_okq (⟨"JugglingRows", "rankKey", "(II)I"⟩, 10) := ⟨⟨by decide +kernel, by decide +kernel⟩, List.mem_of_getElem? (i := 20) (by decide +kernel), List.mem_of_getElem? (i := 752) (by decide +kernel), List.mem_of_getElem? (i := 753) (by decide +kernel)⟩
theorem lw_p15 : lw_okq (⟨"JugglingRows", "countAhead", "(I)I"⟩, 10) := ⟨⟨by decide +kernel, by decide +kernel⟩, List.mem_of_getElem? (i := 20) (by decide +kernel), List.mem_of_getElem? (i := 756) (by decide +kernel), List.mem_of_getElem? (i := 757) (by decide +kernel)⟩
def lw_privs_1 : List (MethodName × Nat) := [(⟨"JugglingRows", "addRow", "(II)I"⟩, 10), (⟨"JugglingRows", "keepChange", "(I)I"⟩, 10), (⟨"JugglingRows", "swapBeats", "(III)I"⟩, 10), (⟨"JugglingRows", "beginWith", "(I)I"⟩, 10), (⟨"JugglingRows", "makeJoin", "(I)I"⟩, 10), (⟨"JugglingRows", "isOutOfReach", "(LJugglingRows$Row;)Z"⟩, 10), (⟨"JugglingRows", "makeRowOnce", "(I)I"⟩, 10), (⟨"JugglingRows", "carryOutAll", "()I"⟩, 10), (⟨"JugglingRows", "carryOut", "(I)I"⟩, 10), (⟨"JugglingRows", "dropRow", "(I)I"⟩, 10), (⟨"JugglingRows", "turnRow", "(I)I"⟩, 10), (⟨"JugglingRows", "liftRow", "(I)I"⟩, 10), (⟨"JugglingRows", "makeThrow", "(I)I"⟩, 10), (⟨"JugglingRows", "hasJoin", "(LJugglingRows$Row;)Z"⟩, 10), (⟨"JugglingRows", "rankKey", "(II)I"⟩, 10), (⟨"JugglingRows", "countAhead", "(I)I"⟩, 10)]
theorem lw_r1 : ∀ q ∈ lw_privs_1, lw_okq q := List.forall_mem_cons.mpr ⟨lw_p0, List.forall_mem_cons.mpr ⟨lw_p1, List.forall_mem_cons.mpr ⟨lw_p2, List.forall_mem_cons.mpr ⟨lw_p3, List.forall_mem_cons.mpr ⟨lw_p4, List.forall_mem_cons.mpr ⟨lw_p5, List.forall_mem_cons.mpr ⟨lw_p6, List.forall_mem_cons.mpr ⟨lw_p7, List.forall_mem_cons.mpr ⟨lw_p8, List.forall_mem_cons.mpr ⟨lw_p9, List.forall_mem_cons.mpr ⟨lw_p10, List.forall_mem_cons.mpr ⟨lw_p11, List.forall_mem_cons.mpr ⟨lw_p12, List.forall_mem_cons.mpr ⟨lw_p13, List.forall_mem_cons.mpr ⟨lw_p14, List.forall_mem_cons.mpr ⟨lw_p15, fun _ h => absurd h List.not_mem_nil⟩⟩⟩⟩⟩⟩⟩⟩⟩⟩⟩⟩⟩⟩⟩⟩
theorem lw_p16 : lw_okq (⟨"JugglingRows", "isAhead", "(II)Z"⟩, 10) := ⟨⟨by decide +kernel, by decide +kernel⟩, List.mem_of_getElem? (i := 20) (by decide +kernel), List.mem_of_getElem? (i := 760) (by decide +kernel), List.mem_of_getElem? (i := 761) (by decide +kernel)⟩
theorem lw_p17 : lw_okq (⟨"JugglingRows", "isRowWell", "(LJugglingRows$Row;)Z"⟩, 10) := ⟨⟨by decide +kernel, by decide +kernel⟩, List.mem_of_getElem? (i := 20) (by decide +kernel), List.mem_of_getElem? (i := 771) (by decide +kernel), List.mem_of_getElem? (i := 772) (by decide +kernel)⟩
def lw_privs_2 : List (MethodName × Nat) := [(⟨"JugglingRows", "isAhead", "(II)Z"⟩, 10), (⟨"JugglingRows", "isRowWell", "(LJugglingRows$Row;)Z"⟩, 10)]
theorem lw_r2 : ∀ q ∈ lw_privs_2, lw_okq q := List.forall_mem_cons.mpr ⟨lw_p16, List.forall_mem_cons.mpr ⟨lw_p17, fun _ h => absurd h List.not_mem_nil⟩⟩
def lw_privs : List (MethodName × Nat) := lw_privs_1 ++ (lw_privs_2)
def lw_tbl : List Cond := k2_sels lw_privs ++ tables_1
theorem lw_privs_ok : ∀ q ∈ lw_privs, lw_okq q := by
  show ∀ q ∈ lw_privs_1 ++ (lw_privs_2), lw_okq q
  exact List.forall_mem_append.mpr ⟨lw_r1, lw_r2⟩
/-- the streams that the claim lets the run draw from -/
abbrev lw_cs : List Choice := [Jvm.Choice.named "NaN.bits"]
theorem lw_bits : nanBits ∈ lw_cs := by first | decide | exact List.mem_cons_self | simp [lw_cs, nanBits]
-- ===== end of PART A; then your names; then what follows =====
/-! ===== BEGIN words of one list among another's, by their places ===== -/
theorem goodIn_r {big : List Cond} (ws : List Cond) (ps : List Nat) (hp : ws = ps.filterMap (fun i => big[i]?)) (h : ws.all goodWord = true) : GoodIn big ws := by
  intro w hw
  have h1 := List.all_eq_true.mp h w hw
  rw [hp] at hw
  obtain ⟨i, -, hi⟩ := List.mem_filterMap.mp hw
  have hm : w ∈ big := by first | exact List.mem_of_getElem? hi | exact List.getElem?_mem hi
  exact ⟨hm, good_of_word h1⟩
theorem goodIn_app {big a b : List Cond} (ha : GoodIn big a) (hb : GoodIn big b) : GoodIn big (a ++ b) := fun w h => (List.mem_append.mp h).elim (ha w) (hb w)
theorem goodIn_ca {big a b : List Cond} {c : Cond} (ha : GoodIn big (c :: a)) (hb : GoodIn big b) : GoodIn big (c :: (a ++ b)) := fun w h => (List.mem_cons.mp h).elim (fun e => ha w (List.mem_cons.mpr (Or.inl e))) (fun h => (List.mem_append.mp h).elim (fun h => ha w (List.mem_cons.mpr (Or.inr h))) (hb w))
theorem goodIn_sub {big ws : List Cond} (hm : ∀ w ∈ ws, w ∈ big) (h : ws.all goodWord = true) : GoodIn big ws := fun w hw => ⟨hm w hw, good_of_word (List.all_eq_true.mp h w hw)⟩
/-! ===== END ===== -/

/-! ===== BEGIN printed: names, fields, word lists, decode rows ===== -/
def RX0 : String := "JugglingRows$Joins"
def TX0 : u_T := fun k => match k with
  | 0 => ("JugglingRows$Joins", "steps", "[I", true)
  | 1 => ("JugglingRows$Joins", "queue", "[I", true)
  | 2 => ("JugglingRows$Joins", "queued", "I", false)
  | _ => ("JugglingRows$Joins", "heights", "[I", true)
def tyX0 : Nat → FieldType := fun k => match k with
  | 0 => .array .int
  | 1 => .array .int
  | 2 => .int
  | _ => .array .int
abbrev wsX00 : List Cond := u_ws RX0 TX0 4
theorem nmX0 : ∀ a, a < 4 → ∀ b, b < 4 → a ≠ b → (TX0 a).2.1 ≠ (TX0 b).2.1 := by decide +kernel
theorem tyX0_ok : ∀ k, k < 4 → parseFieldDescriptor (TX0 k).2.2.1 = some (tyX0 k) := by decide +kernel
abbrev cX0_init : ByteArray := prog_2_method_1_code
def yX0_init : MethodName := ⟨RX0, "<init>", "()V"⟩
abbrev cX0_countOnward : ByteArray := prog_2_method_2_code
def yX0_countOnward : MethodName := ⟨RX0, "countOnward", "(II)I"⟩
abbrev cX0_countBack : ByteArray := prog_2_method_3_code
def yX0_countBack : MethodName := ⟨RX0, "countBack", "(II)I"⟩
abbrev cX0_find : ByteArray := prog_2_method_4_code
def yX0_find : MethodName := ⟨RX0, "find", "(II)I"⟩
abbrev cX0_heightAt : ByteArray := prog_2_method_5_code
def yX0_heightAt : MethodName := ⟨RX0, "heightAt", "(I)I"⟩
abbrev cX0_lowestNearer : ByteArray := prog_2_method_6_code
def yX0_lowestNearer : MethodName := ⟨RX0, "lowestNearer", "(II)I"⟩
abbrev cX0_startAt : ByteArray := prog_2_method_7_code
def yX0_startAt : MethodName := ⟨RX0, "startAt", "(I)V"⟩
abbrev cX0_spreadOnward : ByteArray := prog_2_method_8_code
def yX0_spreadOnward : MethodName := ⟨RX0, "spreadOnward", "(I)V"⟩
abbrev cX0_spreadBack : ByteArray := prog_2_method_9_code
def yX0_spreadBack : MethodName := ⟨RX0, "spreadBack", "(I)V"⟩
abbrev cX0_reach : ByteArray := prog_2_method_10_code
def yX0_reach : MethodName := ⟨RX0, "reach", "(II)V"⟩
abbrev cX0_isState : ByteArray := prog_2_method_11_code
def yX0_isState : MethodName := ⟨RX0, "isState", "(I)Z"⟩
def RX1 : String := "JugglingRows$Line"
def TX1 : u_T := fun k => match k with
  | 0 => ("JugglingRows$Line", "length", "I", false)
  | _ => ("JugglingRows$Line", "characters", "[C", true)
def tyX1 : Nat → FieldType := fun k => match k with
  | 0 => .int
  | _ => .array .char
abbrev wsX10 : List Cond := u_ws RX1 TX1 2
theorem nmX1 : ∀ a, a < 2 → ∀ b, b < 2 → a ≠ b → (TX1 a).2.1 ≠ (TX1 b).2.1 := by decide +kernel
theorem tyX1_ok : ∀ k, k < 2 → parseFieldDescriptor (TX1 k).2.2.1 = some (tyX1 k) := by decide +kernel
abbrev cX1_init : ByteArray := prog_3_method_1_code
def yX1_init : MethodName := ⟨RX1, "<init>", "()V"⟩
abbrev cX1_clear : ByteArray := prog_3_method_2_code
def yX1_clear : MethodName := ⟨RX1, "clear", "()V"⟩
abbrev cX1_put : ByteArray := prog_3_method_3_code
def yX1_put : MethodName := ⟨RX1, "put", "(C)V"⟩
abbrev cX1_putDigit : ByteArray := prog_3_method_4_code
def yX1_putDigit : MethodName := ⟨RX1, "putDigit", "(I)V"⟩
def RX2 : String := "JugglingRows$Past"
def TX2 : u_T := fun k => match k with
  | 0 => ("JugglingRows$Past", "stands", "[LJugglingRows$Stand;", true)
  | 1 => ("JugglingRows$Past", "next", "I", false)
  | _ => ("JugglingRows$Past", "kept", "I", false)
def tyX2 : Nat → FieldType := fun k => match k with
  | 0 => .array (.object "JugglingRows$Stand")
  | 1 => .int
  | _ => .int
abbrev wsX20 : List Cond := u_ws RX2 TX2 3
theorem nmX2 : ∀ a, a < 3 → ∀ b, b < 3 → a ≠ b → (TX2 a).2.1 ≠ (TX2 b).2.1 := by decide +kernel
theorem tyX2_ok : ∀ k, k < 3 → parseFieldDescriptor (TX2 k).2.2.1 = some (tyX2 k) := by decide +kernel
abbrev cX2_init : ByteArray := prog_4_method_1_code
def yX2_init : MethodName := ⟨RX2, "<init>", "()V"⟩
abbrev cX2_keep : ByteArray := prog_4_method_2_code
def yX2_keep : MethodName := ⟨RX2, "keep", "(LJugglingRows$Stand;)V"⟩
abbrev cX2_takeBack : ByteArray := prog_4_method_3_code
def yX2_takeBack : MethodName := ⟨RX2, "takeBack", "(LJugglingRows$Stand;)Z"⟩
abbrev cX2_forget : ByteArray := prog_4_method_4_code
def yX2_forget : MethodName := ⟨RX2, "forget", "()V"⟩
def RX3 : String := "JugglingRows$Refusals"
def TX3 : u_T := fun k => match k with
  | 0 => ("JugglingRows$Refusals", "reason", "I", false)
  | 1 => ("JugglingRows$Refusals", "detail", "I", false)
  | 2 => ("JugglingRows$Refusals", "command", "I", false)
  | _ => ("JugglingRows$Refusals", "commandNow", "I", false)
def tyX3 : Nat → FieldType := fun k => match k with
  | 0 => .int
  | 1 => .int
  | 2 => .int
  | _ => .int
abbrev wsX30 : List Cond := u_ws RX3 TX3 4
theorem nmX3 : ∀ a, a < 4 → ∀ b, b < 4 → a ≠ b → (TX3 a).2.1 ≠ (TX3 b).2.1 := by decide +kernel
theorem tyX3_ok : ∀ k, k < 4 → parseFieldDescriptor (TX3 k).2.2.1 = some (tyX3 k) := by decide +kernel
abbrev cX3_init : ByteArray := prog_5_method_1_code
def yX3_init : MethodName := ⟨RX3, "<init>", "()V"⟩
abbrev cX3_refuse : ByteArray := prog_5_method_2_code
def yX3_refuse : MethodName := ⟨RX3, "refuse", "(II)I"⟩
def RX4 : String := "JugglingRows$Row"
def TX4 : u_T := fun k => match k with
  | 0 => ("JugglingRows$Row", "length", "I", false)
  | _ => ("JugglingRows$Row", "heights", "[I", true)
def tyX4 : Nat → FieldType := fun k => match k with
  | 0 => .int
  | _ => .array .int
abbrev wsX40 : List Cond := u_ws RX4 TX4 2
theorem nmX4 : ∀ a, a < 2 → ∀ b, b < 2 → a ≠ b → (TX4 a).2.1 ≠ (TX4 b).2.1 := by decide +kernel
theorem tyX4_ok : ∀ k, k < 2 → parseFieldDescriptor (TX4 k).2.2.1 = some (tyX4 k) := by decide +kernel
abbrev cX4_init : ByteArray := prog_6_method_1_code
def yX4_init : MethodName := ⟨RX4, "<init>", "()V"⟩
abbrev cX4_copyThrows : ByteArray := prog_6_method_2_code
def yX4_copyThrows : MethodName := ⟨RX4, "copyThrows", "(LJugglingRows$Row;)V"⟩
abbrev cX4_fill : ByteArray := prog_6_method_3_code
def yX4_fill : MethodName := ⟨RX4, "fill", "(II)V"⟩
abbrev cX4_hasBeat : ByteArray := prog_6_method_4_code
def yX4_hasBeat : MethodName := ⟨RX4, "hasBeat", "(I)Z"⟩
abbrev cX4_heightAt : ByteArray := prog_6_method_5_code
def yX4_heightAt : MethodName := ⟨RX4, "heightAt", "(I)I"⟩
abbrev cX4_setHeight : ByteArray := prog_6_method_6_code
def yX4_setHeight : MethodName := ⟨RX4, "setHeight", "(II)V"⟩
abbrev cX4_moveFirstToEnd : ByteArray := prog_6_method_7_code
def yX4_moveFirstToEnd : MethodName := ⟨RX4, "moveFirstToEnd", "()V"⟩
abbrev cX4_sum : ByteArray := prog_6_method_8_code
def yX4_sum : MethodName := ⟨RX4, "sum", "()I"⟩
abbrev cX4_greatest : ByteArray := prog_6_method_9_code
def yX4_greatest : MethodName := ⟨RX4, "greatest", "()I"⟩
abbrev cX4_throwsToOtherHand : ByteArray := prog_6_method_10_code
def yX4_throwsToOtherHand : MethodName := ⟨RX4, "throwsToOtherHand", "()I"⟩
abbrev cX4_landing : ByteArray := prog_6_method_11_code
def yX4_landing : MethodName := ⟨RX4, "landing", "(I)I"⟩
abbrev cX4_marksEachLanding : ByteArray := prog_6_method_12_code
def yX4_marksEachLanding : MethodName := ⟨RX4, "marksEachLanding", "()Z"⟩
abbrev cX4_lowestClash : ByteArray := prog_6_method_13_code
def yX4_lowestClash : MethodName := ⟨RX4, "lowestClash", "()I"⟩
abbrev cX4_balls : ByteArray := prog_6_method_14_code
def yX4_balls : MethodName := ⟨RX4, "balls", "()I"⟩
abbrev cX4_stateAt : ByteArray := prog_6_method_15_code
def yX4_stateAt : MethodName := ⟨RX4, "stateAt", "(I)I"⟩
abbrev cX4_period : ByteArray := prog_6_method_16_code
def yX4_period : MethodName := ⟨RX4, "period", "()I"⟩
abbrev cX4_repeatsBy : ByteArray := prog_6_method_17_code
def yX4_repeatsBy : MethodName := ⟨RX4, "repeatsBy", "(I)Z"⟩
abbrev cX4_statesDiffer : ByteArray := prog_6_method_18_code
def yX4_statesDiffer : MethodName := ⟨RX4, "statesDiffer", "()I"⟩
abbrev cX4_statesHoldTheBalls : ByteArray := prog_6_method_19_code
def yX4_statesHoldTheBalls : MethodName := ⟨RX4, "statesHoldTheBalls", "()Z"⟩
def RX5 : String := "JugglingRows$Stand"
def TX5 : u_T := fun k => match k with
  | 0 => ("JugglingRows$Stand", "count", "I", false)
  | 1 => ("JugglingRows$Stand", "rows", "[LJugglingRows$Row;", true)
  | 2 => ("JugglingRows$Stand", "state", "I", false)
  | 3 => ("JugglingRows$Stand", "beats", "I", false)
  | 4 => ("JugglingRows$Stand", "thrown", "I", false)
  | 5 => ("JugglingRows$Stand", "thrownBalls", "I", false)
  | 6 => ("JugglingRows$Stand", "highestThrown", "I", false)
  | 7 => ("JugglingRows$Stand", "joined", "I", false)
  | _ => ("JugglingRows$Stand", "begun", "I", false)
def tyX5 : Nat → FieldType := fun k => match k with
  | 0 => .int
  | 1 => .array (.object "JugglingRows$Row")
  | 2 => .int
  | 3 => .int
  | 4 => .int
  | 5 => .int
  | 6 => .int
  | 7 => .int
  | _ => .int
abbrev wsX50 : List Cond := u_ws RX5 TX5 9
theorem nmX5 : ∀ a, a < 9 → ∀ b, b < 9 → a ≠ b → (TX5 a).2.1 ≠ (TX5 b).2.1 := by decide +kernel
theorem tyX5_ok : ∀ k, k < 9 → parseFieldDescriptor (TX5 k).2.2.1 = some (tyX5 k) := by decide +kernel
abbrev cX5_init : ByteArray := prog_7_method_1_code
def yX5_init : MethodName := ⟨RX5, "<init>", "()V"⟩
abbrev cX5_copyFrom : ByteArray := prog_7_method_2_code
def yX5_copyFrom : MethodName := ⟨RX5, "copyFrom", "(LJugglingRows$Stand;)V"⟩
abbrev cX5_rowNumbered : ByteArray := prog_7_method_3_code
def yX5_rowNumbered : MethodName := ⟨RX5, "rowNumbered", "(I)LJugglingRows$Row;"⟩
abbrev cX5_appendRow : ByteArray := prog_7_method_4_code
def yX5_appendRow : MethodName := ⟨RX5, "appendRow", "(II)I"⟩
abbrev cX5_removeRow : ByteArray := prog_7_method_5_code
def yX5_removeRow : MethodName := ⟨RX5, "removeRow", "(I)Z"⟩
abbrev cX5_balls : ByteArray := prog_7_method_6_code
def yX5_balls : MethodName := ⟨RX5, "balls", "()I"⟩
abbrev cX5_throwOne : ByteArray := prog_7_method_7_code
def yX5_throwOne : MethodName := ⟨RX5, "throwOne", "(I)V"⟩
abbrev cX5_countClean : ByteArray := prog_7_method_8_code
def yX5_countClean : MethodName := ⟨RX5, "countClean", "()I"⟩
abbrev cX5_ballsOfCleanRows : ByteArray := prog_7_method_9_code
def yX5_ballsOfCleanRows : MethodName := ⟨RX5, "ballsOfCleanRows", "()I"⟩
abbrev cX5_countThrows : ByteArray := prog_7_method_10_code
def yX5_countThrows : MethodName := ⟨RX5, "countThrows", "()I"⟩
abbrev cX5_sumOfThrows : ByteArray := prog_7_method_11_code
def yX5_sumOfThrows : MethodName := ⟨RX5, "sumOfThrows", "()I"⟩
def RX6 : String := "JugglingRows$Text"
def TX6 : u_T := fun k => match k with
  | 0 => ("JugglingRows$Text", "length", "I", false)
  | _ => ("JugglingRows$Text", "characters", "[C", true)
def tyX6 : Nat → FieldType := fun k => match k with
  | 0 => .int
  | _ => .array .char
abbrev wsX60 : List Cond := u_ws RX6 TX6 2
theorem nmX6 : ∀ a, a < 2 → ∀ b, b < 2 → a ≠ b → (TX6 a).2.1 ≠ (TX6 b).2.1 := by decide +kernel
theorem tyX6_ok : ∀ k, k < 2 → parseFieldDescriptor (TX6 k).2.2.1 = some (tyX6 k) := by decide +kernel
abbrev cX6_init : ByteArray := prog_8_method_1_code
def yX6_init : MethodName := ⟨RX6, "<init>", "()V"⟩
abbrev cX6_clear : ByteArray := prog_8_method_2_code
def yX6_clear : MethodName := ⟨RX6, "clear", "()V"⟩
abbrev cX6_put : ByteArray := prog_8_method_3_code
def yX6_put : MethodName := ⟨RX6, "put", "(I)Z"⟩
abbrev cX6_codeAt : ByteArray := prog_8_method_4_code
def yX6_codeAt : MethodName := ⟨RX6, "codeAt", "(I)I"⟩
abbrev cX6_digitAt : ByteArray := prog_8_method_5_code
def yX6_digitAt : MethodName := ⟨RX6, "digitAt", "(I)I"⟩
abbrev cX6_digitsFrom : ByteArray := prog_8_method_6_code
def yX6_digitsFrom : MethodName := ⟨RX6, "digitsFrom", "(II)I"⟩
abbrev cX6_digitsBehind : ByteArray := prog_8_method_7_code
def yX6_digitsBehind : MethodName := ⟨RX6, "digitsBehind", "(I)I"⟩
abbrev cX6_faultPosition : ByteArray := prog_8_method_8_code
def yX6_faultPosition : MethodName := ⟨RX6, "faultPosition", "()I"⟩
abbrev cX6_endOfCommand : ByteArray := prog_8_method_9_code
def yX6_endOfCommand : MethodName := ⟨RX6, "endOfCommand", "(I)I"⟩
abbrev cX6_numberAt : ByteArray := prog_8_method_10_code
def yX6_numberAt : MethodName := ⟨RX6, "numberAt", "(I)I"⟩
def RX7 : String := "JugglingRows"
def TX7 : u_T := fun k => match k with
  | 0 => ("JugglingRows", "now", "LJugglingRows$Stand;", true)
  | 1 => ("JugglingRows", "before", "LJugglingRows$Stand;", true)
  | 2 => ("JugglingRows", "snapshot", "LJugglingRows$Stand;", true)
  | 3 => ("JugglingRows", "hasSnapshot", "Z", false)
  | 4 => ("JugglingRows", "past", "LJugglingRows$Past;", true)
  | 5 => ("JugglingRows", "joins", "LJugglingRows$Joins;", true)
  | 6 => ("JugglingRows", "line", "LJugglingRows$Line;", true)
  | 7 => ("JugglingRows", "text", "LJugglingRows$Text;", true)
  | 8 => ("JugglingRows", "refusals", "LJugglingRows$Refusals;", true)
  | _ => ("JugglingRows", "rankKeys", "[I", true)
def tyX7 : Nat → FieldType := fun k => match k with
  | 0 => .object "JugglingRows$Stand"
  | 1 => .object "JugglingRows$Stand"
  | 2 => .object "JugglingRows$Stand"
  | 3 => .boolean
  | 4 => .object "JugglingRows$Past"
  | 5 => .object "JugglingRows$Joins"
  | 6 => .object "JugglingRows$Line"
  | 7 => .object "JugglingRows$Text"
  | 8 => .object "JugglingRows$Refusals"
  | _ => .array .int
abbrev wsX70 : List Cond := u_ws RX7 TX7 10
theorem nmX7 : ∀ a, a < 10 → ∀ b, b < 10 → a ≠ b → (TX7 a).2.1 ≠ (TX7 b).2.1 := by decide +kernel
theorem tyX7_ok : ∀ k, k < 10 → parseFieldDescriptor (TX7 k).2.2.1 = some (tyX7 k) := by decide +kernel
abbrev cX7_init : ByteArray := prog_1_method_1_code
def yX7_init : MethodName := ⟨RX7, "<init>", "()V"⟩
abbrev cX7_row : ByteArray := prog_1_method_2_code
def yX7_row : MethodName := ⟨RX7, "row", "(II)I"⟩
abbrev cX7_drop : ByteArray := prog_1_method_3_code
def yX7_drop : MethodName := ⟨RX7, "drop", "(I)I"⟩
abbrev cX7_turn : ByteArray := prog_1_method_4_code
def yX7_turn : MethodName := ⟨RX7, "turn", "(I)I"⟩
abbrev cX7_swap : ByteArray := prog_1_method_5_code
def yX7_swap : MethodName := ⟨RX7, "swap", "(III)I"⟩
abbrev cX7_lift : ByteArray := prog_1_method_6_code
def yX7_lift : MethodName := ⟨RX7, "lift", "(I)I"⟩
abbrev cX7_begin : ByteArray := prog_1_method_7_code
def yX7_begin : MethodName := ⟨RX7, "begin", "(I)I"⟩
abbrev cX7_toss : ByteArray := prog_1_method_8_code
def yX7_toss : MethodName := ⟨RX7, "toss", "(I)I"⟩
abbrev cX7_join : ByteArray := prog_1_method_9_code
def yX7_join : MethodName := ⟨RX7, "join", "(I)I"⟩
abbrev cX7_once : ByteArray := prog_1_method_10_code
def yX7_once : MethodName := ⟨RX7, "once", "(I)I"⟩
abbrev cX7_rowOf : ByteArray := prog_1_method_11_code
def yX7_rowOf : MethodName := ⟨RX7, "rowOf", "(II)I"⟩
abbrev cX7_throwAt : ByteArray := prog_1_method_12_code
def yX7_throwAt : MethodName := ⟨RX7, "throwAt", "(II)I"⟩
abbrev cX7_isClean : ByteArray := prog_1_method_13_code
def yX7_isClean : MethodName := ⟨RX7, "isClean", "(I)I"⟩
abbrev cX7_isCleanAgain : ByteArray := prog_1_method_14_code
def yX7_isCleanAgain : MethodName := ⟨RX7, "isCleanAgain", "(I)I"⟩
abbrev cX7_stateOf : ByteArray := prog_1_method_15_code
def yX7_stateOf : MethodName := ⟨RX7, "stateOf", "(II)I"⟩
abbrev cX7_juggler : ByteArray := prog_1_method_16_code
def yX7_juggler : MethodName := ⟨RX7, "juggler", "(I)I"⟩
abbrev cX7_could : ByteArray := prog_1_method_17_code
def yX7_could : MethodName := ⟨RX7, "could", "(I)I"⟩
abbrev cX7_joinTo : ByteArray := prog_1_method_18_code
def yX7_joinTo : MethodName := ⟨RX7, "joinTo", "(I)I"⟩
abbrev cX7_joinAgain : ByteArray := prog_1_method_19_code
def yX7_joinAgain : MethodName := ⟨RX7, "joinAgain", "(I)I"⟩
abbrev cX7_joinThrow : ByteArray := prog_1_method_20_code
def yX7_joinThrow : MethodName := ⟨RX7, "joinThrow", "(II)I"⟩
abbrev cX7_between : ByteArray := prog_1_method_21_code
def yX7_between : MethodName := ⟨RX7, "between", "(II)I"⟩
abbrev cX7_ranked : ByteArray := prog_1_method_22_code
def yX7_ranked : MethodName := ⟨RX7, "ranked", "(II)I"⟩
abbrev cX7_tellRow : ByteArray := prog_1_method_23_code
def yX7_tellRow : MethodName := ⟨RX7, "tellRow", "(I)I"⟩
abbrev cX7_tellState : ByteArray := prog_1_method_24_code
def yX7_tellState : MethodName := ⟨RX7, "tellState", "()I"⟩
abbrev cX7_tellJoin : ByteArray := prog_1_method_25_code
def yX7_tellJoin : MethodName := ⟨RX7, "tellJoin", "(I)I"⟩
abbrev cX7_append : ByteArray := prog_1_method_27_code
def yX7_append : MethodName := ⟨RX7, "append", "(I)I"⟩
abbrev cX7_read : ByteArray := prog_1_method_28_code
def yX7_read : MethodName := ⟨RX7, "read", "()I"⟩
abbrev cX7_account : ByteArray := prog_1_method_30_code
def yX7_account : MethodName := ⟨RX7, "account", "(I)I"⟩
abbrev cX7_isWell : ByteArray := prog_1_method_31_code
def yX7_isWell : MethodName := ⟨RX7, "isWell", "()I"⟩
abbrev cX7_mean : ByteArray := prog_1_method_32_code
def yX7_mean : MethodName := ⟨RX7, "mean", "()I"⟩
abbrev cX7_undo : ByteArray := prog_1_method_33_code
def yX7_undo : MethodName := ⟨RX7, "undo", "()I"⟩
abbrev cX7_save : ByteArray := prog_1_method_34_code
def yX7_save : MethodName := ⟨RX7, "save", "()I"⟩
abbrev cX7_restore : ByteArray := prog_1_method_35_code
def yX7_restore : MethodName := ⟨RX7, "restore", "()I"⟩
abbrev cX7_addRow : ByteArray := prog_1_method_36_code
def yX7_addRow : MethodName := ⟨RX7, "addRow", "(II)I"⟩
abbrev cX7_dropRow : ByteArray := prog_1_method_37_code
def yX7_dropRow : MethodName := ⟨RX7, "dropRow", "(I)I"⟩
abbrev cX7_turnRow : ByteArray := prog_1_method_38_code
def yX7_turnRow : MethodName := ⟨RX7, "turnRow", "(I)I"⟩
abbrev cX7_swapBeats : ByteArray := prog_1_method_39_code
def yX7_swapBeats : MethodName := ⟨RX7, "swapBeats", "(III)I"⟩
abbrev cX7_liftRow : ByteArray := prog_1_method_40_code
def yX7_liftRow : MethodName := ⟨RX7, "liftRow", "(I)I"⟩
abbrev cX7_beginWith : ByteArray := prog_1_method_41_code
def yX7_beginWith : MethodName := ⟨RX7, "beginWith", "(I)I"⟩
abbrev cX7_makeThrow : ByteArray := prog_1_method_42_code
def yX7_makeThrow : MethodName := ⟨RX7, "makeThrow", "(I)I"⟩
abbrev cX7_makeJoin : ByteArray := prog_1_method_43_code
def yX7_makeJoin : MethodName := ⟨RX7, "makeJoin", "(I)I"⟩
abbrev cX7_makeRowOnce : ByteArray := prog_1_method_44_code
def yX7_makeRowOnce : MethodName := ⟨RX7, "makeRowOnce", "(I)I"⟩
abbrev cX7_isOutOfReach : ByteArray := prog_1_method_45_code
def yX7_isOutOfReach : MethodName := ⟨RX7, "isOutOfReach", "(LJugglingRows$Row;)Z"⟩
abbrev cX7_keepChange : ByteArray := prog_1_method_46_code
def yX7_keepChange : MethodName := ⟨RX7, "keepChange", "(I)I"⟩
abbrev cX7_isError : ByteArray := prog_1_method_47_code
def yX7_isError : MethodName := ⟨RX7, "isError", "(I)Z"⟩
abbrev cX7_carryOutAll : ByteArray := prog_1_method_48_code
def yX7_carryOutAll : MethodName := ⟨RX7, "carryOutAll", "()I"⟩
abbrev cX7_carryOut : ByteArray := prog_1_method_49_code
def yX7_carryOut : MethodName := ⟨RX7, "carryOut", "(I)I"⟩
abbrev cX7_canMake : ByteArray := prog_1_method_50_code
def yX7_canMake : MethodName := ⟨RX7, "canMake", "(II)Z"⟩
abbrev cX7_stateBehind : ByteArray := prog_1_method_51_code
def yX7_stateBehind : MethodName := ⟨RX7, "stateBehind", "(II)I"⟩
abbrev cX7_countPossible : ByteArray := prog_1_method_52_code
def yX7_countPossible : MethodName := ⟨RX7, "countPossible", "(I)I"⟩
abbrev cX7_hasJoin : ByteArray := prog_1_method_53_code
def yX7_hasJoin : MethodName := ⟨RX7, "hasJoin", "(LJugglingRows$Row;)Z"⟩
abbrev cX7_rankKey : ByteArray := prog_1_method_54_code
def yX7_rankKey : MethodName := ⟨RX7, "rankKey", "(II)I"⟩
abbrev cX7_countAhead : ByteArray := prog_1_method_55_code
def yX7_countAhead : MethodName := ⟨RX7, "countAhead", "(I)I"⟩
abbrev cX7_isAhead : ByteArray := prog_1_method_56_code
def yX7_isAhead : MethodName := ⟨RX7, "isAhead", "(II)Z"⟩
abbrev cX7_isRowWell : ByteArray := prog_1_method_57_code
def yX7_isRowWell : MethodName := ⟨RX7, "isRowWell", "(LJugglingRows$Row;)Z"⟩
abbrev cX7_powerOfTen : ByteArray := prog_1_method_58_code
def yX7_powerOfTen : MethodName := ⟨RX7, "powerOfTen", "(I)I"⟩
abbrev cX7_bitsOf : ByteArray := prog_1_method_59_code
def yX7_bitsOf : MethodName := ⟨RX7, "bitsOf", "(F)I"⟩
def RX8 : String := "JugglingRowsModel"
def TX8 : u_T := fun k => match k with
  | _ => ("", "", "", false)
def tyX8 : Nat → FieldType := fun k => match k with
  | _ => .int
abbrev wsX80 : List Cond := u_ws RX8 TX8 0
theorem nmX8 : ∀ a, a < 0 → ∀ b, b < 0 → a ≠ b → (TX8 a).2.1 ≠ (TX8 b).2.1 := by decide +kernel
theorem tyX8_ok : ∀ k, k < 0 → parseFieldDescriptor (TX8 k).2.2.1 = some (tyX8 k) := by decide +kernel
def RJx145de : String := "java/io/Serializable"
def TJx145de : u_T := fun k => match k with
  | _ => ("", "", "", false)
def tyJx145de : Nat → FieldType := fun k => match k with
  | _ => .int
abbrev wsJx145de0 : List Cond := u_ws RJx145de TJx145de 0
theorem nmJx145de : ∀ a, a < 0 → ∀ b, b < 0 → a ≠ b → (TJx145de a).2.1 ≠ (TJx145de b).2.1 := by decide +kernel
theorem tyJx145de_ok : ∀ k, k < 0 → parseFieldDescriptor (TJx145de k).2.2.1 = some (tyJx145de k) := by decide +kernel
def RJx9f9b0 : String := "java/lang/CharSequence"
def TJx9f9b0 : u_T := fun k => match k with
  | _ => ("", "", "", false)
def tyJx9f9b0 : Nat → FieldType := fun k => match k with
  | _ => .int
abbrev wsJx9f9b00 : List Cond := u_ws RJx9f9b0 TJx9f9b0 0
theorem nmJx9f9b0 : ∀ a, a < 0 → ∀ b, b < 0 → a ≠ b → (TJx9f9b0 a).2.1 ≠ (TJx9f9b0 b).2.1 := by decide +kernel
theorem tyJx9f9b0_ok : ∀ k, k < 0 → parseFieldDescriptor (TJx9f9b0 k).2.2.1 = some (tyJx9f9b0 k) := by decide +kernel
def RJxb160c : String := "java/lang/Comparable"
def TJxb160c : u_T := fun k => match k with
  | _ => ("", "", "", false)
def tyJxb160c : Nat → FieldType := fun k => match k with
  | _ => .int
abbrev wsJxb160c0 : List Cond := u_ws RJxb160c TJxb160c 0
theorem nmJxb160c : ∀ a, a < 0 → ∀ b, b < 0 → a ≠ b → (TJxb160c a).2.1 ≠ (TJxb160c b).2.1 := by decide +kernel
theorem tyJxb160c_ok : ∀ k, k < 0 → parseFieldDescriptor (TJxb160c k).2.2.1 = some (tyJxb160c k) := by decide +kernel
def RJxf58ca : String := "java/lang/Float"
def TJxf58ca : u_T := fun k => match k with
  | _ => ("", "", "", false)
def tyJxf58ca : Nat → FieldType := fun k => match k with
  | _ => .int
abbrev wsJxf58ca0 : List Cond := u_ws RJxf58ca TJxf58ca 0
theorem nmJxf58ca : ∀ a, a < 0 → ∀ b, b < 0 → a ≠ b → (TJxf58ca a).2.1 ≠ (TJxf58ca b).2.1 := by decide +kernel
theorem tyJxf58ca_ok : ∀ k, k < 0 → parseFieldDescriptor (TJxf58ca k).2.2.1 = some (tyJxf58ca k) := by decide +kernel
abbrev cJxf58ca_isNaN_12338 : ByteArray := prog_11_method_6_code
def yJxf58ca_isNaN_12338 : MethodName := ⟨RJxf58ca, "isNaN", "(F)Z"⟩
abbrev cJxf58ca_floatToIntBits_5c35a : ByteArray := prog_11_method_24_code
def yJxf58ca_floatToIntBits_5c35a : MethodName := ⟨RJxf58ca, "floatToIntBits", "(F)I"⟩
def RJ6 : String := "java/lang/Integer"
def TJ6 : u_T := fun k => match k with
  | _ => ("", "", "", false)
def tyJ6 : Nat → FieldType := fun k => match k with
  | _ => .int
abbrev wsJ60 : List Cond := u_ws RJ6 TJ6 0
theorem nmJ6 : ∀ a, a < 0 → ∀ b, b < 0 → a ≠ b → (TJ6 a).2.1 ≠ (TJ6 b).2.1 := by decide +kernel
theorem tyJ6_ok : ∀ k, k < 0 → parseFieldDescriptor (TJ6 k).2.2.1 = some (tyJ6 k) := by decide +kernel
abbrev cJ6_bitCount_0f7a4 : ByteArray := prog_12_method_49_code
def yJ6_bitCount_0f7a4 : MethodName := ⟨RJ6, "bitCount", "(I)I"⟩
def RJ9 : String := "java/lang/Math"
def TJ9 : u_T := fun k => match k with
  | _ => ("", "", "", false)
def tyJ9 : Nat → FieldType := fun k => match k with
  | _ => .int
abbrev wsJ90 : List Cond := u_ws RJ9 TJ9 0
theorem nmJ9 : ∀ a, a < 0 → ∀ b, b < 0 → a ≠ b → (TJ9 a).2.1 ≠ (TJ9 b).2.1 := by decide +kernel
theorem tyJ9_ok : ∀ k, k < 0 → parseFieldDescriptor (TJ9 k).2.2.1 = some (tyJ9 k) := by decide +kernel
abbrev cJ9_max_7cf53 : ByteArray := prog_13_method_65_code
def yJ9_max_7cf53 : MethodName := ⟨RJ9, "max", "(II)I"⟩
abbrev cJ9_min_7cf53 : ByteArray := prog_13_method_69_code
def yJ9_min_7cf53 : MethodName := ⟨RJ9, "min", "(II)I"⟩
def RJxd2413 : String := "java/lang/Number"
def TJxd2413 : u_T := fun k => match k with
  | _ => ("", "", "", false)
def tyJxd2413 : Nat → FieldType := fun k => match k with
  | _ => .int
abbrev wsJxd24130 : List Cond := u_ws RJxd2413 TJxd2413 0
theorem nmJxd2413 : ∀ a, a < 0 → ∀ b, b < 0 → a ≠ b → (TJxd2413 a).2.1 ≠ (TJxd2413 b).2.1 := by decide +kernel
theorem tyJxd2413_ok : ∀ k, k < 0 → parseFieldDescriptor (TJxd2413 k).2.2.1 = some (tyJxd2413 k) := by decide +kernel
def RJ0 : String := "java/lang/String"
def TJ0 : u_T := fun k => match k with
  | _ => ("", "", "", false)
def tyJ0 : Nat → FieldType := fun k => match k with
  | _ => .int
abbrev wsJ00 : List Cond := u_ws RJ0 TJ0 0
theorem nmJ0 : ∀ a, a < 0 → ∀ b, b < 0 → a ≠ b → (TJ0 a).2.1 ≠ (TJ0 b).2.1 := by decide +kernel
theorem tyJ0_ok : ∀ k, k < 0 → parseFieldDescriptor (TJ0 k).2.2.1 = some (tyJ0 k) := by decide +kernel
abbrev cJ0_length_8abf5 : ByteArray := prog_15_method_54_code
def yJ0_length_8abf5 : MethodName := ⟨RJ0, "length", "()I"⟩
abbrev cJ0_charAt_5068e : ByteArray := prog_15_method_56_code
def yJ0_charAt_5068e : MethodName := ⟨RJ0, "charAt", "(I)C"⟩
abbrev cJ0_coder_7d493 : ByteArray := prog_15_method_152_code
def yJ0_coder_7d493 : MethodName := ⟨RJ0, "coder", "()B"⟩
abbrev cJ0_isLatin1_aae02 : ByteArray := prog_15_method_154_code
def yJ0_isLatin1_aae02 : MethodName := ⟨RJ0, "isLatin1", "()Z"⟩
abbrev cJ0_checkIndex_df160 : ByteArray := prog_15_method_155_code
def yJ0_checkIndex_df160 : MethodName := ⟨RJ0, "checkIndex", "(II)V"⟩
def RJ1 : String := "java/lang/StringLatin1"
def TJ1 : u_T := fun k => match k with
  | _ => ("", "", "", false)
def tyJ1 : Nat → FieldType := fun k => match k with
  | _ => .int
abbrev wsJ10 : List Cond := u_ws RJ1 TJ1 0
theorem nmJ1 : ∀ a, a < 0 → ∀ b, b < 0 → a ≠ b → (TJ1 a).2.1 ≠ (TJ1 b).2.1 := by decide +kernel
theorem tyJ1_ok : ∀ k, k < 0 → parseFieldDescriptor (TJ1 k).2.2.1 = some (tyJ1 k) := by decide +kernel
abbrev cJ1_charAt_3b067 : ByteArray := prog_16_method_2_code
def yJ1_charAt_3b067 : MethodName := ⟨RJ1, "charAt", "([BI)C"⟩
def RJ2 : String := "java/lang/StringUTF16"
def TJ2 : u_T := fun k => match k with
  | _ => ("", "", "", false)
def tyJ2 : Nat → FieldType := fun k => match k with
  | _ => .int
abbrev wsJ20 : List Cond := u_ws RJ2 TJ2 0
theorem nmJ2 : ∀ a, a < 0 → ∀ b, b < 0 → a ≠ b → (TJ2 a).2.1 ≠ (TJ2 b).2.1 := by decide +kernel
theorem tyJ2_ok : ∀ k, k < 0 → parseFieldDescriptor (TJ2 k).2.2.1 = some (tyJ2 k) := by decide +kernel
abbrev cJ2_getChar_3b067 : ByteArray := prog_17_method_5_code
def yJ2_getChar_3b067 : MethodName := ⟨RJ2, "getChar", "([BI)C"⟩
abbrev cJ2_length_9d52b : ByteArray := prog_17_method_6_code
def yJ2_length_9d52b : MethodName := ⟨RJ2, "length", "([B)I"⟩
abbrev cJ2_charAt_3b067 : ByteArray := prog_17_method_83_code
def yJ2_charAt_3b067 : MethodName := ⟨RJ2, "charAt", "([BI)C"⟩
abbrev cJ2_checkIndex_2214a : ByteArray := prog_17_method_91_code
def yJ2_checkIndex_2214a : MethodName := ⟨RJ2, "checkIndex", "(I[B)V"⟩
def RJ10 : String := "java/lang/System"
def TJ10 : u_T := fun k => match k with
  | _ => ("", "", "", false)
def tyJ10 : Nat → FieldType := fun k => match k with
  | _ => .int
abbrev wsJ100 : List Cond := u_ws RJ10 TJ10 0
theorem nmJ10 : ∀ a, a < 0 → ∀ b, b < 0 → a ≠ b → (TJ10 a).2.1 ≠ (TJ10 b).2.1 := by decide +kernel
theorem tyJ10_ok : ∀ k, k < 0 → parseFieldDescriptor (TJ10 k).2.2.1 = some (tyJ10 k) := by decide +kernel
def RJxfd54e : String := "java/lang/constant/Constable"
def TJxfd54e : u_T := fun k => match k with
  | _ => ("", "", "", false)
def tyJxfd54e : Nat → FieldType := fun k => match k with
  | _ => .int
abbrev wsJxfd54e0 : List Cond := u_ws RJxfd54e TJxfd54e 0
theorem nmJxfd54e : ∀ a, a < 0 → ∀ b, b < 0 → a ≠ b → (TJxfd54e a).2.1 ≠ (TJxfd54e b).2.1 := by decide +kernel
theorem tyJxfd54e_ok : ∀ k, k < 0 → parseFieldDescriptor (TJxfd54e k).2.2.1 = some (tyJxfd54e k) := by decide +kernel
def RJx3cf43 : String := "java/lang/constant/ConstantDesc"
def TJx3cf43 : u_T := fun k => match k with
  | _ => ("", "", "", false)
def tyJx3cf43 : Nat → FieldType := fun k => match k with
  | _ => .int
abbrev wsJx3cf430 : List Cond := u_ws RJx3cf43 TJx3cf43 0
theorem nmJx3cf43 : ∀ a, a < 0 → ∀ b, b < 0 → a ≠ b → (TJx3cf43 a).2.1 ≠ (TJx3cf43 b).2.1 := by decide +kernel
theorem tyJx3cf43_ok : ∀ k, k < 0 → parseFieldDescriptor (TJx3cf43 k).2.2.1 = some (tyJx3cf43 k) := by decide +kernel
def RJ7 : String := "java/util/Arrays"
def TJ7 : u_T := fun k => match k with
  | _ => ("", "", "", false)
def tyJ7 : Nat → FieldType := fun k => match k with
  | _ => .int
abbrev wsJ70 : List Cond := u_ws RJ7 TJ7 0
theorem nmJ7 : ∀ a, a < 0 → ∀ b, b < 0 → a ≠ b → (TJ7 a).2.1 ≠ (TJ7 b).2.1 := by decide +kernel
theorem tyJ7_ok : ∀ k, k < 0 → parseFieldDescriptor (TJ7 k).2.2.1 = some (tyJ7 k) := by decide +kernel
abbrev cJ7_fill_53178 : ByteArray := prog_19_method_103_code
def yJ7_fill_53178 : MethodName := ⟨RJ7, "fill", "([II)V"⟩
def RJ3 : String := "jdk/internal/util/Preconditions"
def TJ3 : u_T := fun k => match k with
  | _ => ("", "", "", false)
def tyJ3 : Nat → FieldType := fun k => match k with
  | _ => .int
abbrev wsJ30 : List Cond := u_ws RJ3 TJ3 0
theorem nmJ3 : ∀ a, a < 0 → ∀ b, b < 0 → a ≠ b → (TJ3 a).2.1 ≠ (TJ3 b).2.1 := by decide +kernel
theorem tyJ3_ok : ∀ k, k < 0 → parseFieldDescriptor (TJ3 k).2.2.1 = some (tyJ3 k) := by decide +kernel
abbrev cJ3_checkIndex_8e157 : ByteArray := prog_20_method_11_code
def yJ3_checkIndex_8e157 : MethodName := ⟨RJ3, "checkIndex", "(IILjava/util/function/BiFunction;)I"⟩
def RL : String := "JugglingRowsLaw"
abbrev cL_cell : ByteArray := method_2_code
def yL_cell : MethodName := ⟨RL, "cell", "([II)I"⟩
abbrev cL_write : ByteArray := method_3_code
def yL_write : MethodName := ⟨RL, "write", "(LJugglingRows;Ljava/lang/String;)LJugglingRows;"⟩
abbrev cL_act : ByteArray := method_4_code
def yL_act : MethodName := ⟨RL, "act", "(LJugglingRows;I)I"⟩
abbrev cL_digest : ByteArray := method_5_code
def yL_digest : MethodName := ⟨RL, "digest", "(LJugglingRows;)J"⟩
abbrev cL_can : ByteArray := method_6_code
def yL_can : MethodName := ⟨RL, "can", "(II)Z"⟩
abbrev cL_behind : ByteArray := method_7_code
def yL_behind : MethodName := ⟨RL, "behind", "(II)I"⟩
abbrev cL_isRow : ByteArray := method_8_code
def yL_isRow : MethodName := ⟨RL, "isRow", "(LJugglingRows;I)Z"⟩
abbrev cL_isJuggler : ByteArray := method_9_code
def yL_isJuggler : MethodName := ⟨RL, "isJuggler", "(LJugglingRows;)Z"⟩
abbrev cL_isJoin : ByteArray := method_10_code
def yL_isJoin : MethodName := ⟨RL, "isJoin", "(LJugglingRows;I)Z"⟩
abbrev cL_areRows : ByteArray := method_11_code
def yL_areRows : MethodName := ⟨RL, "areRows", "(LJugglingRows;)Z"⟩
abbrev cL_worth : ByteArray := method_12_code
def yL_worth : MethodName := ⟨RL, "worth", "(LJugglingRows;II)I"⟩
abbrev cL_areRanked : ByteArray := method_13_code
def yL_areRanked : MethodName := ⟨RL, "areRanked", "(LJugglingRows;I)Z"⟩
abbrev cL_isFit : ByteArray := method_14_code
def yL_isFit : MethodName := ⟨RL, "isFit", "(LJugglingRows;)Z"⟩
abbrev cL_isMade : ByteArray := method_15_code
def yL_isMade : MethodName := ⟨RL, "isMade", "(LJugglingRows;I)Z"⟩
abbrev cL_law : ByteArray := code
def yL_law : MethodName := ⟨RL, "law", "([I)Z"⟩
def wsL_law_r1 : List Cond := [Cond.classLink RL 19 RX7, Cond.instantiable RX7 10, Cond.initialized RX7, Cond.constant RL 182 (97531), Cond.fieldLink RL 53 "JugglingRowsLaw" "TEXTS" "[Ljava/lang/String;", Cond.methodLink RL 181 yX7_init, Cond.instanceMethod yX7_init, Cond.code yX7_init cX7_init 1 none, Cond.methodLink RX7 1 objectInit, Cond.instanceMethod objectInit, Cond.code objectInit ⟨#[0xb1]⟩ 1 none, Cond.classLink RX7 7 RX5, Cond.instantiable RX5 9, Cond.initialized RX5, Cond.fieldLink RX7 10 "JugglingRows" "now" "LJugglingRows$Stand;", Cond.fieldLink RX7 16 "JugglingRows" "before" "LJugglingRows$Stand;", Cond.fieldLink RX7 19 "JugglingRows" "snapshot" "LJugglingRows$Stand;", Cond.classLink RX7 22 RX2, Cond.instantiable RX2 3, Cond.initialized RX2, Cond.fieldLink RX7 25 "JugglingRows" "past" "LJugglingRows$Past;", Cond.classLink RX7 29 RX0, Cond.instantiable RX0 4, Cond.initialized RX0]
def wsL_law_r2 : List Cond := [Cond.fieldLink RX7 32 "JugglingRows" "joins" "LJugglingRows$Joins;", Cond.classLink RX7 36 RX1, Cond.instantiable RX1 2, Cond.initialized RX1, Cond.fieldLink RX7 39 "JugglingRows" "line" "LJugglingRows$Line;", Cond.classLink RX7 43 RX6, Cond.instantiable RX6 2, Cond.initialized RX6, Cond.fieldLink RX7 46 "JugglingRows" "text" "LJugglingRows$Text;", Cond.classLink RX7 50 RX3, Cond.instantiable RX3 4, Cond.initialized RX3, Cond.fieldLink RX7 53 "JugglingRows" "refusals" "LJugglingRows$Refusals;", Cond.arrayClass .int, Cond.fieldLink RX7 57 "JugglingRows" "rankKeys" "[I", Cond.methodLink RX7 9 yX5_init, Cond.instanceMethod yX5_init, Cond.code yX5_init cX5_init 2 none, Cond.methodLink RX5 3 objectInit, Cond.classLink RX5 9 RX4, Cond.fieldLink RX5 11 "JugglingRows$Stand" "rows" "[LJugglingRows$Row;", Cond.instantiable RX4 2, Cond.initialized RX4, Cond.instanceMethod yX4_init]
def wsL_law_r3 : List Cond := [Cond.code yX4_init cX4_init 1 none, Cond.methodLink RX4 3 objectInit, Cond.fieldLink RX4 9 "JugglingRows$Row" "heights" "[I", Cond.methodLink RX7 24 yX2_init, Cond.instanceMethod yX2_init, Cond.code yX2_init cX2_init 2 none, Cond.methodLink RX2 3 objectInit, Cond.classLink RX2 9 RX5, Cond.fieldLink RX2 11 "JugglingRows$Past" "stands" "[LJugglingRows$Stand;", Cond.methodLink RX2 17 yX5_init, Cond.instanceMethod yX0_init, Cond.code yX0_init cX0_init 1 none, Cond.methodLink RX0 3 objectInit, Cond.fieldLink RX0 9 "JugglingRows$Joins" "steps" "[I", Cond.fieldLink RX0 15 "JugglingRows$Joins" "queue" "[I", Cond.fieldLink RX0 18 "JugglingRows$Joins" "heights" "[I", Cond.instanceMethod yX1_init, Cond.code yX1_init cX1_init 1 none, Cond.methodLink RX1 3 objectInit, Cond.arrayClass .char, Cond.fieldLink RX1 9 "JugglingRows$Line" "characters" "[C", Cond.instanceMethod yX6_init, Cond.code yX6_init cX6_init 1 none, Cond.methodLink RX6 3 objectInit]
def wsL_law_r4 : List Cond := [Cond.fieldLink RX6 9 "JugglingRows$Text" "characters" "[C", Cond.instanceMethod yX3_init, Cond.code yX3_init cX3_init 1 none, Cond.methodLink RX3 3 objectInit, Cond.fieldLink RX3 9 "JugglingRows$Refusals" "commandNow" "I", Cond.methodLink RL 41 yX7_begin, Cond.instanceMethod yX7_begin, Cond.selects RX7 yX7_begin yX7_begin, Cond.code yX7_begin cX7_begin 2 (some .int), Cond.methodLink RX7 61 yX5_copyFrom, Cond.instanceMethod yX5_copyFrom, Cond.selects RX5 yX5_copyFrom yX5_copyFrom, Cond.code yX5_copyFrom cX5_copyFrom 5 none, Cond.fieldLink RX5 18 "JugglingRows$Stand" "count" "I", Cond.fieldLink RX5 26 "JugglingRows$Stand" "state" "I", Cond.fieldLink RX5 29 "JugglingRows$Stand" "beats" "I", Cond.fieldLink RX5 32 "JugglingRows$Stand" "thrown" "I", Cond.fieldLink RX5 35 "JugglingRows$Stand" "thrownBalls" "I", Cond.fieldLink RX5 38 "JugglingRows$Stand" "highestThrown" "I", Cond.fieldLink RX5 41 "JugglingRows$Stand" "joined" "I", Cond.fieldLink RX5 44 "JugglingRows$Stand" "begun" "I", Cond.methodLink RX5 22 yX4_copyThrows, Cond.instanceMethod yX4_copyThrows, Cond.selects RX4 yX4_copyThrows yX4_copyThrows]
def wsL_law_r5 : List Cond := [Cond.code yX4_copyThrows cX4_copyThrows 2 none, Cond.fieldLink RX4 15 "JugglingRows$Row" "length" "I", Cond.methodLink RX4 19 arraycopyName, Cond.native arraycopyName, Cond.static arraycopyName, Cond.initialized "java/lang/System", Cond.methodLink RX7 86 yX7_beginWith, Cond.instanceMethod yX7_beginWith, Cond.selects RX7 yX7_beginWith yX7_beginWith, Cond.code yX7_beginWith cX7_beginWith 2 (some .int), Cond.fieldLink RX7 144 "JugglingRows$Stand" "state" "I", Cond.fieldLink RX7 148 "JugglingRows$Stand" "beats" "I", Cond.fieldLink RX7 239 "JugglingRows$Stand" "begun" "I", Cond.methodLink RX7 69 yX7_keepChange, Cond.instanceMethod yX7_keepChange, Cond.selects RX7 yX7_keepChange yX7_keepChange, Cond.code yX7_keepChange cX7_keepChange 2 (some .int), Cond.methodLink RX7 291 yX7_isError, Cond.static yX7_isError, Cond.code yX7_isError cX7_isError 1 (some .boolean), Cond.methodLink RX7 294 yX2_keep, Cond.instanceMethod yX2_keep, Cond.selects RX2 yX2_keep yX2_keep, Cond.code yX2_keep cX2_keep 3 none]
def wsL_law_r6 : List Cond := [Cond.fieldLink RX2 18 "JugglingRows$Past" "next" "I", Cond.fieldLink RX2 26 "JugglingRows$Past" "kept" "I", Cond.methodLink RX2 29 Lib.Math.min.name, Cond.static Lib.Math.min.name, Cond.initialized "java/lang/Math", Cond.code Lib.Math.min.name Lib.Math.min.code 2 (some .int), Cond.methodLink RX2 22 yX5_copyFrom, Cond.methodLink RL 24 yX7_row, Cond.instanceMethod yX7_row, Cond.selects RX7 yX7_row yX7_row, Cond.code yX7_row cX7_row 3 (some .int), Cond.methodLink RX7 65 yX7_addRow, Cond.instanceMethod yX7_addRow, Cond.selects RX7 yX7_addRow yX7_addRow, Cond.code yX7_addRow cX7_addRow 3 (some .int), Cond.fieldLink RX7 172 "JugglingRows$Stand" "count" "I", Cond.methodLink RX7 266 yX7_powerOfTen, Cond.static yX7_powerOfTen, Cond.code yX7_powerOfTen cX7_powerOfTen 3 (some .int), Cond.methodLink RX7 269 yX3_refuse, Cond.instanceMethod yX3_refuse, Cond.selects RX3 yX3_refuse yX3_refuse, Cond.code yX3_refuse cX3_refuse 3 (some .int), Cond.fieldLink RX3 15 "JugglingRows$Refusals" "reason" "I"]
def wsL_law_r7 : List Cond := [Cond.fieldLink RX3 18 "JugglingRows$Refusals" "detail" "I", Cond.fieldLink RX3 21 "JugglingRows$Refusals" "command" "I", Cond.methodLink RX7 272 yX5_appendRow, Cond.instanceMethod yX5_appendRow, Cond.selects RX5 yX5_appendRow yX5_appendRow, Cond.code yX5_appendRow cX5_appendRow 4 (some .int), Cond.methodLink RX5 47 yX5_rowNumbered, Cond.instanceMethod yX5_rowNumbered, Cond.selects RX5 yX5_rowNumbered yX5_rowNumbered, Cond.code yX5_rowNumbered cX5_rowNumbered 2 (some (.object "JugglingRows$Row")), Cond.methodLink RX5 51 yX4_fill, Cond.instanceMethod yX4_fill, Cond.selects RX4 yX4_fill yX4_fill, Cond.code yX4_fill cX4_fill 5 none, Cond.methodLink RX4 25 yX4_setHeight, Cond.instanceMethod yX4_setHeight, Cond.selects RX4 yX4_setHeight yX4_setHeight, Cond.code yX4_setHeight cX4_setHeight 3 none, Cond.methodLink RL 177 yL_digest, Cond.static yL_digest, Cond.initialized RL, Cond.code yL_digest cL_digest 5 (some .long), Cond.constantLong RL 75 (7), Cond.constantLong RL 77 (31)]
def wsL_law_r8 : List Cond := [Cond.methodLink RL 79 yX7_account, Cond.instanceMethod yX7_account, Cond.selects RX7 yX7_account yX7_account, Cond.code yX7_account cX7_account 2 (some .int), Cond.fieldLink RX7 227 "JugglingRows$Stand" "thrown" "I", Cond.fieldLink RX7 230 "JugglingRows$Stand" "thrownBalls" "I", Cond.fieldLink RX7 233 "JugglingRows$Stand" "highestThrown" "I", Cond.fieldLink RX7 236 "JugglingRows$Stand" "joined" "I", Cond.fieldLink RX7 198 "JugglingRows$Text" "length" "I", Cond.fieldLink RX7 242 "JugglingRows$Past" "kept" "I", Cond.methodLink RX7 218 yX5_countClean, Cond.instanceMethod yX5_countClean, Cond.selects RX5 yX5_countClean yX5_countClean, Cond.code yX5_countClean cX5_countClean 4 (some .int), Cond.methodLink RX5 70 yX4_marksEachLanding, Cond.instanceMethod yX4_marksEachLanding, Cond.selects RX4 yX4_marksEachLanding yX4_marksEachLanding, Cond.code yX4_marksEachLanding cX4_marksEachLanding 3 (some .boolean), Cond.methodLink RX4 39 yX4_landing, Cond.instanceMethod yX4_landing, Cond.selects RX4 yX4_landing yX4_landing, Cond.code yX4_landing cX4_landing 2 (some .int), Cond.methodLink RX7 221 yX5_countThrows, Cond.instanceMethod yX5_countThrows]
def wsL_law_r9 : List Cond := [Cond.selects RX5 yX5_countThrows yX5_countThrows, Cond.code yX5_countThrows cX5_countThrows 4 (some .int), Cond.fieldLink RX5 78 "JugglingRows$Row" "length" "I", Cond.methodLink RX7 224 yX5_ballsOfCleanRows, Cond.instanceMethod yX5_ballsOfCleanRows, Cond.selects RX5 yX5_ballsOfCleanRows yX5_ballsOfCleanRows, Cond.code yX5_ballsOfCleanRows cX5_ballsOfCleanRows 4 (some .int), Cond.methodLink RX5 74 yX4_balls, Cond.instanceMethod yX4_balls, Cond.selects RX4 yX4_balls yX4_balls, Cond.code yX4_balls cX4_balls 1 (some .int), Cond.methodLink RX4 42 yX4_marksEachLanding, Cond.methodLink RX4 46 yX4_sum, Cond.instanceMethod yX4_sum, Cond.selects RX4 yX4_sum yX4_sum, Cond.code yX4_sum cX4_sum 3 (some .int), Cond.methodLink RX4 29 yX4_heightAt, Cond.instanceMethod yX4_heightAt, Cond.selects RX4 yX4_heightAt yX4_heightAt, Cond.code yX4_heightAt cX4_heightAt 2 (some .int), Cond.methodLink RL 82 yX7_juggler, Cond.instanceMethod yX7_juggler, Cond.selects RX7 yX7_juggler yX7_juggler, Cond.code yX7_juggler cX7_juggler 2 (some .int)]
def wsL_law_r10 : List Cond := [Cond.methodLink RX7 147 yX5_balls, Cond.instanceMethod yX5_balls, Cond.selects RX5 yX5_balls yX5_balls, Cond.code yX5_balls cX5_balls 1 (some .int), Cond.methodLink RX5 55 yJ6_bitCount_0f7a4, Cond.static yJ6_bitCount_0f7a4, Cond.initialized RJ6, Cond.code yJ6_bitCount_0f7a4 cJ6_bitCount_0f7a4 1 (some .int), Cond.constant RJ6 265 (1431655765), Cond.constant RJ6 266 (858993459), Cond.constant RJ6 267 (252645135), Cond.methodLink RX7 151 yX7_countPossible, Cond.static yX7_countPossible, Cond.code yX7_countPossible cX7_countPossible 3 (some .int), Cond.methodLink RX7 154 yX7_canMake, Cond.static yX7_canMake, Cond.code yX7_canMake cX7_canMake 3 (some .boolean), Cond.methodLink RL 85 yX7_rowOf, Cond.instanceMethod yX7_rowOf, Cond.selects RX7 yX7_rowOf yX7_rowOf, Cond.code yX7_rowOf cX7_rowOf 4 (some .int), Cond.fieldLink RX7 102 "JugglingRows$Row" "length" "I", Cond.methodLink RX7 98 yX5_rowNumbered, Cond.methodLink RX7 108 yX4_sum]
def wsL_law_r11 : List Cond := [Cond.methodLink RX7 112 yX4_balls, Cond.methodLink RX7 115 yX4_lowestClash, Cond.instanceMethod yX4_lowestClash, Cond.selects RX4 yX4_lowestClash yX4_lowestClash, Cond.code yX4_lowestClash cX4_lowestClash 3 (some .int), Cond.methodLink RX7 118 yX4_period, Cond.instanceMethod yX4_period, Cond.selects RX4 yX4_period yX4_period, Cond.code yX4_period cX4_period 2 (some .int), Cond.methodLink RX4 50 yX4_repeatsBy, Cond.instanceMethod yX4_repeatsBy, Cond.selects RX4 yX4_repeatsBy yX4_repeatsBy, Cond.code yX4_repeatsBy cX4_repeatsBy 3 (some .boolean), Cond.methodLink RX7 121 yX4_greatest, Cond.instanceMethod yX4_greatest, Cond.selects RX4 yX4_greatest yX4_greatest, Cond.code yX4_greatest cX4_greatest 3 (some .int), Cond.methodLink RX4 33 Lib.Math.max.name, Cond.static Lib.Math.max.name, Cond.code Lib.Math.max.name Lib.Math.max.code 2 (some .int), Cond.methodLink RX7 124 yX4_throwsToOtherHand, Cond.instanceMethod yX4_throwsToOtherHand, Cond.selects RX4 yX4_throwsToOtherHand yX4_throwsToOtherHand, Cond.code yX4_throwsToOtherHand cX4_throwsToOtherHand 3 (some .int)]
def wsL_law_r12 : List Cond := [Cond.methodLink RX7 127 yX4_statesDiffer, Cond.instanceMethod yX4_statesDiffer, Cond.selects RX4 yX4_statesDiffer yX4_statesDiffer, Cond.code yX4_statesDiffer cX4_statesDiffer 4 (some .int), Cond.methodLink RX4 54 yX4_period, Cond.methodLink RX4 57 yX4_stateAt, Cond.instanceMethod yX4_stateAt, Cond.selects RX4 yX4_stateAt yX4_stateAt, Cond.code yX4_stateAt cX4_stateAt 6 (some .int), Cond.methodLink RL 88 yX7_throwAt, Cond.instanceMethod yX7_throwAt, Cond.selects RX7 yX7_throwAt yX7_throwAt, Cond.code yX7_throwAt cX7_throwAt 4 (some .int), Cond.methodLink RX7 130 yX4_hasBeat, Cond.instanceMethod yX4_hasBeat, Cond.selects RX4 yX4_hasBeat yX4_hasBeat, Cond.code yX4_hasBeat cX4_hasBeat 2 (some .boolean), Cond.methodLink RX7 134 yX4_heightAt, Cond.methodLink RL 183 yL_cell, Cond.static yL_cell, Cond.code yL_cell cL_cell 2 (some .int), Cond.constant RL 7 (65535), Cond.methodLink RL 187 yL_act, Cond.static yL_act]
def wsL_law_r13 : List Cond := [Cond.code yL_act cL_act 4 (some .int), Cond.methodLink RL 28 yX7_drop, Cond.instanceMethod yX7_drop, Cond.selects RX7 yX7_drop yX7_drop, Cond.code yX7_drop cX7_drop 2 (some .int), Cond.methodLink RX7 73 yX7_dropRow, Cond.instanceMethod yX7_dropRow, Cond.selects RX7 yX7_dropRow yX7_dropRow, Cond.code yX7_dropRow cX7_dropRow 2 (some .int), Cond.methodLink RX7 275 yX5_removeRow, Cond.instanceMethod yX5_removeRow, Cond.selects RX5 yX5_removeRow yX5_removeRow, Cond.code yX5_removeRow cX5_removeRow 4 (some .boolean), Cond.methodLink RL 31 yX7_turn, Cond.instanceMethod yX7_turn, Cond.selects RX7 yX7_turn yX7_turn, Cond.code yX7_turn cX7_turn 2 (some .int), Cond.methodLink RX7 76 yX7_turnRow, Cond.instanceMethod yX7_turnRow, Cond.selects RX7 yX7_turnRow yX7_turnRow, Cond.code yX7_turnRow cX7_turnRow 3 (some .int), Cond.methodLink RX7 278 yX4_moveFirstToEnd, Cond.instanceMethod yX4_moveFirstToEnd, Cond.selects RX4 yX4_moveFirstToEnd yX4_moveFirstToEnd]
def wsL_law_r14 : List Cond := [Cond.code yX4_moveFirstToEnd cX4_moveFirstToEnd 3 none, Cond.methodLink RL 34 yX7_swap, Cond.instanceMethod yX7_swap, Cond.selects RX7 yX7_swap yX7_swap, Cond.code yX7_swap cX7_swap 4 (some .int), Cond.methodLink RX7 79 yX7_swapBeats, Cond.instanceMethod yX7_swapBeats, Cond.selects RX7 yX7_swapBeats yX7_swapBeats, Cond.code yX7_swapBeats cX7_swapBeats 7 (some .int), Cond.methodLink RX7 281 yX4_setHeight, Cond.methodLink RL 38 yX7_lift, Cond.instanceMethod yX7_lift, Cond.selects RX7 yX7_lift yX7_lift, Cond.code yX7_lift cX7_lift 2 (some .int), Cond.methodLink RX7 83 yX7_liftRow, Cond.instanceMethod yX7_liftRow, Cond.selects RX7 yX7_liftRow yX7_liftRow, Cond.code yX7_liftRow cX7_liftRow 4 (some .int), Cond.methodLink RL 44 yX7_toss, Cond.instanceMethod yX7_toss, Cond.selects RX7 yX7_toss yX7_toss, Cond.code yX7_toss cX7_toss 2 (some .int), Cond.methodLink RX7 89 yX7_makeThrow, Cond.instanceMethod yX7_makeThrow]
def wsL_law_r15 : List Cond := [Cond.selects RX7 yX7_makeThrow yX7_makeThrow, Cond.code yX7_makeThrow cX7_makeThrow 3 (some .int), Cond.methodLink RX7 285 yX5_throwOne, Cond.instanceMethod yX5_throwOne, Cond.selects RX5 yX5_throwOne yX5_throwOne, Cond.code yX5_throwOne cX5_throwOne 2 none, Cond.methodLink RX5 65 Lib.Math.max.name, Cond.static yX7_stateBehind, Cond.code yX7_stateBehind cX7_stateBehind 3 (some .int), Cond.methodLink RL 47 yX7_join, Cond.instanceMethod yX7_join, Cond.selects RX7 yX7_join yX7_join, Cond.code yX7_join cX7_join 2 (some .int), Cond.methodLink RX7 92 yX7_makeJoin, Cond.instanceMethod yX7_makeJoin, Cond.selects RX7 yX7_makeJoin yX7_makeJoin, Cond.code yX7_makeJoin cX7_makeJoin 5 (some .int), Cond.methodLink RX7 288 yX7_isOutOfReach, Cond.instanceMethod yX7_isOutOfReach, Cond.selects RX7 yX7_isOutOfReach yX7_isOutOfReach, Cond.code yX7_isOutOfReach cX7_isOutOfReach 4 (some .boolean), Cond.methodLink RX7 141 yX4_stateAt, Cond.methodLink RX7 168 yX0_find, Cond.instanceMethod yX0_find]
def wsL_law_r16 : List Cond := [Cond.selects RX0 yX0_find yX0_find, Cond.code yX0_find cX0_find 7 (some .int), Cond.methodLink RX0 39 yX0_countBack, Cond.instanceMethod yX0_countBack, Cond.selects RX0 yX0_countBack yX0_countBack, Cond.code yX0_countBack cX0_countBack 4 (some .int), Cond.fieldLink RX0 29 "JugglingRows$Joins" "queued" "I", Cond.methodLink RX0 21 yX0_isState, Cond.static yX0_isState, Cond.code yX0_isState cX0_isState 1 (some .boolean), Cond.methodLink RX0 25 yX0_startAt, Cond.instanceMethod yX0_startAt, Cond.selects RX0 yX0_startAt yX0_startAt, Cond.code yX0_startAt cX0_startAt 2 none, Cond.methodLink RX0 53 yJ7_fill_53178, Cond.static yJ7_fill_53178, Cond.initialized RJ7, Cond.code yJ7_fill_53178 cJ7_fill_53178 4 none, Cond.methodLink RX0 59 yX0_reach, Cond.instanceMethod yX0_reach, Cond.selects RX0 yX0_reach yX0_reach, Cond.code yX0_reach cX0_reach 3 none, Cond.methodLink RX0 36 yX0_spreadBack, Cond.instanceMethod yX0_spreadBack]
def wsL_law_r17 : List Cond := [Cond.selects RX0 yX0_spreadBack yX0_spreadBack, Cond.code yX0_spreadBack cX0_spreadBack 4 none, Cond.methodLink RX0 43 yX0_lowestNearer, Cond.instanceMethod yX0_lowestNearer, Cond.selects RX0 yX0_lowestNearer yX0_lowestNearer, Cond.code yX0_lowestNearer cX0_lowestNearer 5 (some .int), Cond.methodLink RX7 171 yX0_heightAt, Cond.instanceMethod yX0_heightAt, Cond.selects RX0 yX0_heightAt yX0_heightAt, Cond.code yX0_heightAt cX0_heightAt 2 (some .int), Cond.methodLink RL 50 yX7_once, Cond.instanceMethod yX7_once, Cond.selects RX7 yX7_once yX7_once, Cond.code yX7_once cX7_once 2 (some .int), Cond.methodLink RX7 95 yX7_makeRowOnce, Cond.instanceMethod yX7_makeRowOnce, Cond.selects RX7 yX7_makeRowOnce yX7_makeRowOnce, Cond.code yX7_makeRowOnce cX7_makeRowOnce 4 (some .int), Cond.methodLink RL 59 yL_write, Cond.static yL_write, Cond.code yL_write cL_write 3 (some (.object "JugglingRows")), Cond.methodLink RL 8 yJ0_length_8abf5, Cond.instanceMethod yJ0_length_8abf5, Cond.selects RJ0 yJ0_length_8abf5 yJ0_length_8abf5]
def wsL_law_r18 : List Cond := [Cond.initialized RJ0, Cond.code yJ0_length_8abf5 cJ0_length_8abf5 1 (some .int), Cond.fieldLink RJ0 9 "java/lang/String" "value" "[B", Cond.methodLink RJ0 335 yJ0_coder_7d493, Cond.instanceMethod yJ0_coder_7d493, Cond.selects RJ0 yJ0_coder_7d493 yJ0_coder_7d493, Cond.code yJ0_coder_7d493 cJ0_coder_7d493 1 (some .byte), Cond.fieldLink RJ0 38 "java/lang/String" "COMPACT_STRINGS" "Z", Cond.fieldLink RJ0 15 "java/lang/String" "coder" "B", Cond.methodLink RL 14 yJ0_charAt_5068e, Cond.instanceMethod yJ0_charAt_5068e, Cond.selects RJ0 yJ0_charAt_5068e yJ0_charAt_5068e, Cond.code yJ0_charAt_5068e cJ0_charAt_5068e 2 (some .char), Cond.methodLink RJ0 492 yJ0_isLatin1_aae02, Cond.instanceMethod yJ0_isLatin1_aae02, Cond.selects RJ0 yJ0_isLatin1_aae02 yJ0_isLatin1_aae02, Cond.code yJ0_isLatin1_aae02 cJ0_isLatin1_aae02 1 (some .boolean), Cond.methodLink RJ0 495 yJ1_charAt_3b067, Cond.static yJ1_charAt_3b067, Cond.initialized RJ1, Cond.code yJ1_charAt_3b067 cJ1_charAt_3b067 2 (some .char), Cond.methodLink RJ1 9 yJ0_checkIndex_df160, Cond.static yJ0_checkIndex_df160, Cond.code yJ0_checkIndex_df160 cJ0_checkIndex_df160 2 none]
def wsL_law_r19 : List Cond := [Cond.fieldLink RJ0 1053 "jdk/internal/util/Preconditions" "SIOOBE_FORMATTER" "Ljava/util/function/BiFunction;", Cond.methodLink RJ0 1059 yJ3_checkIndex_8e157, Cond.static yJ3_checkIndex_8e157, Cond.initialized RJ3, Cond.code yJ3_checkIndex_8e157 cJ3_checkIndex_8e157 3 (some .int), Cond.methodLink RJ0 498 yJ2_charAt_3b067, Cond.static yJ2_charAt_3b067, Cond.initialized RJ2, Cond.code yJ2_charAt_3b067 cJ2_charAt_3b067 2 (some .char), Cond.methodLink RJ2 67 yJ2_checkIndex_2214a, Cond.static yJ2_checkIndex_2214a, Cond.code yJ2_checkIndex_2214a cJ2_checkIndex_2214a 2 none, Cond.methodLink RJ2 48 yJ2_length_9d52b, Cond.static yJ2_length_9d52b, Cond.code yJ2_length_9d52b cJ2_length_9d52b 1 (some .int), Cond.methodLink RJ2 414 yJ0_checkIndex_df160, Cond.methodLink RJ2 71 yJ2_getChar_3b067, Cond.static yJ2_getChar_3b067, Cond.code yJ2_getChar_3b067 cJ2_getChar_3b067 2 (some .char), Cond.fieldLink RJ2 44 "java/lang/StringUTF16" "$assertionsDisabled" "Z", Cond.fieldLink RJ2 59 "java/lang/StringUTF16" "HI_BYTE_SHIFT" "I", Cond.fieldLink RJ2 63 "java/lang/StringUTF16" "LO_BYTE_SHIFT" "I", Cond.methodLink RL 18 yX7_append, Cond.instanceMethod yX7_append]
def wsL_law_r20 : List Cond := [Cond.selects RX7 yX7_append yX7_append, Cond.code yX7_append cX7_append 2 (some .int), Cond.methodLink RX7 196 yX6_put, Cond.instanceMethod yX6_put, Cond.selects RX6 yX6_put yX6_put, Cond.code yX6_put cX6_put 2 (some .boolean), Cond.fieldLink RX6 15 "JugglingRows$Text" "length" "I", Cond.methodLink RL 63 yX7_read, Cond.instanceMethod yX7_read, Cond.selects RX7 yX7_read yX7_read, Cond.code yX7_read cX7_read 3 (some .int), Cond.fieldLink RX7 205 "JugglingRows$Refusals" "commandNow" "I", Cond.methodLink RX7 199 yX6_faultPosition, Cond.instanceMethod yX6_faultPosition, Cond.selects RX6 yX6_faultPosition yX6_faultPosition, Cond.code yX6_faultPosition cX6_faultPosition 6 (some .int), Cond.methodLink RX6 19 yX6_codeAt, Cond.instanceMethod yX6_codeAt, Cond.selects RX6 yX6_codeAt yX6_codeAt, Cond.code yX6_codeAt cX6_codeAt 2 (some .int), Cond.methodLink RX6 26 yX6_digitsBehind, Cond.static yX6_digitsBehind, Cond.code yX6_digitsBehind cX6_digitsBehind 1 (some .int), Cond.methodLink RX6 29 yX6_digitsFrom]
def wsL_law_r21 : List Cond := [Cond.instanceMethod yX6_digitsFrom, Cond.selects RX6 yX6_digitsFrom yX6_digitsFrom, Cond.code yX6_digitsFrom cX6_digitsFrom 4 (some .int), Cond.methodLink RX6 23 yX6_digitAt, Cond.instanceMethod yX6_digitAt, Cond.selects RX6 yX6_digitAt yX6_digitAt, Cond.code yX6_digitAt cX6_digitAt 3 (some .int), Cond.methodLink RX7 202 yX7_carryOutAll, Cond.instanceMethod yX7_carryOutAll, Cond.selects RX7 yX7_carryOutAll yX7_carryOutAll, Cond.code yX7_carryOutAll cX7_carryOutAll 5 (some .int), Cond.methodLink RX7 297 yX7_carryOut, Cond.instanceMethod yX7_carryOut, Cond.selects RX7 yX7_carryOut yX7_carryOut, Cond.code yX7_carryOut cX7_carryOut 3 (some .int), Cond.methodLink RX7 303 yX6_digitAt, Cond.methodLink RX7 306 yX6_codeAt, Cond.methodLink RX7 307 yX6_numberAt, Cond.instanceMethod yX6_numberAt, Cond.selects RX6 yX6_numberAt yX6_numberAt, Cond.code yX6_numberAt cX6_numberAt 5 (some .int), Cond.methodLink RX7 300 yX6_endOfCommand, Cond.instanceMethod yX6_endOfCommand, Cond.selects RX6 yX6_endOfCommand yX6_endOfCommand]
def wsL_law_r22 : List Cond := [Cond.code yX6_endOfCommand cX6_endOfCommand 3 (some .int), Cond.methodLink RX7 208 yX6_clear, Cond.instanceMethod yX6_clear, Cond.selects RX6 yX6_clear yX6_clear, Cond.code yX6_clear cX6_clear 1 none, Cond.methodLink RL 66 yX7_save, Cond.instanceMethod yX7_save, Cond.selects RX7 yX7_save yX7_save, Cond.code yX7_save cX7_save 1 (some .int), Cond.fieldLink RX7 259 "JugglingRows" "hasSnapshot" "Z", Cond.methodLink RL 69 yX7_restore, Cond.instanceMethod yX7_restore, Cond.selects RX7 yX7_restore yX7_restore, Cond.code yX7_restore cX7_restore 1 (some .int), Cond.methodLink RX7 263 yX2_forget, Cond.instanceMethod yX2_forget, Cond.selects RX2 yX2_forget yX2_forget, Cond.code yX2_forget cX2_forget 1 none, Cond.methodLink RL 72 yX7_undo, Cond.instanceMethod yX7_undo, Cond.selects RX7 yX7_undo yX7_undo, Cond.code yX7_undo cX7_undo 1 (some .int), Cond.methodLink RX7 255 yX2_takeBack, Cond.instanceMethod yX2_takeBack]
def wsL_law_r23 : List Cond := [Cond.selects RX2 yX2_takeBack yX2_takeBack, Cond.code yX2_takeBack cX2_takeBack 4 (some .boolean), Cond.methodLink RL 191 yL_isFit, Cond.static yL_isFit, Cond.code yL_isFit cL_isFit 1 (some .boolean), Cond.methodLink RL 164 yL_areRows, Cond.static yL_areRows, Cond.code yL_areRows cL_areRows 10 (some .boolean), Cond.methodLink RL 91 Lib.Math.max.name, Cond.methodLink RL 96 yX7_isClean, Cond.instanceMethod yX7_isClean, Cond.selects RX7 yX7_isClean yX7_isClean, Cond.code yX7_isClean cX7_isClean 3 (some .int), Cond.methodLink RX7 137 yX4_marksEachLanding, Cond.methodLink RL 138 yL_isRow, Cond.static yL_isRow, Cond.code yL_isRow cL_isRow 13 (some .boolean), Cond.methodLink RL 99 yX7_isCleanAgain, Cond.instanceMethod yX7_isCleanAgain, Cond.selects RX7 yX7_isCleanAgain yX7_isCleanAgain, Cond.code yX7_isCleanAgain cX7_isCleanAgain 3 (some .int), Cond.methodLink RL 102 yX7_tellRow, Cond.instanceMethod yX7_tellRow, Cond.selects RX7 yX7_tellRow yX7_tellRow]
def wsL_law_r24 : List Cond := [Cond.code yX7_tellRow cX7_tellRow 4 (some .int), Cond.fieldLink RX7 192 "JugglingRows$Line" "length" "I", Cond.methodLink RX7 181 yX1_clear, Cond.instanceMethod yX1_clear, Cond.selects RX1 yX1_clear yX1_clear, Cond.code yX1_clear cX1_clear 1 none, Cond.fieldLink RX1 15 "JugglingRows$Line" "length" "I", Cond.methodLink RX7 184 yX1_putDigit, Cond.instanceMethod yX1_putDigit, Cond.selects RX1 yX1_putDigit yX1_putDigit, Cond.code yX1_putDigit cX1_putDigit 2 none, Cond.methodLink RX1 19 yX1_put, Cond.instanceMethod yX1_put, Cond.selects RX1 yX1_put yX1_put, Cond.code yX1_put cX1_put 2 none, Cond.methodLink RX7 188 yX1_put, Cond.methodLink RL 105 yX7_stateOf, Cond.instanceMethod yX7_stateOf, Cond.selects RX7 yX7_stateOf yX7_stateOf, Cond.code yX7_stateOf cX7_stateOf 4 (some .int), Cond.methodLink RL 108 yJ6_bitCount_0f7a4, Cond.methodLink RL 113 yL_can, Cond.static yL_can, Cond.code yL_can cL_can 2 (some .boolean)]
def wsL_law_r25 : List Cond := [Cond.methodLink RL 117 yL_behind, Cond.static yL_behind, Cond.code yL_behind cL_behind 2 (some .int), Cond.methodLink RL 142 yL_isJoin, Cond.static yL_isJoin, Cond.code yL_isJoin cL_isJoin 8 (some .boolean), Cond.methodLink RL 126 yX7_joinTo, Cond.instanceMethod yX7_joinTo, Cond.selects RX7 yX7_joinTo yX7_joinTo, Cond.code yX7_joinTo cX7_joinTo 3 (some .int), Cond.methodLink RX7 158 yX7_hasJoin, Cond.instanceMethod yX7_hasJoin, Cond.selects RX7 yX7_hasJoin yX7_hasJoin, Cond.code yX7_hasJoin cX7_hasJoin 2 (some .boolean), Cond.methodLink RX7 162 yX0_countOnward, Cond.instanceMethod yX0_countOnward, Cond.selects RX0 yX0_countOnward yX0_countOnward, Cond.code yX0_countOnward cX0_countOnward 4 (some .int), Cond.methodLink RX0 33 yX0_spreadOnward, Cond.instanceMethod yX0_spreadOnward, Cond.selects RX0 yX0_spreadOnward yX0_spreadOnward, Cond.code yX0_spreadOnward cX0_spreadOnward 3 none, Cond.methodLink RL 129 yX7_joinAgain, Cond.instanceMethod yX7_joinAgain]
def wsL_law_r26 : List Cond := [Cond.selects RX7 yX7_joinAgain yX7_joinAgain, Cond.code yX7_joinAgain cX7_joinAgain 3 (some .int), Cond.methodLink RX7 165 yX0_countBack, Cond.methodLink RL 132 yX7_joinThrow, Cond.instanceMethod yX7_joinThrow, Cond.selects RX7 yX7_joinThrow yX7_joinThrow, Cond.code yX7_joinThrow cX7_joinThrow 5 (some .int), Cond.methodLink RL 135 yX7_tellJoin, Cond.instanceMethod yX7_tellJoin, Cond.selects RX7 yX7_tellJoin yX7_tellJoin, Cond.code yX7_tellJoin cX7_tellJoin 5 (some .int), Cond.methodLink RL 145 yX7_between, Cond.instanceMethod yX7_between, Cond.selects RX7 yX7_between yX7_between, Cond.code yX7_between cX7_between 6 (some .int), Cond.methodLink RL 148 yX7_mean, Cond.instanceMethod yX7_mean, Cond.selects RX7 yX7_mean yX7_mean, Cond.code yX7_mean cX7_mean 2 (some .int), Cond.methodLink RX7 248 yX5_sumOfThrows, Cond.instanceMethod yX5_sumOfThrows, Cond.selects RX5 yX5_sumOfThrows yX5_sumOfThrows, Cond.code yX5_sumOfThrows cX5_sumOfThrows 4 (some .int), Cond.methodLink RX5 81 yX4_sum]
def wsL_law_r27 : List Cond := [Cond.methodLink RX7 251 yX7_bitsOf, Cond.static yX7_bitsOf, Cond.code yX7_bitsOf cX7_bitsOf 4 (some .int), Cond.constantFloat RX7 316 (1258291200), Cond.methodLink RL 151 yJxf58ca_floatToIntBits_5c35a, Cond.static yJxf58ca_floatToIntBits_5c35a, Cond.initialized RJxf58ca, Cond.code yJxf58ca_floatToIntBits_5c35a cJxf58ca_floatToIntBits_5c35a 1 (some .int), Cond.methodLink RJxf58ca 74 ⟨"java/lang/Float", "floatToRawIntBits", "(F)I"⟩, Cond.native ⟨"java/lang/Float", "floatToRawIntBits", "(F)I"⟩, Cond.static ⟨"java/lang/Float", "floatToRawIntBits", "(F)I"⟩, Cond.initialized "java/lang/Float", Cond.constant RJxf58ca 77 (2143289344), Cond.methodLink RJxf58ca 59 yJxf58ca_isNaN_12338, Cond.static yJxf58ca_isNaN_12338, Cond.code yJxf58ca_isNaN_12338 cJxf58ca_isNaN_12338 1 (some .boolean), Cond.methodLink RL 168 yL_isJuggler, Cond.static yL_isJuggler, Cond.code yL_isJuggler cL_isJuggler 6 (some .boolean), Cond.methodLink RL 120 yX7_could, Cond.instanceMethod yX7_could, Cond.selects RX7 yX7_could yX7_could, Cond.code yX7_could cX7_could 4 (some .int), Cond.methodLink RL 123 yX7_tellState]
def wsL_law_r28 : List Cond := [Cond.instanceMethod yX7_tellState, Cond.selects RX7 yX7_tellState yX7_tellState, Cond.code yX7_tellState cX7_tellState 3 (some .int), Cond.methodLink RL 171 yL_areRanked, Cond.static yL_areRanked, Cond.code yL_areRanked cL_areRanked 7 (some .boolean), Cond.methodLink RL 157 yX7_ranked, Cond.instanceMethod yX7_ranked, Cond.selects RX7 yX7_ranked yX7_ranked, Cond.code yX7_ranked cX7_ranked 4 (some .int), Cond.methodLink RX7 175 yX7_rankKey, Cond.instanceMethod yX7_rankKey, Cond.selects RX7 yX7_rankKey yX7_rankKey, Cond.code yX7_rankKey cX7_rankKey 5 (some .int), Cond.methodLink RX7 178 yX7_countAhead, Cond.instanceMethod yX7_countAhead, Cond.selects RX7 yX7_countAhead yX7_countAhead, Cond.code yX7_countAhead cX7_countAhead 4 (some .int), Cond.methodLink RX7 310 yX7_isAhead, Cond.instanceMethod yX7_isAhead, Cond.selects RX7 yX7_isAhead yX7_isAhead, Cond.code yX7_isAhead cX7_isAhead 3 (some .boolean), Cond.methodLink RL 160 yL_worth, Cond.static yL_worth]
def wsL_law_r29 : List Cond := [Cond.code yL_worth cL_worth 3 (some .int), Cond.methodLink RL 174 yX7_isWell, Cond.instanceMethod yX7_isWell, Cond.selects RX7 yX7_isWell yX7_isWell, Cond.code yX7_isWell cX7_isWell 3 (some .int), Cond.methodLink RX7 245 yX7_isRowWell, Cond.instanceMethod yX7_isRowWell, Cond.selects RX7 yX7_isRowWell yX7_isRowWell, Cond.code yX7_isRowWell cX7_isRowWell 4 (some .boolean), Cond.methodLink RX7 313 yX4_statesHoldTheBalls, Cond.instanceMethod yX4_statesHoldTheBalls, Cond.selects RX4 yX4_statesHoldTheBalls yX4_statesHoldTheBalls, Cond.code yX4_statesHoldTheBalls cX4_statesHoldTheBalls 3 (some .boolean), Cond.methodLink RX4 60 yX4_balls, Cond.methodLink RX4 63 yJ6_bitCount_0f7a4, Cond.methodLink RL 194 yL_isMade, Cond.static yL_isMade, Cond.code yL_isMade cL_isMade 10 (some .boolean)]
def wsL_law : List Cond := (wsL_law_r1 ++ (wsL_law_r2 ++ (wsL_law_r3 ++ (wsL_law_r4 ++ (wsL_law_r5 ++ (wsL_law_r6 ++ (wsL_law_r7 ++ (wsL_law_r8 ++ (wsL_law_r9 ++ (wsL_law_r10 ++ (wsL_law_r11 ++ (wsL_law_r12 ++ (wsL_law_r13 ++ (wsL_law_r14 ++ (wsL_law_r15 ++ (wsL_law_r16 ++ (wsL_law_r17 ++ (wsL_law_r18 ++ (wsL_law_r19 ++ (wsL_law_r20 ++ (wsL_law_r21 ++ (wsL_law_r22 ++ (wsL_law_r23 ++ (wsL_law_r24 ++ (wsL_law_r25 ++ (wsL_law_r26 ++ (wsL_law_r27 ++ (wsL_law_r28 ++ wsL_law_r29)))))))))))))))))))))))))))) ++ wsX70 ++ wsX50 ++ wsX20 ++ wsX00 ++ wsX10 ++ wsX60 ++ wsX30 ++ wsX40 ++ ([] : List Cond)
theorem inlX0 : ∀ w ∈ wsX00, w ∈ wsL_law := fun _ h => List.mem_append_left _ (List.mem_append_left _ (List.mem_append_left _ (List.mem_append_left _ (List.mem_append_left _ (List.mem_append_right _ h)))))
theorem inlX1 : ∀ w ∈ wsX10, w ∈ wsL_law := fun _ h => List.mem_append_left _ (List.mem_append_left _ (List.mem_append_left _ (List.mem_append_left _ (List.mem_append_right _ h))))
theorem inlX2 : ∀ w ∈ wsX20, w ∈ wsL_law := fun _ h => List.mem_append_left _ (List.mem_append_left _ (List.mem_append_left _ (List.mem_append_left _ (List.mem_append_left _ (List.mem_append_left _ (List.mem_append_right _ h))))))
theorem inlX3 : ∀ w ∈ wsX30, w ∈ wsL_law := fun _ h => List.mem_append_left _ (List.mem_append_left _ (List.mem_append_right _ h))
theorem inlX4 : ∀ w ∈ wsX40, w ∈ wsL_law := fun _ h => List.mem_append_left _ (List.mem_append_right _ h)
theorem inlX5 : ∀ w ∈ wsX50, w ∈ wsL_law := fun _ h => List.mem_append_left _ (List.mem_append_left _ (List.mem_append_left _ (List.mem_append_left _ (List.mem_append_left _ (List.mem_append_left _ (List.mem_append_left _ (List.mem_append_right _ h)))))))
theorem inlX6 : ∀ w ∈ wsX60, w ∈ wsL_law := fun _ h => List.mem_append_left _ (List.mem_append_left _ (List.mem_append_left _ (List.mem_append_right _ h)))
theorem inlX7 : ∀ w ∈ wsX70, w ∈ wsL_law := fun _ h => List.mem_append_left _ (List.mem_append_left _ (List.mem_append_left _ (List.mem_append_left _ (List.mem_append_left _ (List.mem_append_left _ (List.mem_append_left _ (List.mem_append_left _ (List.mem_append_right _ h))))))))
abbrev vwCl : List vw_C := [(RX0, TX0, 4), (RX1, TX1, 2), (RX2, TX2, 3), (RX3, TX3, 4), (RX4, TX4, 2), (RX5, TX5, 9), (RX6, TX6, 2), (RX7, TX7, 10)]
