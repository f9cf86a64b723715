section
-- ===== PART A: goes FIRST, ahead of the names: the tables' words, and 'selects' of the private methods out of them =====
/-- a private method of a class that the tables say can be made, by its rows of tables_1 -/
def lw_okq (q : MethodName × Nat) : Prop := (q.1.cls ≠ "java/lang/invoke/MethodHandle" ∧ q.1.cls ≠ "java/lang/invoke/VarHandle") ∧ Cond.instantiable q.1.cls q.2 ∈ tables_1 ∧ Cond.privateMethod q.1 ∈ tables_1 ∧ Cond.instanceMethod q.1 ∈ tables_1
theorem lw_p0 : lw_okq (⟨"WaysKept", "restart", "(I)V"⟩, 5) := ⟨⟨by decide +kernel, by decide +kernel⟩, List.mem_of_getElem? (i := 12) (by decide +kernel), List.mem_of_getElem? (i := 106) (by decide +kernel), List.mem_of_getElem? (i := 107) (by decide +kernel)⟩
theorem lw_p1 : lw_okq (⟨"WaysKept", "keepAct", "()V"⟩, 5) := ⟨⟨by decide +kernel, by decide +kernel⟩, List.mem_of_getElem? (i := 12) (by decide +kernel), List.mem_of_getElem? (i := 118) (by decide +kernel), List.mem_of_getElem? (i := 119) (by decide +kernel)⟩
theorem lw_p2 : lw_okq (⟨"WaysKept$Ways", "spread", "(III)V"⟩, 3) := ⟨⟨by decide +kernel, by decide +kernel⟩, List.mem_of_getElem? (i := 64) (by decide +kernel), List.mem_of_getElem? (i := 130) (by decide +kernel), List.mem_of_getElem? (i := 131) (by decide +kernel)⟩
theorem lw_p3 : lw_okq (⟨"WaysKept$Ways", "relax", "(I)Z"⟩, 3) := ⟨⟨by decide +kernel, by decide +kernel⟩, List.mem_of_getElem? (i := 64) (by decide +kernel), List.mem_of_getElem? (i := 138) (by decide +kernel), List.mem_of_getElem? (i := 139) (by decide +kernel)⟩
theorem lw_p4 : lw_okq (⟨"WaysKept$Ways", "costOf", "(I)I"⟩, 3) := ⟨⟨by decide +kernel, by decide +kernel⟩, List.mem_of_getElem? (i := 64) (by decide +kernel), List.mem_of_getElem? (i := 142) (by decide +kernel), List.mem_of_getElem? (i := 143) (by decide +kernel)⟩
theorem lw_p5 : lw_okq (⟨"WaysKept$Ways", "lower", "(III)Z"⟩, 3) := ⟨⟨by decide +kernel, by decide +kernel⟩, List.mem_of_getElem? (i := 64) (by decide +kernel), List.mem_of_getElem? (i := 146) (by decide +kernel), List.mem_of_getElem? (i := 147) (by decide +kernel)⟩
theorem lw_p6 : lw_okq (⟨"WaysKept$Past", "makeRoom", "()V"⟩, 2) := ⟨⟨by decide +kernel, by decide +kernel⟩, List.mem_of_getElem? (i := 80) (by decide +kernel), List.mem_of_getElem? (i := 164) (by decide +kernel), List.mem_of_getElem? (i := 165) (by decide +kernel)⟩
theorem lw_p7 : lw_okq (⟨"WaysKept", "wouldSinkAt", "(II)Z"⟩, 5) := ⟨⟨by decide +kernel, by decide +kernel⟩, List.mem_of_getElem? (i := 12) (by decide +kernel), List.mem_of_getElem? (i := 253) (by decide +kernel), List.mem_of_getElem? (i := 254) (by decide +kernel)⟩
theorem lw_p8 : lw_okq (⟨"WaysKept$Ways", "lineToward", "(II)I"⟩, 3) := ⟨⟨by decide +kernel, by decide +kernel⟩, List.mem_of_getElem? (i := 64) (by decide +kernel), List.mem_of_getElem? (i := 315) (by decide +kernel), List.mem_of_getElem? (i := 316) (by decide +kernel)⟩
theorem lw_p9 : lw_okq (⟨"WaysKept$Ways", "isOnWay", "(III)Z"⟩, 3) := ⟨⟨by decide +kernel, by decide +kernel⟩, List.mem_of_getElem? (i := 64) (by decide +kernel), List.mem_of_getElem? (i := 338) (by decide +kernel), List.mem_of_getElem? (i := 339) (by decide +kernel)⟩
theorem lw_p10 : lw_okq (⟨"WaysKept$Ways", "ringOver", "(I)I"⟩, 3) := ⟨⟨by decide +kernel, by decide +kernel⟩, List.mem_of_getElem? (i := 64) (by decide +kernel), List.mem_of_getElem? (i := 356) (by decide +kernel), List.mem_of_getElem? (i := 357) (by decide +kernel)⟩
theorem lw_p11 : lw_okq (⟨"WaysKept$Past", "isMoved", "(II)Z"⟩, 2) := ⟨⟨by decide +kernel, by decide +kernel⟩, List.mem_of_getElem? (i := 80) (by decide +kernel), List.mem_of_getElem? (i := 385) (by decide +kernel), List.mem_of_getElem? (i := 386) (by decide +kernel)⟩
theorem lw_p12 : lw_okq (⟨"WaysKept$Hitting", "meetsAll", "(I)Z"⟩, 2) := ⟨⟨by decide +kernel, by decide +kernel⟩, List.mem_of_getElem? (i := 93) (by decide +kernel), List.mem_of_getElem? (i := 458) (by decide +kernel), List.mem_of_getElem? (i := 459) (by decide +kernel)⟩
theorem lw_p13 : lw_okq (⟨"WaysKeptModel", "learn", "(II)Z"⟩, 13) := ⟨⟨by decide +kernel, by decide +kernel⟩, List.mem_of_getElem? (i := 471) (by decide +kernel), List.mem_of_getElem? (i := 478) (by decide +kernel), List.mem_of_getElem? (i := 479) (by decide +kernel)⟩
theorem lw_p14 : lw_okq (⟨"WaysKeptModel", "keep", "()V"⟩, 13) := ⟨⟨by decide +kernel, by decide +kernel⟩, List.mem_of_getElem? (i := 471) (by decide +kernel), List.mem_of_getElem? (i := 483) (by decide +kernel), List.mem_of_getElem? (i := 484) (by decide +kernel)⟩
theorem lw_p15 : lw_okq (⟨"WaysKeptModel", "noPost", "(I)Z"⟩, 13) := ⟨⟨by decide +kernel, by decide +kernel⟩, List.mem_of_getElem? (i := 471) (by decide +kernel), List.mem_of_getElem? (i := 543) (by decide +kernel), List.mem_of_getElem? (i := 544) (by decide +kernel)⟩
def lw_privs_1 : List (MethodName × Nat) := [(⟨"WaysKept", "restart", "(I)V"⟩, 5), (⟨"WaysKept", "keepAct", "()V"⟩, 5), (⟨"WaysKept$Ways", "spread", "(III)V"⟩, 3), (⟨"WaysKept$Ways", "relax", "(I)Z"⟩, 3), (⟨"WaysKept$Ways", "costOf", "(I)I"⟩, 3), (⟨"WaysKept$Ways", "lower", "(III)Z"⟩, 3), (⟨"WaysKept$Past", "makeRoom", "()V"⟩, 2), (⟨"WaysKept", "wouldSinkAt", "(II)Z"⟩, 5), (⟨"WaysKept$Ways", "lineToward", "(II)I"⟩, 3), (⟨"WaysKept$Ways", "isOnWay", "(III)Z"⟩, 3), (⟨"WaysKept$Ways", "ringOver", "(I)I"⟩, 3), (⟨"WaysKept$Past", "isMoved", "(II)Z"⟩, 2), (⟨"WaysKept$Hitting", "meetsAll", "(I)Z"⟩, 2), (⟨"WaysKeptModel", "learn", "(II)Z"⟩, 13), (⟨"WaysKeptModel", "keep", "()V"⟩, 13), (⟨"WaysKeptModel", "noPost", "(I)Z"⟩, 13)]
theorem lw_r1 : ∀ q ∈ lw_privs_1, lw_okq q := List.forall_mem_cons.mpr ⟨lw_p0, List.forall_mem_cons.mpr ⟨lw_p1, List.forall_mem_cons.mpr ⟨lw_p2, List.forall_mem_cons.mpr ⟨lw_p3, List.forall_mem_cons.mpr ⟨lw_p4, List.forall_mem_cons.mpr ⟨lw_p5, List.forall_mem_cons.mpr ⟨lw_p6, List.forall_mem_cons.mpr ⟨lw_p7, List.forall_mem_cons.mpr ⟨lw_p8, List.forall_mem_cons.mpr ⟨lw_p9, List.forall_mem_cons.mpr ⟨lw_p10, List.forall_mem_cons.mpr ⟨lw_p11, List.forall_mem_cons.mpr ⟨lw_p12, List.forall_mem_cons.mpr ⟨lw_p13, List.forall_mem_cons.mpr ⟨lw_p14, List.forall_mem_cons.mpr ⟨lw_p15, fun _ h => absurd h List.not_mem_nil⟩⟩⟩⟩⟩⟩⟩⟩⟩⟩⟩⟩⟩⟩⟩⟩
theorem lw_p16 : lw_okq (⟨"WaysKeptModel", "farOf", "(II)I"⟩, 13) := ⟨⟨by decide +kernel, by decide +kernel⟩, List.mem_of_getElem? (i := 471) (by decide +kernel), List.mem_of_getElem? (i := 549) (by decide +kernel), List.mem_of_getElem? (i := 550) (by decide +kernel)⟩
theorem lw_p17 : lw_okq (⟨"WaysKeptModel", "did", "()V"⟩, 13) := ⟨⟨by decide +kernel, by decide +kernel⟩, List.mem_of_getElem? (i := 471) (by decide +kernel), List.mem_of_getElem? (i := 553) (by decide +kernel), List.mem_of_getElem? (i := 554) (by decide +kernel)⟩
theorem lw_p18 : lw_okq (⟨"WaysKeptModel", "noLine", "(I)Z"⟩, 13) := ⟨⟨by decide +kernel, by decide +kernel⟩, List.mem_of_getElem? (i := 471) (by decide +kernel), List.mem_of_getElem? (i := 561) (by decide +kernel), List.mem_of_getElem? (i := 562) (by decide +kernel)⟩
theorem lw_p19 : lw_okq (⟨"WaysKeptModel", "there", "()I"⟩, 13) := ⟨⟨by decide +kernel, by decide +kernel⟩, List.mem_of_getElem? (i := 471) (by decide +kernel), List.mem_of_getElem? (i := 569) (by decide +kernel), List.mem_of_getElem? (i := 570) (by decide +kernel)⟩
theorem lw_p20 : lw_okq (⟨"WaysKeptModel", "heightOf", "(I)I"⟩, 13) := ⟨⟨by decide +kernel, by decide +kernel⟩, List.mem_of_getElem? (i := 471) (by decide +kernel), List.mem_of_getElem? (i := 581) (by decide +kernel), List.mem_of_getElem? (i := 582) (by decide +kernel)⟩
theorem lw_p21 : lw_okq (⟨"WaysKeptModel", "nextOf", "(II)I"⟩, 13) := ⟨⟨by decide +kernel, by decide +kernel⟩, List.mem_of_getElem? (i := 471) (by decide +kernel), List.mem_of_getElem? (i := 597) (by decide +kernel), List.mem_of_getElem? (i := 598) (by decide +kernel)⟩
theorem lw_p22 : lw_okq (⟨"WaysKeptModel", "other", "(II)I"⟩, 13) := ⟨⟨by decide +kernel, by decide +kernel⟩, List.mem_of_getElem? (i := 471) (by decide +kernel), List.mem_of_getElem? (i := 601) (by decide +kernel), List.mem_of_getElem? (i := 602) (by decide +kernel)⟩
theorem lw_p23 : lw_okq (⟨"WaysKeptModel", "isMoved", "(II)Z"⟩, 13) := ⟨⟨by decide +kernel, by decide +kernel⟩, List.mem_of_getElem? (i := 471) (by decide +kernel), List.mem_of_getElem? (i := 633) (by decide +kernel), List.mem_of_getElem? (i := 634) (by decide +kernel)⟩
theorem lw_p24 : lw_okq (⟨"WaysKeptModel", "nearOf", "(II)I"⟩, 13) := ⟨⟨by decide +kernel, by decide +kernel⟩, List.mem_of_getElem? (i := 471) (by decide +kernel), List.mem_of_getElem? (i := 659) (by decide +kernel), List.mem_of_getElem? (i := 660) (by decide +kernel)⟩
def lw_privs_2 : List (MethodName × Nat) := [(⟨"WaysKeptModel", "farOf", "(II)I"⟩, 13), (⟨"WaysKeptModel", "did", "()V"⟩, 13), (⟨"WaysKeptModel", "noLine", "(I)Z"⟩, 13), (⟨"WaysKeptModel", "there", "()I"⟩, 13), (⟨"WaysKeptModel", "heightOf", "(I)I"⟩, 13), (⟨"WaysKeptModel", "nextOf", "(II)I"⟩, 13), (⟨"WaysKeptModel", "other", "(II)I"⟩, 13), (⟨"WaysKeptModel", "isMoved", "(II)Z"⟩, 13), (⟨"WaysKeptModel", "nearOf", "(II)I"⟩, 13)]
theorem lw_r2 : ∀ q ∈ lw_privs_2, lw_okq q := List.forall_mem_cons.mpr ⟨lw_p16, List.forall_mem_cons.mpr ⟨lw_p17, List.forall_mem_cons.mpr ⟨lw_p18, List.forall_mem_cons.mpr ⟨lw_p19, List.forall_mem_cons.mpr ⟨lw_p20, List.forall_mem_cons.mpr ⟨lw_p21, List.forall_mem_cons.mpr ⟨lw_p22, List.forall_mem_cons.mpr ⟨lw_p23, List.forall_mem_cons.mpr ⟨lw_p24, fun _ h => absurd h List.not_mem_nil⟩⟩⟩⟩⟩⟩⟩⟩⟩
def lw_privs : List (MethodName × Nat) := lw_privs_1 ++ (lw_privs_2)
def lw_tbl : List Cond := k2_sels lw_privs ++ tables_1
theorem lw_privs_ok : ∀ q ∈ lw_privs, lw_okq q := by
  show ∀ q ∈ lw_privs_1 ++ (lw_privs_2), lw_okq q
  exact List.forall_mem_append.mpr ⟨lw_r1, lw_r2⟩
end
section
/-! ===== BEGIN words of one list among another's, by their places ===== -/
theorem goodIn_r {big : List Cond} (ws : List Cond) (ps : List Nat) (hp : ws = ps.filterMap (fun i => big[i]?)) (h : ws.all goodWord = true) : GoodIn big ws := by
  intro w hw
  have h1 := List.all_eq_true.mp h w hw
  rw [hp] at hw
  obtain ⟨i, -, hi⟩ := List.mem_filterMap.mp hw
  have hm : w ∈ big := by first | exact List.mem_of_getElem? hi | exact List.getElem?_mem hi
  exact ⟨hm, good_of_word h1⟩
theorem goodIn_app {big a b : List Cond} (ha : GoodIn big a) (hb : GoodIn big b) : GoodIn big (a ++ b) := fun w h => (List.mem_append.mp h).elim (ha w) (hb w)
theorem goodIn_ca {big a b : List Cond} {c : Cond} (ha : GoodIn big (c :: a)) (hb : GoodIn big b) : GoodIn big (c :: (a ++ b)) := fun w h => (List.mem_cons.mp h).elim (fun e => ha w (List.mem_cons.mpr (Or.inl e))) (fun h => (List.mem_append.mp h).elim (fun h => ha w (List.mem_cons.mpr (Or.inr h))) (hb w))
theorem goodIn_sub {big ws : List Cond} (hm : ∀ w ∈ ws, w ∈ big) (h : ws.all goodWord = true) : GoodIn big ws := fun w hw => ⟨hm w hw, good_of_word (List.all_eq_true.mp h w hw)⟩
/-! ===== END ===== -/

/-! ===== BEGIN printed: names, fields, word lists, decode rows ===== -/
def RX0 : String := "WaysKept$Hitting"
def TX0 : u_T := fun k => match k with
  | 0 => ("WaysKept$Hitting", "asked", "[I", true)
  | _ => ("WaysKept$Hitting", "size", "I", false)
def tyX0 : Nat → FieldType := fun k => match k with
  | 0 => .array .int
  | _ => .int
abbrev wsX00 : List Cond := u_ws RX0 TX0 2
theorem nmX0 : ∀ a, a < 2 → ∀ b, b < 2 → a ≠ b → (TX0 a).2.1 ≠ (TX0 b).2.1 := by decide +kernel
theorem tyX0_ok : ∀ k, k < 2 → parseFieldDescriptor (TX0 k).2.2.1 = some (tyX0 k) := by decide +kernel
abbrev cX0_init : ByteArray := prog_2_method_1_code
def yX0_init : MethodName := ⟨RX0, "<init>", "()V"⟩
abbrev cX0_askFor : ByteArray := prog_2_method_2_code
def yX0_askFor : MethodName := ⟨RX0, "askFor", "(LWaysKept$Ways;II)V"⟩
abbrev cX0_fewest : ByteArray := prog_2_method_3_code
def yX0_fewest : MethodName := ⟨RX0, "fewest", "(I)I"⟩
abbrev cX0_meetsAll : ByteArray := prog_2_method_4_code
def yX0_meetsAll : MethodName := ⟨RX0, "meetsAll", "(I)Z"⟩
def RX1 : String := "WaysKept$Net"
def TX1 : u_T := fun k => match k with
  | 0 => ("WaysKept$Net", "begins", "[I", true)
  | 1 => ("WaysKept$Net", "ends", "[I", true)
  | 2 => ("WaysKept$Net", "prices", "[I", true)
  | 3 => ("WaysKept$Net", "bothWays", "[Z", true)
  | 4 => ("WaysKept$Net", "there", "[Z", true)
  | 5 => ("WaysKept$Net", "posts", "I", false)
  | _ => ("WaysKept$Net", "lines", "I", false)
def tyX1 : Nat → FieldType := fun k => match k with
  | 0 => .array .int
  | 1 => .array .int
  | 2 => .array .int
  | 3 => .array .boolean
  | 4 => .array .boolean
  | 5 => .int
  | _ => .int
abbrev wsX10 : List Cond := u_ws RX1 TX1 7
theorem nmX1 : ∀ a, a < 7 → ∀ b, b < 7 → a ≠ b → (TX1 a).2.1 ≠ (TX1 b).2.1 := by decide +kernel
theorem tyX1_ok : ∀ k, k < 7 → parseFieldDescriptor (TX1 k).2.2.1 = some (tyX1 k) := by decide +kernel
abbrev cX1_init : ByteArray := prog_3_method_1_code
def yX1_init : MethodName := ⟨RX1, "<init>", "()V"⟩
abbrev cX1_clear : ByteArray := prog_3_method_2_code
def yX1_clear : MethodName := ⟨RX1, "clear", "(I)V"⟩
abbrev cX1_hasPost : ByteArray := prog_3_method_3_code
def yX1_hasPost : MethodName := ⟨RX1, "hasPost", "(I)Z"⟩
abbrev cX1_hasPosts : ByteArray := prog_3_method_4_code
def yX1_hasPosts : MethodName := ⟨RX1, "hasPosts", "(II)Z"⟩
abbrev cX1_hasLine : ByteArray := prog_3_method_5_code
def yX1_hasLine : MethodName := ⟨RX1, "hasLine", "(I)Z"⟩
abbrev cX1_add : ByteArray := prog_3_method_6_code
def yX1_add : MethodName := ⟨RX1, "add", "(IIIZ)I"⟩
abbrev cX1_countThere : ByteArray := prog_3_method_7_code
def yX1_countThere : MethodName := ⟨RX1, "countThere", "()I"⟩
abbrev cX1_target : ByteArray := prog_3_method_8_code
def yX1_target : MethodName := ⟨RX1, "target", "(II)I"⟩
abbrev cX1_touches : ByteArray := prog_3_method_9_code
def yX1_touches : MethodName := ⟨RX1, "touches", "(II)Z"⟩
def RX2 : String := "WaysKept$Past"
def TX2 : u_T := fun k => match k with
  | 0 => ("WaysKept$Past", "fars", "[I", false)
  | _ => ("WaysKept$Past", "rows", "I", false)
def tyX2 : Nat → FieldType := fun k => match k with
  | 0 => .array .int
  | _ => .int
abbrev wsX20 : List Cond := u_ws RX2 TX2 2
theorem nmX2 : ∀ a, a < 2 → ∀ b, b < 2 → a ≠ b → (TX2 a).2.1 ≠ (TX2 b).2.1 := by decide +kernel
theorem tyX2_ok : ∀ k, k < 2 → parseFieldDescriptor (TX2 k).2.2.1 = some (tyX2 k) := by decide +kernel
abbrev cX2_init : ByteArray := prog_4_method_1_code
def yX2_init : MethodName := ⟨RX2, "<init>", "()V"⟩
abbrev cX2_clear : ByteArray := prog_4_method_2_code
def yX2_clear : MethodName := ⟨RX2, "clear", "()V"⟩
abbrev cX2_countActs : ByteArray := prog_4_method_3_code
def yX2_countActs : MethodName := ⟨RX2, "countActs", "()I"⟩
abbrev cX2_isFull : ByteArray := prog_4_method_4_code
def yX2_isFull : MethodName := ⟨RX2, "isFull", "()Z"⟩
abbrev cX2_hasAct : ByteArray := prog_4_method_5_code
def yX2_hasAct : MethodName := ⟨RX2, "hasAct", "(I)Z"⟩
abbrev cX2_keep : ByteArray := prog_4_method_6_code
def yX2_keep : MethodName := ⟨RX2, "keep", "(LWaysKept$Ways;)V"⟩
abbrev cX2_leastAsOf : ByteArray := prog_4_method_7_code
def yX2_leastAsOf : MethodName := ⟨RX2, "leastAsOf", "(II)I"⟩
abbrev cX2_countMoved : ByteArray := prog_4_method_8_code
def yX2_countMoved : MethodName := ⟨RX2, "countMoved", "(I)I"⟩
abbrev cX2_movedPair : ByteArray := prog_4_method_9_code
def yX2_movedPair : MethodName := ⟨RX2, "movedPair", "(II)I"⟩
abbrev cX2_firstWithin : ByteArray := prog_4_method_10_code
def yX2_firstWithin : MethodName := ⟨RX2, "firstWithin", "(III)I"⟩
abbrev cX2_isMoved : ByteArray := prog_4_method_11_code
def yX2_isMoved : MethodName := ⟨RX2, "isMoved", "(II)Z"⟩
abbrev cX2_makeRoom : ByteArray := prog_4_method_12_code
def yX2_makeRoom : MethodName := ⟨RX2, "makeRoom", "()V"⟩
def RX3 : String := "WaysKept$Ways"
def TX3 : u_T := fun k => match k with
  | 0 => ("WaysKept$Ways", "net", "LWaysKept$Net;", true)
  | 1 => ("WaysKept$Ways", "costs", "[I", true)
  | _ => ("WaysKept$Ways", "reached", "[I", true)
def tyX3 : Nat → FieldType := fun k => match k with
  | 0 => .object "WaysKept$Net"
  | 1 => .array .int
  | _ => .array .int
abbrev wsX30 : List Cond := u_ws RX3 TX3 3
theorem nmX3 : ∀ a, a < 3 → ∀ b, b < 3 → a ≠ b → (TX3 a).2.1 ≠ (TX3 b).2.1 := by decide +kernel
theorem tyX3_ok : ∀ k, k < 3 → parseFieldDescriptor (TX3 k).2.2.1 = some (tyX3 k) := by decide +kernel
abbrev cX3_init : ByteArray := prog_5_method_1_code
def yX3_init : MethodName := ⟨RX3, "<init>", "(LWaysKept$Net;)V"⟩
abbrev cX3_measure : ByteArray := prog_5_method_2_code
def yX3_measure : MethodName := ⟨RX3, "measure", "()V"⟩
abbrev cX3_leads : ByteArray := prog_5_method_3_code
def yX3_leads : MethodName := ⟨RX3, "leads", "(II)Z"⟩
abbrev cX3_leastPrice : ByteArray := prog_5_method_4_code
def yX3_leastPrice : MethodName := ⟨RX3, "leastPrice", "(II)I"⟩
abbrev cX3_length : ByteArray := prog_5_method_5_code
def yX3_length : MethodName := ⟨RX3, "length", "(II)I"⟩
abbrev cX3_lineAt : ByteArray := prog_5_method_6_code
def yX3_lineAt : MethodName := ⟨RX3, "lineAt", "(III)I"⟩
abbrev cX3_between : ByteArray := prog_5_method_7_code
def yX3_between : MethodName := ⟨RX3, "between", "(II)I"⟩
abbrev cX3_leastAvoiding : ByteArray := prog_5_method_8_code
def yX3_leastAvoiding : MethodName := ⟨RX3, "leastAvoiding", "(IIII)I"⟩
abbrev cX3_isVital : ByteArray := prog_5_method_9_code
def yX3_isVital : MethodName := ⟨RX3, "isVital", "(III)Z"⟩
abbrev cX3_wouldSink : ByteArray := prog_5_method_10_code
def yX3_wouldSink : MethodName := ⟨RX3, "wouldSink", "(IIIZI)Z"⟩
abbrev cX3_leastRing : ByteArray := prog_5_method_11_code
def yX3_leastRing : MethodName := ⟨RX3, "leastRing", "()I"⟩
abbrev cX3_heightOf : ByteArray := prog_5_method_12_code
def yX3_heightOf : MethodName := ⟨RX3, "heightOf", "(I)I"⟩
abbrev cX3_lifted : ByteArray := prog_5_method_13_code
def yX3_lifted : MethodName := ⟨RX3, "lifted", "(I)I"⟩
abbrev cX3_leastThrough : ByteArray := prog_5_method_14_code
def yX3_leastThrough : MethodName := ⟨RX3, "leastThrough", "(III)I"⟩
abbrev cX3_countLinked : ByteArray := prog_5_method_15_code
def yX3_countLinked : MethodName := ⟨RX3, "countLinked", "()I"⟩
abbrev cX3_spread : ByteArray := prog_5_method_16_code
def yX3_spread : MethodName := ⟨RX3, "spread", "(III)V"⟩
abbrev cX3_relax : ByteArray := prog_5_method_17_code
def yX3_relax : MethodName := ⟨RX3, "relax", "(I)Z"⟩
abbrev cX3_lower : ByteArray := prog_5_method_18_code
def yX3_lower : MethodName := ⟨RX3, "lower", "(III)Z"⟩
abbrev cX3_lineToward : ByteArray := prog_5_method_19_code
def yX3_lineToward : MethodName := ⟨RX3, "lineToward", "(II)I"⟩
abbrev cX3_isOnWay : ByteArray := prog_5_method_20_code
def yX3_isOnWay : MethodName := ⟨RX3, "isOnWay", "(III)Z"⟩
abbrev cX3_ringOver : ByteArray := prog_5_method_21_code
def yX3_ringOver : MethodName := ⟨RX3, "ringOver", "(I)I"⟩
abbrev cX3_costOf : ByteArray := prog_5_method_22_code
def yX3_costOf : MethodName := ⟨RX3, "costOf", "(I)I"⟩
abbrev cX3_closesBelow : ByteArray := prog_5_method_23_code
def yX3_closesBelow : MethodName := ⟨RX3, "closesBelow", "(II)Z"⟩
abbrev cX3_priceIn : ByteArray := prog_5_method_24_code
def yX3_priceIn : MethodName := ⟨RX3, "priceIn", "(I)I"⟩
def RX4 : String := "WaysKept"
def TX4 : u_T := fun k => match k with
  | 0 => ("WaysKept", "net", "LWaysKept$Net;", true)
  | 1 => ("WaysKept", "ways", "LWaysKept$Ways;", true)
  | 2 => ("WaysKept", "past", "LWaysKept$Past;", true)
  | 3 => ("WaysKept", "hitting", "LWaysKept$Hitting;", true)
  | _ => ("WaysKept", "marked", "I", false)
def tyX4 : Nat → FieldType := fun k => match k with
  | 0 => .object "WaysKept$Net"
  | 1 => .object "WaysKept$Ways"
  | 2 => .object "WaysKept$Past"
  | 3 => .object "WaysKept$Hitting"
  | _ => .int
abbrev wsX40 : List Cond := u_ws RX4 TX4 5
theorem nmX4 : ∀ a, a < 5 → ∀ b, b < 5 → a ≠ b → (TX4 a).2.1 ≠ (TX4 b).2.1 := by decide +kernel
theorem tyX4_ok : ∀ k, k < 5 → parseFieldDescriptor (TX4 k).2.2.1 = some (tyX4 k) := by decide +kernel
abbrev cX4_init : ByteArray := prog_1_method_1_code
def yX4_init : MethodName := ⟨RX4, "<init>", "()V"⟩
abbrev cX4_posts : ByteArray := prog_1_method_2_code
def yX4_posts : MethodName := ⟨RX4, "posts", "(I)I"⟩
abbrev cX4_line : ByteArray := prog_1_method_3_code
def yX4_line : MethodName := ⟨RX4, "line", "(IIIZ)I"⟩
abbrev cX4_price : ByteArray := prog_1_method_4_code
def yX4_price : MethodName := ⟨RX4, "price", "(II)I"⟩
abbrev cX4_cut : ByteArray := prog_1_method_5_code
def yX4_cut : MethodName := ⟨RX4, "cut", "(I)I"⟩
abbrev cX4_back : ByteArray := prog_1_method_6_code
def yX4_back : MethodName := ⟨RX4, "back", "(I)I"⟩
abbrev cX4_told : ByteArray := prog_1_method_7_code
def yX4_told : MethodName := ⟨RX4, "told", "(II)I"⟩
abbrev cX4_far : ByteArray := prog_1_method_8_code
def yX4_far : MethodName := ⟨RX4, "far", "(II)I"⟩
abbrev cX4_steps : ByteArray := prog_1_method_9_code
def yX4_steps : MethodName := ⟨RX4, "steps", "(II)I"⟩
abbrev cX4_way : ByteArray := prog_1_method_10_code
def yX4_way : MethodName := ⟨RX4, "way", "(III)I"⟩
abbrev cX4_without : ByteArray := prog_1_method_11_code
def yX4_without : MethodName := ⟨RX4, "without", "(III)I"⟩
abbrev cX4_vital : ByteArray := prog_1_method_12_code
def yX4_vital : MethodName := ⟨RX4, "vital", "(III)I"⟩
abbrev cX4_about : ByteArray := prog_1_method_13_code
def yX4_about : MethodName := ⟨RX4, "about", "(III)I"⟩
abbrev cX4_ring : ByteArray := prog_1_method_14_code
def yX4_ring : MethodName := ⟨RX4, "ring", "()I"⟩
abbrev cX4_height : ByteArray := prog_1_method_15_code
def yX4_height : MethodName := ⟨RX4, "height", "(I)I"⟩
abbrev cX4_acts : ByteArray := prog_1_method_16_code
def yX4_acts : MethodName := ⟨RX4, "acts", "()I"⟩
abbrev cX4_moved : ByteArray := prog_1_method_17_code
def yX4_moved : MethodName := ⟨RX4, "moved", "(I)I"⟩
abbrev cX4_pair : ByteArray := prog_1_method_18_code
def yX4_pair : MethodName := ⟨RX4, "pair", "(II)I"⟩
abbrev cX4_then : ByteArray := prog_1_method_19_code
def yX4_then : MethodName := ⟨RX4, "then", "(III)I"⟩
abbrev cX4_since : ByteArray := prog_1_method_20_code
def yX4_since : MethodName := ⟨RX4, "since", "(IIII)I"⟩
abbrev cX4_marks : ByteArray := prog_1_method_21_code
def yX4_marks : MethodName := ⟨RX4, "marks", "(I)I"⟩
abbrev cX4_near : ByteArray := prog_1_method_22_code
def yX4_near : MethodName := ⟨RX4, "near", "(II)I"⟩
abbrev cX4_worst : ByteArray := prog_1_method_23_code
def yX4_worst : MethodName := ⟨RX4, "worst", "()I"⟩
abbrev cX4_hits : ByteArray := prog_1_method_24_code
def yX4_hits : MethodName := ⟨RX4, "hits", "(I)I"⟩
abbrev cX4_count : ByteArray := prog_1_method_25_code
def yX4_count : MethodName := ⟨RX4, "count", "(I)I"⟩
abbrev cX4_restart : ByteArray := prog_1_method_26_code
def yX4_restart : MethodName := ⟨RX4, "restart", "(I)V"⟩
abbrev cX4_keepAct : ByteArray := prog_1_method_27_code
def yX4_keepAct : MethodName := ⟨RX4, "keepAct", "()V"⟩
abbrev cX4_wouldSinkAt : ByteArray := prog_1_method_28_code
def yX4_wouldSinkAt : MethodName := ⟨RX4, "wouldSinkAt", "(II)Z"⟩
abbrev cX4_mayCost : ByteArray := prog_1_method_29_code
def yX4_mayCost : MethodName := ⟨RX4, "mayCost", "(IZ)Z"⟩
abbrev cX4_asNumber : ByteArray := prog_1_method_30_code
def yX4_asNumber : MethodName := ⟨RX4, "asNumber", "(Z)I"⟩
abbrev cX4_pairOf : ByteArray := prog_1_method_31_code
def yX4_pairOf : MethodName := ⟨RX4, "pairOf", "(II)I"⟩
def RX5 : String := "WaysKeptModel"
def TX5 : u_T := fun k => match k with
  | 0 => ("WaysKeptModel", "thrown", "I", false)
  | 1 => ("WaysKeptModel", "posts", "I", false)
  | 2 => ("WaysKeptModel", "lines", "I", false)
  | 3 => ("WaysKeptModel", "from", "[I", true)
  | 4 => ("WaysKeptModel", "to", "[I", true)
  | 5 => ("WaysKeptModel", "price", "[I", true)
  | 6 => ("WaysKeptModel", "isBoth", "[Z", true)
  | 7 => ("WaysKeptModel", "isThere", "[Z", true)
  | 8 => ("WaysKeptModel", "fine", "[I", true)
  | 9 => ("WaysKeptModel", "kept", "[I", true)
  | 10 => ("WaysKeptModel", "acts", "I", false)
  | 11 => ("WaysKeptModel", "marks", "I", false)
  | _ => ("WaysKeptModel", "inner", "[I", true)
def tyX5 : Nat → FieldType := fun k => match k with
  | 0 => .int
  | 1 => .int
  | 2 => .int
  | 3 => .array .int
  | 4 => .array .int
  | 5 => .array .int
  | 6 => .array .boolean
  | 7 => .array .boolean
  | 8 => .array .int
  | 9 => .array .int
  | 10 => .int
  | 11 => .int
  | _ => .array .int
abbrev wsX50 : List Cond := u_ws RX5 TX5 13
theorem nmX5 : ∀ a, a < 13 → ∀ b, b < 13 → a ≠ b → (TX5 a).2.1 ≠ (TX5 b).2.1 := by decide +kernel
theorem tyX5_ok : ∀ k, k < 13 → parseFieldDescriptor (TX5 k).2.2.1 = some (tyX5 k) := by decide +kernel
abbrev cX5_init : ByteArray := prog_7_method_1_code
def yX5_init : MethodName := ⟨RX5, "<init>", "()V"⟩
abbrev cX5_in : ByteArray := prog_7_method_3_code
def yX5_in : MethodName := ⟨RX5, "in", "(JJJ)Z"⟩
abbrev cX5_noPost : ByteArray := prog_7_method_4_code
def yX5_noPost : MethodName := ⟨RX5, "noPost", "(I)Z"⟩
abbrev cX5_noLine : ByteArray := prog_7_method_5_code
def yX5_noLine : MethodName := ⟨RX5, "noLine", "(I)Z"⟩
abbrev cX5_learn : ByteArray := prog_7_method_6_code
def yX5_learn : MethodName := ⟨RX5, "learn", "(II)Z"⟩
abbrev cX5_coarse : ByteArray := prog_7_method_7_code
def yX5_coarse : MethodName := ⟨RX5, "coarse", "(I)I"⟩
abbrev cX5_farOf : ByteArray := prog_7_method_8_code
def yX5_farOf : MethodName := ⟨RX5, "farOf", "(II)I"⟩
abbrev cX5_keep : ByteArray := prog_7_method_9_code
def yX5_keep : MethodName := ⟨RX5, "keep", "()V"⟩
abbrev cX5_did : ByteArray := prog_7_method_10_code
def yX5_did : MethodName := ⟨RX5, "did", "()V"⟩
abbrev cX5_there : ByteArray := prog_7_method_11_code
def yX5_there : MethodName := ⟨RX5, "there", "()I"⟩
abbrev cX5_posts : ByteArray := prog_7_method_12_code
def yX5_posts : MethodName := ⟨RX5, "posts", "(I)I"⟩
abbrev cX5_line : ByteArray := prog_7_method_13_code
def yX5_line : MethodName := ⟨RX5, "line", "(IIIZ)I"⟩
abbrev cX5_price : ByteArray := prog_7_method_14_code
def yX5_price : MethodName := ⟨RX5, "price", "(II)I"⟩
abbrev cX5_cut : ByteArray := prog_7_method_15_code
def yX5_cut : MethodName := ⟨RX5, "cut", "(I)I"⟩
abbrev cX5_back : ByteArray := prog_7_method_16_code
def yX5_back : MethodName := ⟨RX5, "back", "(I)I"⟩
abbrev cX5_heightOf : ByteArray := prog_7_method_17_code
def yX5_heightOf : MethodName := ⟨RX5, "heightOf", "(I)I"⟩
abbrev cX5_told : ByteArray := prog_7_method_18_code
def yX5_told : MethodName := ⟨RX5, "told", "(II)I"⟩
abbrev cX5_far : ByteArray := prog_7_method_19_code
def yX5_far : MethodName := ⟨RX5, "far", "(II)I"⟩
abbrev cX5_steps : ByteArray := prog_7_method_20_code
def yX5_steps : MethodName := ⟨RX5, "steps", "(II)I"⟩
abbrev cX5_nextOf : ByteArray := prog_7_method_21_code
def yX5_nextOf : MethodName := ⟨RX5, "nextOf", "(II)I"⟩
abbrev cX5_other : ByteArray := prog_7_method_22_code
def yX5_other : MethodName := ⟨RX5, "other", "(II)I"⟩
abbrev cX5_way : ByteArray := prog_7_method_23_code
def yX5_way : MethodName := ⟨RX5, "way", "(III)I"⟩
abbrev cX5_without : ByteArray := prog_7_method_24_code
def yX5_without : MethodName := ⟨RX5, "without", "(III)I"⟩
abbrev cX5_vital : ByteArray := prog_7_method_25_code
def yX5_vital : MethodName := ⟨RX5, "vital", "(III)I"⟩
abbrev cX5_about : ByteArray := prog_7_method_26_code
def yX5_about : MethodName := ⟨RX5, "about", "(III)I"⟩
abbrev cX5_ring : ByteArray := prog_7_method_27_code
def yX5_ring : MethodName := ⟨RX5, "ring", "()I"⟩
abbrev cX5_height : ByteArray := prog_7_method_28_code
def yX5_height : MethodName := ⟨RX5, "height", "(I)I"⟩
abbrev cX5_acts : ByteArray := prog_7_method_29_code
def yX5_acts : MethodName := ⟨RX5, "acts", "()I"⟩
abbrev cX5_isMoved : ByteArray := prog_7_method_30_code
def yX5_isMoved : MethodName := ⟨RX5, "isMoved", "(II)Z"⟩
abbrev cX5_moved : ByteArray := prog_7_method_31_code
def yX5_moved : MethodName := ⟨RX5, "moved", "(I)I"⟩
abbrev cX5_pair : ByteArray := prog_7_method_32_code
def yX5_pair : MethodName := ⟨RX5, "pair", "(II)I"⟩
abbrev cX5_then : ByteArray := prog_7_method_33_code
def yX5_then : MethodName := ⟨RX5, "then", "(III)I"⟩
abbrev cX5_since : ByteArray := prog_7_method_34_code
def yX5_since : MethodName := ⟨RX5, "since", "(IIII)I"⟩
abbrev cX5_marks : ByteArray := prog_7_method_35_code
def yX5_marks : MethodName := ⟨RX5, "marks", "(I)I"⟩
abbrev cX5_nearOf : ByteArray := prog_7_method_36_code
def yX5_nearOf : MethodName := ⟨RX5, "nearOf", "(II)I"⟩
abbrev cX5_near : ByteArray := prog_7_method_37_code
def yX5_near : MethodName := ⟨RX5, "near", "(II)I"⟩
abbrev cX5_worst : ByteArray := prog_7_method_38_code
def yX5_worst : MethodName := ⟨RX5, "worst", "()I"⟩
abbrev cX5_bits : ByteArray := prog_7_method_39_code
def yX5_bits : MethodName := ⟨RX5, "bits", "(I)I"⟩
abbrev cX5_hits : ByteArray := prog_7_method_40_code
def yX5_hits : MethodName := ⟨RX5, "hits", "(I)I"⟩
abbrev cX5_count : ByteArray := prog_7_method_41_code
def yX5_count : MethodName := ⟨RX5, "count", "(I)I"⟩
def RJx8e188 : String := "java/lang/Cloneable"
def TJx8e188 : u_T := fun k => match k with
  | _ => ("", "", "", false)
def tyJx8e188 : Nat → FieldType := fun k => match k with
  | _ => .int
abbrev wsJx8e1880 : List Cond := u_ws RJx8e188 TJx8e188 0
theorem nmJx8e188 : ∀ a, a < 0 → ∀ b, b < 0 → a ≠ b → (TJx8e188 a).2.1 ≠ (TJx8e188 b).2.1 := by decide +kernel
theorem tyJx8e188_ok : ∀ k, k < 0 → parseFieldDescriptor (TJx8e188 k).2.2.1 = some (tyJx8e188 k) := by decide +kernel
def RJ6 : String := "java/lang/Integer"
def TJ6 : u_T := fun k => match k with
  | _ => ("", "", "", false)
def tyJ6 : Nat → FieldType := fun k => match k with
  | _ => .int
abbrev wsJ60 : List Cond := u_ws RJ6 TJ6 0
theorem nmJ6 : ∀ a, a < 0 → ∀ b, b < 0 → a ≠ b → (TJ6 a).2.1 ≠ (TJ6 b).2.1 := by decide +kernel
theorem tyJ6_ok : ∀ k, k < 0 → parseFieldDescriptor (TJ6 k).2.2.1 = some (tyJ6 k) := by decide +kernel
abbrev cJ6_bitCount_0f7a4 : ByteArray := prog_9_method_49_code
def yJ6_bitCount_0f7a4 : MethodName := ⟨RJ6, "bitCount", "(I)I"⟩
def RJ9 : String := "java/lang/Math"
def TJ9 : u_T := fun k => match k with
  | _ => ("", "", "", false)
def tyJ9 : Nat → FieldType := fun k => match k with
  | _ => .int
abbrev wsJ90 : List Cond := u_ws RJ9 TJ9 0
theorem nmJ9 : ∀ a, a < 0 → ∀ b, b < 0 → a ≠ b → (TJ9 a).2.1 ≠ (TJ9 b).2.1 := by decide +kernel
theorem tyJ9_ok : ∀ k, k < 0 → parseFieldDescriptor (TJ9 k).2.2.1 = some (tyJ9 k) := by decide +kernel
abbrev cJ9_floorDiv_7cf53 : ByteArray := prog_10_method_47_code
def yJ9_floorDiv_7cf53 : MethodName := ⟨RJ9, "floorDiv", "(II)I"⟩
abbrev cJ9_floorMod_7cf53 : ByteArray := prog_10_method_50_code
def yJ9_floorMod_7cf53 : MethodName := ⟨RJ9, "floorMod", "(II)I"⟩
abbrev cJ9_max_7cf53 : ByteArray := prog_10_method_65_code
def yJ9_max_7cf53 : MethodName := ⟨RJ9, "max", "(II)I"⟩
abbrev cJ9_min_7cf53 : ByteArray := prog_10_method_69_code
def yJ9_min_7cf53 : MethodName := ⟨RJ9, "min", "(II)I"⟩
def RJ10 : String := "java/lang/System"
def TJ10 : u_T := fun k => match k with
  | _ => ("", "", "", false)
def tyJ10 : Nat → FieldType := fun k => match k with
  | _ => .int
abbrev wsJ100 : List Cond := u_ws RJ10 TJ10 0
theorem nmJ10 : ∀ a, a < 0 → ∀ b, b < 0 → a ≠ b → (TJ10 a).2.1 ≠ (TJ10 b).2.1 := by decide +kernel
theorem tyJ10_ok : ∀ k, k < 0 → parseFieldDescriptor (TJ10 k).2.2.1 = some (tyJ10 k) := by decide +kernel
def RJ7 : String := "java/util/Arrays"
def TJ7 : u_T := fun k => match k with
  | _ => ("", "", "", false)
def tyJ7 : Nat → FieldType := fun k => match k with
  | _ => .int
abbrev wsJ70 : List Cond := u_ws RJ7 TJ7 0
theorem nmJ7 : ∀ a, a < 0 → ∀ b, b < 0 → a ≠ b → (TJ7 a).2.1 ≠ (TJ7 b).2.1 := by decide +kernel
theorem tyJ7_ok : ∀ k, k < 0 → parseFieldDescriptor (TJ7 k).2.2.1 = some (tyJ7 k) := by decide +kernel
abbrev cJ7_fill_53178 : ByteArray := prog_12_method_103_code
def yJ7_fill_53178 : MethodName := ⟨RJ7, "fill", "([II)V"⟩
abbrev cJ7_copyOf_59c91 : ByteArray := prog_12_method_123_code
def yJ7_copyOf_59c91 : MethodName := ⟨RJ7, "copyOf", "([II)[I"⟩
def RL : String := "WaysKeptLaw"
abbrev cL_law : ByteArray := code
def yL_law : MethodName := ⟨RL, "law", "([I)Z"⟩
def wsX0_init : List Cond := .code yX0_init cX0_init 1 none :: ([.methodLink RX0 3 objectInit, .instanceMethod objectInit, .code objectInit ⟨#[0xb1]⟩ 1 none, .arrayClass .int, .fieldLink RX0 9 "WaysKept$Hitting" "asked" "[I"] ++ wsX00)
def wsX4_pairOf : List Cond := .code yX4_pairOf cX4_pairOf 2 (some .int) :: ([])
def wsJ9_floorMod_7cf53 : List Cond := .code yJ9_floorMod_7cf53 cJ9_floorMod_7cf53 3 (some .int) :: ([])
def wsX3_length : List Cond := .code yX3_length cX3_length 4 (some .int) :: ([.fieldLink RX3 11 "WaysKept$Ways" "costs" "[I", .constant RX3 24 (2147483647), .static yX4_pairOf, .initialized RX4, .code yX4_pairOf cX4_pairOf 2 (some .int), .methodLink RX3 55 yJ9_floorMod_7cf53, .static yJ9_floorMod_7cf53, .initialized RJ9, .code yJ9_floorMod_7cf53 cJ9_floorMod_7cf53 3 (some .int)] ++ wsX30)
def wsX1_hasPost : List Cond := .code yX1_hasPost cX1_hasPost 2 (some .boolean) :: ([.fieldLink RX1 28 "WaysKept$Net" "posts" "I"] ++ wsX10)
def wsX3_leads : List Cond := .code yX3_leads cX3_leads 3 (some .boolean) :: ([.fieldLink RX3 11 "WaysKept$Ways" "costs" "[I", .constant RX3 24 (2147483647), .static yX4_pairOf, .initialized RX4, .code yX4_pairOf cX4_pairOf 2 (some .int)] ++ wsX30)
def wsX1_hasLine : List Cond := .code yX1_hasLine cX1_hasLine 2 (some .boolean) :: ([.fieldLink RX1 32 "WaysKept$Net" "lines" "I"] ++ wsX10)
def wsX1_target : List Cond := .code yX1_target cX1_target 3 (some .int) :: ([.fieldLink RX1 25 "WaysKept$Net" "there" "[Z", .fieldLink RX1 9 "WaysKept$Net" "begins" "[I", .fieldLink RX1 15 "WaysKept$Net" "ends" "[I", .fieldLink RX1 21 "WaysKept$Net" "bothWays" "[Z", .methodLink RX1 39 yX1_hasLine, .instanceMethod yX1_hasLine, .selects RX1 yX1_hasLine yX1_hasLine, .initialized RX1, .code yX1_hasLine cX1_hasLine 2 (some .boolean), .fieldLink RX1 32 "WaysKept$Net" "lines" "I"] ++ wsX10)
def wsX3_costOf : List Cond := .code yX3_costOf cX3_costOf 2 (some .int) :: ([.fieldLink RX3 20 "WaysKept$Ways" "net" "LWaysKept$Net;"] ++ wsX30 ++ wsX10)
def wsX3_lineToward_r1 : List Cond := [Cond.fieldLink RX3 20 "WaysKept$Ways" "net" "LWaysKept$Net;", Cond.fieldLink RX3 11 "WaysKept$Ways" "costs" "[I", Cond.methodLink RX3 128 yX1_hasPost, Cond.instanceMethod yX1_hasPost, Cond.selects RX1 yX1_hasPost yX1_hasPost, Cond.initialized RX1, Cond.code yX1_hasPost cX1_hasPost 2 (some .boolean), Cond.fieldLink RX1 28 "WaysKept$Net" "posts" "I", Cond.methodLink RX3 90 yX3_leads, Cond.instanceMethod yX3_leads, Cond.selects RX3 yX3_leads yX3_leads, Cond.initialized RX3, Cond.code yX3_leads cX3_leads 3 (some .boolean), Cond.constant RX3 24 (2147483647), Cond.static yX4_pairOf, Cond.initialized RX4, Cond.code yX4_pairOf cX4_pairOf 2 (some .int), Cond.methodLink RX3 66 yX1_target, Cond.instanceMethod yX1_target, Cond.selects RX1 yX1_target yX1_target, Cond.code yX1_target cX1_target 3 (some .int), Cond.fieldLink RX1 25 "WaysKept$Net" "there" "[Z", Cond.fieldLink RX1 9 "WaysKept$Net" "begins" "[I", Cond.fieldLink RX1 15 "WaysKept$Net" "ends" "[I"]
def wsX3_lineToward_r2 : List Cond := [Cond.fieldLink RX1 21 "WaysKept$Net" "bothWays" "[Z", Cond.methodLink RX1 39 yX1_hasLine, Cond.instanceMethod yX1_hasLine, Cond.selects RX1 yX1_hasLine yX1_hasLine, Cond.code yX1_hasLine cX1_hasLine 2 (some .boolean), Cond.fieldLink RX1 32 "WaysKept$Net" "lines" "I", Cond.methodLink RX3 122 yX3_costOf, Cond.instanceMethod yX3_costOf, Cond.selects RX3 yX3_costOf yX3_costOf, Cond.code yX3_costOf cX3_costOf 2 (some .int)]
def wsX3_lineToward : List Cond := .code yX3_lineToward cX3_lineToward 6 (some .int) :: ((wsX3_lineToward_r1 ++ wsX3_lineToward_r2) ++ wsX30 ++ wsX10)
def wsX3_between_r1 : List Cond := [Cond.fieldLink RX3 20 "WaysKept$Ways" "net" "LWaysKept$Net;", Cond.methodLink RX3 60 yX3_length, Cond.instanceMethod yX3_length, Cond.selects RX3 yX3_length yX3_length, Cond.initialized RX3, Cond.code yX3_length cX3_length 4 (some .int), Cond.fieldLink RX3 11 "WaysKept$Ways" "costs" "[I", Cond.constant RX3 24 (2147483647), Cond.static yX4_pairOf, Cond.initialized RX4, Cond.code yX4_pairOf cX4_pairOf 2 (some .int), Cond.methodLink RX3 55 yJ9_floorMod_7cf53, Cond.static yJ9_floorMod_7cf53, Cond.initialized RJ9, Cond.code yJ9_floorMod_7cf53 cJ9_floorMod_7cf53 3 (some .int), Cond.methodLink RX3 63 yX3_lineToward, Cond.instanceMethod yX3_lineToward, Cond.selects RX3 yX3_lineToward yX3_lineToward, Cond.code yX3_lineToward cX3_lineToward 6 (some .int), Cond.methodLink RX3 128 yX1_hasPost, Cond.instanceMethod yX1_hasPost, Cond.selects RX1 yX1_hasPost yX1_hasPost, Cond.initialized RX1, Cond.code yX1_hasPost cX1_hasPost 2 (some .boolean)]
def wsX3_between_r2 : List Cond := [Cond.fieldLink RX1 28 "WaysKept$Net" "posts" "I", Cond.methodLink RX3 90 yX3_leads, Cond.instanceMethod yX3_leads, Cond.selects RX3 yX3_leads yX3_leads, Cond.code yX3_leads cX3_leads 3 (some .boolean), Cond.methodLink RX3 66 yX1_target, Cond.instanceMethod yX1_target, Cond.selects RX1 yX1_target yX1_target, Cond.code yX1_target cX1_target 3 (some .int), Cond.fieldLink RX1 25 "WaysKept$Net" "there" "[Z", Cond.fieldLink RX1 9 "WaysKept$Net" "begins" "[I", Cond.fieldLink RX1 15 "WaysKept$Net" "ends" "[I", Cond.fieldLink RX1 21 "WaysKept$Net" "bothWays" "[Z", Cond.methodLink RX1 39 yX1_hasLine, Cond.instanceMethod yX1_hasLine, Cond.selects RX1 yX1_hasLine yX1_hasLine, Cond.code yX1_hasLine cX1_hasLine 2 (some .boolean), Cond.fieldLink RX1 32 "WaysKept$Net" "lines" "I", Cond.methodLink RX3 122 yX3_costOf, Cond.instanceMethod yX3_costOf, Cond.selects RX3 yX3_costOf yX3_costOf, Cond.code yX3_costOf cX3_costOf 2 (some .int)]
def wsX3_between : List Cond := .code yX3_between cX3_between 6 (some .int) :: ((wsX3_between_r1 ++ wsX3_between_r2) ++ wsX30 ++ wsX10)
def wsX0_askFor_r1 : List Cond := [Cond.fieldLink RX0 15 "WaysKept$Hitting" "size" "I", Cond.fieldLink RX0 9 "WaysKept$Hitting" "asked" "[I", Cond.methodLink RX0 19 yX3_length, Cond.instanceMethod yX3_length, Cond.selects RX3 yX3_length yX3_length, Cond.initialized RX3, Cond.code yX3_length cX3_length 4 (some .int), Cond.fieldLink RX3 11 "WaysKept$Ways" "costs" "[I", Cond.constant RX3 24 (2147483647), Cond.static yX4_pairOf, Cond.initialized RX4, Cond.code yX4_pairOf cX4_pairOf 2 (some .int), Cond.methodLink RX3 55 yJ9_floorMod_7cf53, Cond.static yJ9_floorMod_7cf53, Cond.initialized RJ9, Cond.code yJ9_floorMod_7cf53 cJ9_floorMod_7cf53 3 (some .int), Cond.methodLink RX0 25 yX3_between, Cond.instanceMethod yX3_between, Cond.selects RX3 yX3_between yX3_between, Cond.code yX3_between cX3_between 6 (some .int), Cond.fieldLink RX3 20 "WaysKept$Ways" "net" "LWaysKept$Net;", Cond.methodLink RX3 60 yX3_length, Cond.methodLink RX3 63 yX3_lineToward, Cond.instanceMethod yX3_lineToward]
def wsX0_askFor_r2 : List Cond := [Cond.selects RX3 yX3_lineToward yX3_lineToward, Cond.code yX3_lineToward cX3_lineToward 6 (some .int), Cond.methodLink RX3 128 yX1_hasPost, Cond.instanceMethod yX1_hasPost, Cond.selects RX1 yX1_hasPost yX1_hasPost, Cond.initialized RX1, Cond.code yX1_hasPost cX1_hasPost 2 (some .boolean), Cond.fieldLink RX1 28 "WaysKept$Net" "posts" "I", Cond.methodLink RX3 90 yX3_leads, Cond.instanceMethod yX3_leads, Cond.selects RX3 yX3_leads yX3_leads, Cond.code yX3_leads cX3_leads 3 (some .boolean), Cond.methodLink RX3 66 yX1_target, Cond.instanceMethod yX1_target, Cond.selects RX1 yX1_target yX1_target, Cond.code yX1_target cX1_target 3 (some .int), Cond.fieldLink RX1 25 "WaysKept$Net" "there" "[Z", Cond.fieldLink RX1 9 "WaysKept$Net" "begins" "[I", Cond.fieldLink RX1 15 "WaysKept$Net" "ends" "[I", Cond.fieldLink RX1 21 "WaysKept$Net" "bothWays" "[Z", Cond.methodLink RX1 39 yX1_hasLine, Cond.instanceMethod yX1_hasLine, Cond.selects RX1 yX1_hasLine yX1_hasLine, Cond.code yX1_hasLine cX1_hasLine 2 (some .boolean)]
def wsX0_askFor_r3 : List Cond := [Cond.fieldLink RX1 32 "WaysKept$Net" "lines" "I", Cond.methodLink RX3 122 yX3_costOf, Cond.instanceMethod yX3_costOf, Cond.selects RX3 yX3_costOf yX3_costOf, Cond.code yX3_costOf cX3_costOf 2 (some .int)]
def wsX0_askFor : List Cond := .code yX0_askFor cX0_askFor 6 none :: ((wsX0_askFor_r1 ++ (wsX0_askFor_r2 ++ wsX0_askFor_r3)) ++ wsX00 ++ wsX30 ++ wsX10)
def wsJ6_bitCount_0f7a4 : List Cond := .code yJ6_bitCount_0f7a4 cJ6_bitCount_0f7a4 1 (some .int) :: ([.constant RJ6 265 (1431655765), .constant RJ6 266 (858993459), .constant RJ6 267 (252645135)])
def wsX0_meetsAll : List Cond := .code yX0_meetsAll cX0_meetsAll 3 (some .boolean) :: ([.fieldLink RX0 15 "WaysKept$Hitting" "size" "I", .fieldLink RX0 9 "WaysKept$Hitting" "asked" "[I"] ++ wsX00)
def wsX0_fewest : List Cond := .code yX0_fewest cX0_fewest 6 (some .int) :: ([.methodLink RX0 28 yJ6_bitCount_0f7a4, .static yJ6_bitCount_0f7a4, .initialized RJ6, .code yJ6_bitCount_0f7a4 cJ6_bitCount_0f7a4 1 (some .int), .constant RJ6 265 (1431655765), .constant RJ6 266 (858993459), .constant RJ6 267 (252645135), .methodLink RX0 34 yX0_meetsAll, .instanceMethod yX0_meetsAll, .selects RX0 yX0_meetsAll yX0_meetsAll, .initialized RX0, .code yX0_meetsAll cX0_meetsAll 3 (some .boolean), .fieldLink RX0 15 "WaysKept$Hitting" "size" "I", .fieldLink RX0 9 "WaysKept$Hitting" "asked" "[I"] ++ wsX00)
def wsX1_init : List Cond := .code yX1_init cX1_init 1 none :: ([.methodLink RX1 3 objectInit, .instanceMethod objectInit, .code objectInit ⟨#[0xb1]⟩ 1 none, .arrayClass .int, .fieldLink RX1 9 "WaysKept$Net" "begins" "[I", .fieldLink RX1 15 "WaysKept$Net" "ends" "[I", .fieldLink RX1 18 "WaysKept$Net" "prices" "[I", .arrayClass .boolean, .fieldLink RX1 21 "WaysKept$Net" "bothWays" "[Z", .fieldLink RX1 25 "WaysKept$Net" "there" "[Z"] ++ wsX10)
def wsX1_clear : List Cond := .code yX1_clear cX1_clear 2 none :: ([.fieldLink RX1 28 "WaysKept$Net" "posts" "I", .fieldLink RX1 32 "WaysKept$Net" "lines" "I"] ++ wsX10)
def wsX1_hasPosts : List Cond := .code yX1_hasPosts cX1_hasPosts 3 (some .boolean) :: ([.methodLink RX1 35 yX1_hasPost, .instanceMethod yX1_hasPost, .selects RX1 yX1_hasPost yX1_hasPost, .initialized RX1, .code yX1_hasPost cX1_hasPost 2 (some .boolean), .fieldLink RX1 28 "WaysKept$Net" "posts" "I"] ++ wsX10)
def wsX1_add : List Cond := .code yX1_add cX1_add 6 (some .int) :: ([.fieldLink RX1 32 "WaysKept$Net" "lines" "I", .fieldLink RX1 9 "WaysKept$Net" "begins" "[I", .fieldLink RX1 15 "WaysKept$Net" "ends" "[I", .fieldLink RX1 18 "WaysKept$Net" "prices" "[I", .fieldLink RX1 21 "WaysKept$Net" "bothWays" "[Z", .fieldLink RX1 25 "WaysKept$Net" "there" "[Z"] ++ wsX10)
def wsX1_countThere : List Cond := .code yX1_countThere cX1_countThere 3 (some .int) :: ([.fieldLink RX1 32 "WaysKept$Net" "lines" "I", .fieldLink RX1 25 "WaysKept$Net" "there" "[Z"] ++ wsX10)
def wsX1_touches : List Cond := .code yX1_touches cX1_touches 3 (some .boolean) :: ([.fieldLink RX1 9 "WaysKept$Net" "begins" "[I", .fieldLink RX1 15 "WaysKept$Net" "ends" "[I"] ++ wsX10)
def wsX2_init : List Cond := .code yX2_init cX2_init 1 none :: ([.methodLink RX2 3 objectInit, .instanceMethod objectInit, .code objectInit ⟨#[0xb1]⟩ 1 none, .arrayClass .int, .fieldLink RX2 11 "WaysKept$Past" "fars" "[I"] ++ wsX20)
def wsX2_clear : List Cond := .code yX2_clear cX2_clear 1 none :: ([.fieldLink RX2 15 "WaysKept$Past" "rows" "I"] ++ wsX20)
def wsX2_countActs : List Cond := .code yX2_countActs cX2_countActs 1 (some .int) :: ([.fieldLink RX2 15 "WaysKept$Past" "rows" "I"] ++ wsX20)
def wsX2_isFull : List Cond := .code yX2_isFull cX2_isFull 1 (some .boolean) :: ([.fieldLink RX2 15 "WaysKept$Past" "rows" "I"] ++ wsX20)
def wsX2_hasAct : List Cond := .code yX2_hasAct cX2_hasAct 2 (some .boolean) :: ([.fieldLink RX2 15 "WaysKept$Past" "rows" "I"] ++ wsX20)
def wsJ7_copyOf_59c91 : List Cond := .code yJ7_copyOf_59c91 cJ7_copyOf_59c91 3 (some (.array .int)) :: ([.methodLink RJ7 316 ⟨"[I", "clone", "()Ljava/lang/Object;"⟩, .sameMethod "[I" "java/lang/Object" "clone" "()Ljava/lang/Object;", .native ⟨"java/lang/Object", "clone", "()Ljava/lang/Object;"⟩, .instanceMethod ⟨"java/lang/Object", "clone", "()Ljava/lang/Object;"⟩, .selects "[I" ⟨"[I", "clone", "()Ljava/lang/Object;"⟩ ⟨"java/lang/Object", "clone", "()Ljava/lang/Object;"⟩, .classLink RJ7 317 "[I", .arrayClass .int, .methodLink RJ7 304 Lib.Math.min.name, .static Lib.Math.min.name, .initialized "java/lang/Math", .code Lib.Math.min.name Lib.Math.min.code 2 (some .int), .methodLink RJ7 150 arraycopyName, .native arraycopyName, .static arraycopyName, .initialized "java/lang/System"])
def wsX2_makeRoom : List Cond := .code yX2_makeRoom cX2_makeRoom 1 none :: ([.fieldLink RX2 15 "WaysKept$Past" "rows" "I", .fieldLink RX2 11 "WaysKept$Past" "fars" "[I", .constant RX2 39 (40100), .methodLink RX2 40 Lib.Math.min.name, .static Lib.Math.min.name, .initialized "java/lang/Math", .code Lib.Math.min.name Lib.Math.min.code 2 (some .int), .methodLink RX2 45 yJ7_copyOf_59c91, .static yJ7_copyOf_59c91, .initialized RJ7, .code yJ7_copyOf_59c91 cJ7_copyOf_59c91 3 (some (.array .int)), .methodLink RJ7 316 ⟨"[I", "clone", "()Ljava/lang/Object;"⟩, .sameMethod "[I" "java/lang/Object" "clone" "()Ljava/lang/Object;", .native ⟨"java/lang/Object", "clone", "()Ljava/lang/Object;"⟩, .instanceMethod ⟨"java/lang/Object", "clone", "()Ljava/lang/Object;"⟩, .selects "[I" ⟨"[I", "clone", "()Ljava/lang/Object;"⟩ ⟨"java/lang/Object", "clone", "()Ljava/lang/Object;"⟩, .classLink RJ7 317 "[I", .arrayClass .int, .methodLink RJ7 304 Lib.Math.min.name, .methodLink RJ7 150 arraycopyName, .native arraycopyName, .static arraycopyName, .initialized "java/lang/System"] ++ wsX20)
def wsJ9_floorDiv_7cf53 : List Cond := .code yJ9_floorDiv_7cf53 cJ9_floorDiv_7cf53 3 (some .int) :: ([])
def wsX3_priceIn : List Cond := .code yX3_priceIn cX3_priceIn 1 (some .int) :: ([.constant RX3 24 (2147483647), .methodLink RX3 135 yJ9_floorDiv_7cf53, .static yJ9_floorDiv_7cf53, .initialized RJ9, .code yJ9_floorDiv_7cf53 cJ9_floorDiv_7cf53 3 (some .int)])
def wsX3_leastPrice : List Cond := .code yX3_leastPrice cX3_leastPrice 3 (some .int) :: ([.fieldLink RX3 11 "WaysKept$Ways" "costs" "[I", .static yX4_pairOf, .initialized RX4, .code yX4_pairOf cX4_pairOf 2 (some .int), .methodLink RX3 51 yX3_priceIn, .static yX3_priceIn, .initialized RX3, .code yX3_priceIn cX3_priceIn 1 (some .int), .constant RX3 24 (2147483647), .methodLink RX3 135 yJ9_floorDiv_7cf53, .static yJ9_floorDiv_7cf53, .initialized RJ9, .code yJ9_floorDiv_7cf53 cJ9_floorDiv_7cf53 3 (some .int)] ++ wsX30)
def wsX2_keep_r1 : List Cond := [Cond.fieldLink RX2 11 "WaysKept$Past" "fars" "[I", Cond.fieldLink RX2 15 "WaysKept$Past" "rows" "I", Cond.methodLink RX2 19 yX2_isFull, Cond.instanceMethod yX2_isFull, Cond.selects RX2 yX2_isFull yX2_isFull, Cond.initialized RX2, Cond.code yX2_isFull cX2_isFull 1 (some .boolean), Cond.methodLink RX2 23 yX2_makeRoom, Cond.instanceMethod yX2_makeRoom, Cond.selects RX2 yX2_makeRoom yX2_makeRoom, Cond.code yX2_makeRoom cX2_makeRoom 1 none, Cond.constant RX2 39 (40100), Cond.methodLink RX2 40 Lib.Math.min.name, Cond.static Lib.Math.min.name, Cond.initialized "java/lang/Math", Cond.code Lib.Math.min.name Lib.Math.min.code 2 (some .int), Cond.methodLink RX2 45 yJ7_copyOf_59c91, Cond.static yJ7_copyOf_59c91, Cond.initialized RJ7, Cond.code yJ7_copyOf_59c91 cJ7_copyOf_59c91 3 (some (.array .int)), Cond.methodLink RJ7 316 ⟨"[I", "clone", "()Ljava/lang/Object;"⟩, Cond.sameMethod "[I" "java/lang/Object" "clone" "()Ljava/lang/Object;", Cond.native ⟨"java/lang/Object", "clone", "()Ljava/lang/Object;"⟩, Cond.instanceMethod ⟨"java/lang/Object", "clone", "()Ljava/lang/Object;"⟩]
def wsX2_keep_r2 : List Cond := [Cond.selects "[I" ⟨"[I", "clone", "()Ljava/lang/Object;"⟩ ⟨"java/lang/Object", "clone", "()Ljava/lang/Object;"⟩, Cond.classLink RJ7 317 "[I", Cond.arrayClass .int, Cond.methodLink RJ7 304 Lib.Math.min.name, Cond.methodLink RJ7 150 arraycopyName, Cond.native arraycopyName, Cond.static arraycopyName, Cond.initialized "java/lang/System", Cond.methodLink RX2 26 yX3_leastPrice, Cond.instanceMethod yX3_leastPrice, Cond.selects RX3 yX3_leastPrice yX3_leastPrice, Cond.initialized RX3, Cond.code yX3_leastPrice cX3_leastPrice 3 (some .int), Cond.fieldLink RX3 11 "WaysKept$Ways" "costs" "[I", Cond.static yX4_pairOf, Cond.initialized RX4, Cond.code yX4_pairOf cX4_pairOf 2 (some .int), Cond.methodLink RX3 51 yX3_priceIn, Cond.static yX3_priceIn, Cond.code yX3_priceIn cX3_priceIn 1 (some .int), Cond.constant RX3 24 (2147483647), Cond.methodLink RX3 135 yJ9_floorDiv_7cf53, Cond.static yJ9_floorDiv_7cf53, Cond.initialized RJ9]
def wsX2_keep_r3 : List Cond := [Cond.code yJ9_floorDiv_7cf53 cJ9_floorDiv_7cf53 3 (some .int)]
def wsX2_keep : List Cond := .code yX2_keep cX2_keep 3 none :: ((wsX2_keep_r1 ++ (wsX2_keep_r2 ++ wsX2_keep_r3)) ++ wsX20 ++ wsX30)
def wsX2_leastAsOf : List Cond := .code yX2_leastAsOf cX2_leastAsOf 3 (some .int) :: ([.fieldLink RX2 11 "WaysKept$Past" "fars" "[I"] ++ wsX20)
def wsX2_isMoved : List Cond := .code yX2_isMoved cX2_isMoved 3 (some .boolean) :: ([.methodLink RX2 36 yX2_leastAsOf, .instanceMethod yX2_leastAsOf, .selects RX2 yX2_leastAsOf yX2_leastAsOf, .initialized RX2, .code yX2_leastAsOf cX2_leastAsOf 3 (some .int), .fieldLink RX2 11 "WaysKept$Past" "fars" "[I"] ++ wsX20)
def wsX2_countMoved : List Cond := .code yX2_countMoved cX2_countMoved 4 (some .int) :: ([.methodLink RX2 32 yX2_isMoved, .instanceMethod yX2_isMoved, .selects RX2 yX2_isMoved yX2_isMoved, .initialized RX2, .code yX2_isMoved cX2_isMoved 3 (some .boolean), .methodLink RX2 36 yX2_leastAsOf, .instanceMethod yX2_leastAsOf, .selects RX2 yX2_leastAsOf yX2_leastAsOf, .code yX2_leastAsOf cX2_leastAsOf 3 (some .int), .fieldLink RX2 11 "WaysKept$Past" "fars" "[I"] ++ wsX20)
def wsX2_movedPair : List Cond := .code yX2_movedPair cX2_movedPair 5 (some .int) :: ([.methodLink RX2 32 yX2_isMoved, .instanceMethod yX2_isMoved, .selects RX2 yX2_isMoved yX2_isMoved, .initialized RX2, .code yX2_isMoved cX2_isMoved 3 (some .boolean), .methodLink RX2 36 yX2_leastAsOf, .instanceMethod yX2_leastAsOf, .selects RX2 yX2_leastAsOf yX2_leastAsOf, .code yX2_leastAsOf cX2_leastAsOf 3 (some .int), .fieldLink RX2 11 "WaysKept$Past" "fars" "[I"] ++ wsX20)
def wsX2_firstWithin : List Cond := .code yX2_firstWithin cX2_firstWithin 6 (some .int) :: ([.fieldLink RX2 15 "WaysKept$Past" "rows" "I", .methodLink RX2 36 yX2_leastAsOf, .instanceMethod yX2_leastAsOf, .selects RX2 yX2_leastAsOf yX2_leastAsOf, .initialized RX2, .code yX2_leastAsOf cX2_leastAsOf 3 (some .int), .fieldLink RX2 11 "WaysKept$Past" "fars" "[I"] ++ wsX20)
def wsX3_init : List Cond := .code yX3_init cX3_init 2 none :: ([.methodLink RX3 5 objectInit, .instanceMethod objectInit, .code objectInit ⟨#[0xb1]⟩ 1 none, .arrayClass .int, .fieldLink RX3 11 "WaysKept$Ways" "costs" "[I", .fieldLink RX3 17 "WaysKept$Ways" "reached" "[I", .fieldLink RX3 20 "WaysKept$Ways" "net" "LWaysKept$Net;"] ++ wsX30)
def wsJ7_fill_53178 : List Cond := .code yJ7_fill_53178 cJ7_fill_53178 4 none :: ([])
def wsX3_lower : List Cond := .code yX3_lower cX3_lower 4 (some .boolean) :: ([.fieldLink RX3 17 "WaysKept$Ways" "reached" "[I", .constant RX3 24 (2147483647)] ++ wsX30)
def wsX3_relax : List Cond := .code yX3_relax cX3_relax 6 (some .boolean) :: ([.fieldLink RX3 20 "WaysKept$Ways" "net" "LWaysKept$Net;", .methodLink RX3 122 yX3_costOf, .instanceMethod yX3_costOf, .selects RX3 yX3_costOf yX3_costOf, .initialized RX3, .code yX3_costOf cX3_costOf 2 (some .int), .methodLink RX3 125 yX3_lower, .instanceMethod yX3_lower, .selects RX3 yX3_lower yX3_lower, .code yX3_lower cX3_lower 4 (some .boolean), .fieldLink RX3 17 "WaysKept$Ways" "reached" "[I", .constant RX3 24 (2147483647)] ++ wsX30 ++ wsX10)
def wsX3_spread_r1 : List Cond := [Cond.fieldLink RX3 17 "WaysKept$Ways" "reached" "[I", Cond.constant RX3 24 (2147483647), Cond.fieldLink RX3 20 "WaysKept$Ways" "net" "LWaysKept$Net;", Cond.methodLink RX3 25 yJ7_fill_53178, Cond.static yJ7_fill_53178, Cond.initialized RJ7, Cond.code yJ7_fill_53178 cJ7_fill_53178 4 none, Cond.methodLink RX3 115 yX1_touches, Cond.instanceMethod yX1_touches, Cond.selects RX1 yX1_touches yX1_touches, Cond.initialized RX1, Cond.code yX1_touches cX1_touches 3 (some .boolean), Cond.fieldLink RX1 9 "WaysKept$Net" "begins" "[I", Cond.fieldLink RX1 15 "WaysKept$Net" "ends" "[I", Cond.methodLink RX3 118 yX3_relax, Cond.instanceMethod yX3_relax, Cond.selects RX3 yX3_relax yX3_relax, Cond.initialized RX3, Cond.code yX3_relax cX3_relax 6 (some .boolean), Cond.methodLink RX3 122 yX3_costOf, Cond.instanceMethod yX3_costOf, Cond.selects RX3 yX3_costOf yX3_costOf, Cond.code yX3_costOf cX3_costOf 2 (some .int), Cond.methodLink RX3 125 yX3_lower]
def wsX3_spread_r2 : List Cond := [Cond.instanceMethod yX3_lower, Cond.selects RX3 yX3_lower yX3_lower, Cond.code yX3_lower cX3_lower 4 (some .boolean)]
def wsX3_spread : List Cond := .code yX3_spread cX3_spread 7 none :: ((wsX3_spread_r1 ++ wsX3_spread_r2) ++ wsX30 ++ wsX10)
def wsX3_measure_r1 : List Cond := [Cond.fieldLink RX3 11 "WaysKept$Ways" "costs" "[I", Cond.constant RX3 24 (2147483647), Cond.fieldLink RX3 20 "WaysKept$Ways" "net" "LWaysKept$Net;", Cond.fieldLink RX3 17 "WaysKept$Ways" "reached" "[I", Cond.methodLink RX3 45 arraycopyName, Cond.native arraycopyName, Cond.static arraycopyName, Cond.initialized "java/lang/System", Cond.methodLink RX3 25 yJ7_fill_53178, Cond.static yJ7_fill_53178, Cond.initialized RJ7, Cond.code yJ7_fill_53178 cJ7_fill_53178 4 none, Cond.methodLink RX3 37 yX3_spread, Cond.instanceMethod yX3_spread, Cond.selects RX3 yX3_spread yX3_spread, Cond.initialized RX3, Cond.code yX3_spread cX3_spread 7 none, Cond.methodLink RX3 115 yX1_touches, Cond.instanceMethod yX1_touches, Cond.selects RX1 yX1_touches yX1_touches, Cond.initialized RX1, Cond.code yX1_touches cX1_touches 3 (some .boolean), Cond.fieldLink RX1 9 "WaysKept$Net" "begins" "[I", Cond.fieldLink RX1 15 "WaysKept$Net" "ends" "[I"]
def wsX3_measure_r2 : List Cond := [Cond.methodLink RX3 118 yX3_relax, Cond.instanceMethod yX3_relax, Cond.selects RX3 yX3_relax yX3_relax, Cond.code yX3_relax cX3_relax 6 (some .boolean), Cond.methodLink RX3 122 yX3_costOf, Cond.instanceMethod yX3_costOf, Cond.selects RX3 yX3_costOf yX3_costOf, Cond.code yX3_costOf cX3_costOf 2 (some .int), Cond.methodLink RX3 125 yX3_lower, Cond.instanceMethod yX3_lower, Cond.selects RX3 yX3_lower yX3_lower, Cond.code yX3_lower cX3_lower 4 (some .boolean), Cond.static yX4_pairOf, Cond.initialized RX4, Cond.code yX4_pairOf cX4_pairOf 2 (some .int)]
def wsX3_measure : List Cond := .code yX3_measure cX3_measure 2 none :: ((wsX3_measure_r1 ++ wsX3_measure_r2) ++ wsX30 ++ wsX10)
def wsX3_lineAt_r1 : List Cond := [Cond.fieldLink RX3 20 "WaysKept$Ways" "net" "LWaysKept$Net;", Cond.methodLink RX3 60 yX3_length, Cond.instanceMethod yX3_length, Cond.selects RX3 yX3_length yX3_length, Cond.initialized RX3, Cond.code yX3_length cX3_length 4 (some .int), Cond.fieldLink RX3 11 "WaysKept$Ways" "costs" "[I", Cond.constant RX3 24 (2147483647), Cond.static yX4_pairOf, Cond.initialized RX4, Cond.code yX4_pairOf cX4_pairOf 2 (some .int), Cond.methodLink RX3 55 yJ9_floorMod_7cf53, Cond.static yJ9_floorMod_7cf53, Cond.initialized RJ9, Cond.code yJ9_floorMod_7cf53 cJ9_floorMod_7cf53 3 (some .int), Cond.methodLink RX3 63 yX3_lineToward, Cond.instanceMethod yX3_lineToward, Cond.selects RX3 yX3_lineToward yX3_lineToward, Cond.code yX3_lineToward cX3_lineToward 6 (some .int), Cond.methodLink RX3 128 yX1_hasPost, Cond.instanceMethod yX1_hasPost, Cond.selects RX1 yX1_hasPost yX1_hasPost, Cond.initialized RX1, Cond.code yX1_hasPost cX1_hasPost 2 (some .boolean)]
def wsX3_lineAt_r2 : List Cond := [Cond.fieldLink RX1 28 "WaysKept$Net" "posts" "I", Cond.methodLink RX3 90 yX3_leads, Cond.instanceMethod yX3_leads, Cond.selects RX3 yX3_leads yX3_leads, Cond.code yX3_leads cX3_leads 3 (some .boolean), Cond.methodLink RX3 66 yX1_target, Cond.instanceMethod yX1_target, Cond.selects RX1 yX1_target yX1_target, Cond.code yX1_target cX1_target 3 (some .int), Cond.fieldLink RX1 25 "WaysKept$Net" "there" "[Z", Cond.fieldLink RX1 9 "WaysKept$Net" "begins" "[I", Cond.fieldLink RX1 15 "WaysKept$Net" "ends" "[I", Cond.fieldLink RX1 21 "WaysKept$Net" "bothWays" "[Z", Cond.methodLink RX1 39 yX1_hasLine, Cond.instanceMethod yX1_hasLine, Cond.selects RX1 yX1_hasLine yX1_hasLine, Cond.code yX1_hasLine cX1_hasLine 2 (some .boolean), Cond.fieldLink RX1 32 "WaysKept$Net" "lines" "I", Cond.methodLink RX3 122 yX3_costOf, Cond.instanceMethod yX3_costOf, Cond.selects RX3 yX3_costOf yX3_costOf, Cond.code yX3_costOf cX3_costOf 2 (some .int)]
def wsX3_lineAt : List Cond := .code yX3_lineAt cX3_lineAt 6 (some .int) :: ((wsX3_lineAt_r1 ++ wsX3_lineAt_r2) ++ wsX30 ++ wsX10)
def wsX3_leastAvoiding_r1 : List Cond := [Cond.fieldLink RX3 17 "WaysKept$Ways" "reached" "[I", Cond.methodLink RX3 37 yX3_spread, Cond.instanceMethod yX3_spread, Cond.selects RX3 yX3_spread yX3_spread, Cond.initialized RX3, Cond.code yX3_spread cX3_spread 7 none, Cond.constant RX3 24 (2147483647), Cond.fieldLink RX3 20 "WaysKept$Ways" "net" "LWaysKept$Net;", Cond.methodLink RX3 25 yJ7_fill_53178, Cond.static yJ7_fill_53178, Cond.initialized RJ7, Cond.code yJ7_fill_53178 cJ7_fill_53178 4 none, Cond.methodLink RX3 115 yX1_touches, Cond.instanceMethod yX1_touches, Cond.selects RX1 yX1_touches yX1_touches, Cond.initialized RX1, Cond.code yX1_touches cX1_touches 3 (some .boolean), Cond.fieldLink RX1 9 "WaysKept$Net" "begins" "[I", Cond.fieldLink RX1 15 "WaysKept$Net" "ends" "[I", Cond.methodLink RX3 118 yX3_relax, Cond.instanceMethod yX3_relax, Cond.selects RX3 yX3_relax yX3_relax, Cond.code yX3_relax cX3_relax 6 (some .boolean), Cond.methodLink RX3 122 yX3_costOf]
def wsX3_leastAvoiding_r2 : List Cond := [Cond.instanceMethod yX3_costOf, Cond.selects RX3 yX3_costOf yX3_costOf, Cond.code yX3_costOf cX3_costOf 2 (some .int), Cond.methodLink RX3 125 yX3_lower, Cond.instanceMethod yX3_lower, Cond.selects RX3 yX3_lower yX3_lower, Cond.code yX3_lower cX3_lower 4 (some .boolean), Cond.methodLink RX3 51 yX3_priceIn, Cond.static yX3_priceIn, Cond.code yX3_priceIn cX3_priceIn 1 (some .int), Cond.methodLink RX3 135 yJ9_floorDiv_7cf53, Cond.static yJ9_floorDiv_7cf53, Cond.initialized RJ9, Cond.code yJ9_floorDiv_7cf53 cJ9_floorDiv_7cf53 3 (some .int)]
def wsX3_leastAvoiding : List Cond := .code yX3_leastAvoiding cX3_leastAvoiding 5 (some .int) :: ((wsX3_leastAvoiding_r1 ++ wsX3_leastAvoiding_r2) ++ wsX30 ++ wsX10)
def wsX3_isOnWay_r1 : List Cond := [Cond.methodLink RX3 60 yX3_length, Cond.instanceMethod yX3_length, Cond.selects RX3 yX3_length yX3_length, Cond.initialized RX3, Cond.code yX3_length cX3_length 4 (some .int), Cond.fieldLink RX3 11 "WaysKept$Ways" "costs" "[I", Cond.constant RX3 24 (2147483647), Cond.static yX4_pairOf, Cond.initialized RX4, Cond.code yX4_pairOf cX4_pairOf 2 (some .int), Cond.methodLink RX3 55 yJ9_floorMod_7cf53, Cond.static yJ9_floorMod_7cf53, Cond.initialized RJ9, Cond.code yJ9_floorMod_7cf53 cJ9_floorMod_7cf53 3 (some .int), Cond.methodLink RX3 131 yX3_lineAt, Cond.instanceMethod yX3_lineAt, Cond.selects RX3 yX3_lineAt yX3_lineAt, Cond.code yX3_lineAt cX3_lineAt 6 (some .int), Cond.fieldLink RX3 20 "WaysKept$Ways" "net" "LWaysKept$Net;", Cond.methodLink RX3 63 yX3_lineToward, Cond.instanceMethod yX3_lineToward, Cond.selects RX3 yX3_lineToward yX3_lineToward, Cond.code yX3_lineToward cX3_lineToward 6 (some .int), Cond.methodLink RX3 128 yX1_hasPost]
def wsX3_isOnWay_r2 : List Cond := [Cond.instanceMethod yX1_hasPost, Cond.selects RX1 yX1_hasPost yX1_hasPost, Cond.initialized RX1, Cond.code yX1_hasPost cX1_hasPost 2 (some .boolean), Cond.fieldLink RX1 28 "WaysKept$Net" "posts" "I", Cond.methodLink RX3 90 yX3_leads, Cond.instanceMethod yX3_leads, Cond.selects RX3 yX3_leads yX3_leads, Cond.code yX3_leads cX3_leads 3 (some .boolean), Cond.methodLink RX3 66 yX1_target, Cond.instanceMethod yX1_target, Cond.selects RX1 yX1_target yX1_target, Cond.code yX1_target cX1_target 3 (some .int), Cond.fieldLink RX1 25 "WaysKept$Net" "there" "[Z", Cond.fieldLink RX1 9 "WaysKept$Net" "begins" "[I", Cond.fieldLink RX1 15 "WaysKept$Net" "ends" "[I", Cond.fieldLink RX1 21 "WaysKept$Net" "bothWays" "[Z", Cond.methodLink RX1 39 yX1_hasLine, Cond.instanceMethod yX1_hasLine, Cond.selects RX1 yX1_hasLine yX1_hasLine, Cond.code yX1_hasLine cX1_hasLine 2 (some .boolean), Cond.fieldLink RX1 32 "WaysKept$Net" "lines" "I", Cond.methodLink RX3 122 yX3_costOf, Cond.instanceMethod yX3_costOf]
def wsX3_isOnWay_r3 : List Cond := [Cond.selects RX3 yX3_costOf yX3_costOf, Cond.code yX3_costOf cX3_costOf 2 (some .int)]
def wsX3_isOnWay : List Cond := .code yX3_isOnWay cX3_isOnWay 5 (some .boolean) :: ((wsX3_isOnWay_r1 ++ (wsX3_isOnWay_r2 ++ wsX3_isOnWay_r3)) ++ wsX30 ++ wsX10)
def wsX3_isVital_r1 : List Cond := [Cond.methodLink RX3 69 yX3_isOnWay, Cond.instanceMethod yX3_isOnWay, Cond.selects RX3 yX3_isOnWay yX3_isOnWay, Cond.initialized RX3, Cond.code yX3_isOnWay cX3_isOnWay 5 (some .boolean), Cond.methodLink RX3 60 yX3_length, Cond.instanceMethod yX3_length, Cond.selects RX3 yX3_length yX3_length, Cond.code yX3_length cX3_length 4 (some .int), Cond.fieldLink RX3 11 "WaysKept$Ways" "costs" "[I", Cond.constant RX3 24 (2147483647), Cond.static yX4_pairOf, Cond.initialized RX4, Cond.code yX4_pairOf cX4_pairOf 2 (some .int), Cond.methodLink RX3 55 yJ9_floorMod_7cf53, Cond.static yJ9_floorMod_7cf53, Cond.initialized RJ9, Cond.code yJ9_floorMod_7cf53 cJ9_floorMod_7cf53 3 (some .int), Cond.methodLink RX3 131 yX3_lineAt, Cond.instanceMethod yX3_lineAt, Cond.selects RX3 yX3_lineAt yX3_lineAt, Cond.code yX3_lineAt cX3_lineAt 6 (some .int), Cond.fieldLink RX3 20 "WaysKept$Ways" "net" "LWaysKept$Net;", Cond.methodLink RX3 63 yX3_lineToward]
def wsX3_isVital_r2 : List Cond := [Cond.instanceMethod yX3_lineToward, Cond.selects RX3 yX3_lineToward yX3_lineToward, Cond.code yX3_lineToward cX3_lineToward 6 (some .int), Cond.methodLink RX3 128 yX1_hasPost, Cond.instanceMethod yX1_hasPost, Cond.selects RX1 yX1_hasPost yX1_hasPost, Cond.initialized RX1, Cond.code yX1_hasPost cX1_hasPost 2 (some .boolean), Cond.fieldLink RX1 28 "WaysKept$Net" "posts" "I", Cond.methodLink RX3 90 yX3_leads, Cond.instanceMethod yX3_leads, Cond.selects RX3 yX3_leads yX3_leads, Cond.code yX3_leads cX3_leads 3 (some .boolean), Cond.methodLink RX3 66 yX1_target, Cond.instanceMethod yX1_target, Cond.selects RX1 yX1_target yX1_target, Cond.code yX1_target cX1_target 3 (some .int), Cond.fieldLink RX1 25 "WaysKept$Net" "there" "[Z", Cond.fieldLink RX1 9 "WaysKept$Net" "begins" "[I", Cond.fieldLink RX1 15 "WaysKept$Net" "ends" "[I", Cond.fieldLink RX1 21 "WaysKept$Net" "bothWays" "[Z", Cond.methodLink RX1 39 yX1_hasLine, Cond.instanceMethod yX1_hasLine, Cond.selects RX1 yX1_hasLine yX1_hasLine]
def wsX3_isVital_r3 : List Cond := [Cond.code yX1_hasLine cX1_hasLine 2 (some .boolean), Cond.fieldLink RX1 32 "WaysKept$Net" "lines" "I", Cond.methodLink RX3 122 yX3_costOf, Cond.instanceMethod yX3_costOf, Cond.selects RX3 yX3_costOf yX3_costOf, Cond.code yX3_costOf cX3_costOf 2 (some .int), Cond.methodLink RX3 73 yX3_leastAvoiding, Cond.instanceMethod yX3_leastAvoiding, Cond.selects RX3 yX3_leastAvoiding yX3_leastAvoiding, Cond.code yX3_leastAvoiding cX3_leastAvoiding 5 (some .int), Cond.fieldLink RX3 17 "WaysKept$Ways" "reached" "[I", Cond.methodLink RX3 37 yX3_spread, Cond.instanceMethod yX3_spread, Cond.selects RX3 yX3_spread yX3_spread, Cond.code yX3_spread cX3_spread 7 none, Cond.methodLink RX3 25 yJ7_fill_53178, Cond.static yJ7_fill_53178, Cond.initialized RJ7, Cond.code yJ7_fill_53178 cJ7_fill_53178 4 none, Cond.methodLink RX3 115 yX1_touches, Cond.instanceMethod yX1_touches, Cond.selects RX1 yX1_touches yX1_touches, Cond.code yX1_touches cX1_touches 3 (some .boolean), Cond.methodLink RX3 118 yX3_relax]
def wsX3_isVital_r4 : List Cond := [Cond.instanceMethod yX3_relax, Cond.selects RX3 yX3_relax yX3_relax, Cond.code yX3_relax cX3_relax 6 (some .boolean), Cond.methodLink RX3 125 yX3_lower, Cond.instanceMethod yX3_lower, Cond.selects RX3 yX3_lower yX3_lower, Cond.code yX3_lower cX3_lower 4 (some .boolean), Cond.methodLink RX3 51 yX3_priceIn, Cond.static yX3_priceIn, Cond.code yX3_priceIn cX3_priceIn 1 (some .int), Cond.methodLink RX3 135 yJ9_floorDiv_7cf53, Cond.static yJ9_floorDiv_7cf53, Cond.code yJ9_floorDiv_7cf53 cJ9_floorDiv_7cf53 3 (some .int), Cond.methodLink RX3 77 yX3_leastPrice, Cond.instanceMethod yX3_leastPrice, Cond.selects RX3 yX3_leastPrice yX3_leastPrice, Cond.code yX3_leastPrice cX3_leastPrice 3 (some .int)]
def wsX3_isVital : List Cond := .code yX3_isVital cX3_isVital 4 (some .boolean) :: ((wsX3_isVital_r1 ++ (wsX3_isVital_r2 ++ (wsX3_isVital_r3 ++ wsX3_isVital_r4))) ++ wsX30 ++ wsX10)
def wsX3_closesBelow : List Cond := .code yX3_closesBelow cX3_closesBelow 2 (some .boolean) :: ([])
def wsX3_wouldSink_r1 : List Cond := [Cond.methodLink RX3 73 yX3_leastAvoiding, Cond.instanceMethod yX3_leastAvoiding, Cond.selects RX3 yX3_leastAvoiding yX3_leastAvoiding, Cond.initialized RX3, Cond.code yX3_leastAvoiding cX3_leastAvoiding 5 (some .int), Cond.fieldLink RX3 17 "WaysKept$Ways" "reached" "[I", Cond.methodLink RX3 37 yX3_spread, Cond.instanceMethod yX3_spread, Cond.selects RX3 yX3_spread yX3_spread, Cond.code yX3_spread cX3_spread 7 none, Cond.constant RX3 24 (2147483647), Cond.fieldLink RX3 20 "WaysKept$Ways" "net" "LWaysKept$Net;", Cond.methodLink RX3 25 yJ7_fill_53178, Cond.static yJ7_fill_53178, Cond.initialized RJ7, Cond.code yJ7_fill_53178 cJ7_fill_53178 4 none, Cond.methodLink RX3 115 yX1_touches, Cond.instanceMethod yX1_touches, Cond.selects RX1 yX1_touches yX1_touches, Cond.initialized RX1, Cond.code yX1_touches cX1_touches 3 (some .boolean), Cond.fieldLink RX1 9 "WaysKept$Net" "begins" "[I", Cond.fieldLink RX1 15 "WaysKept$Net" "ends" "[I", Cond.methodLink RX3 118 yX3_relax]
def wsX3_wouldSink_r2 : List Cond := [Cond.instanceMethod yX3_relax, Cond.selects RX3 yX3_relax yX3_relax, Cond.code yX3_relax cX3_relax 6 (some .boolean), Cond.methodLink RX3 122 yX3_costOf, Cond.instanceMethod yX3_costOf, Cond.selects RX3 yX3_costOf yX3_costOf, Cond.code yX3_costOf cX3_costOf 2 (some .int), Cond.methodLink RX3 125 yX3_lower, Cond.instanceMethod yX3_lower, Cond.selects RX3 yX3_lower yX3_lower, Cond.code yX3_lower cX3_lower 4 (some .boolean), Cond.methodLink RX3 51 yX3_priceIn, Cond.static yX3_priceIn, Cond.code yX3_priceIn cX3_priceIn 1 (some .int), Cond.methodLink RX3 135 yJ9_floorDiv_7cf53, Cond.static yJ9_floorDiv_7cf53, Cond.initialized RJ9, Cond.code yJ9_floorDiv_7cf53 cJ9_floorDiv_7cf53 3 (some .int), Cond.methodLink RX3 80 yX3_closesBelow, Cond.static yX3_closesBelow, Cond.code yX3_closesBelow cX3_closesBelow 2 (some .boolean)]
def wsX3_wouldSink : List Cond := .code yX3_wouldSink cX3_wouldSink 6 (some .boolean) :: ((wsX3_wouldSink_r1 ++ wsX3_wouldSink_r2) ++ wsX30 ++ wsX10)
def wsX3_ringOver : List Cond := .code yX3_ringOver cX3_ringOver 4 (some .int) :: ([.fieldLink RX3 20 "WaysKept$Ways" "net" "LWaysKept$Net;", .methodLink RX3 93 Lib.Math.min.name, .static Lib.Math.min.name, .initialized "java/lang/Math", .code Lib.Math.min.name Lib.Math.min.code 2 (some .int), .methodLink RX3 77 yX3_leastPrice, .instanceMethod yX3_leastPrice, .selects RX3 yX3_leastPrice yX3_leastPrice, .initialized RX3, .code yX3_leastPrice cX3_leastPrice 3 (some .int), .fieldLink RX3 11 "WaysKept$Ways" "costs" "[I", .static yX4_pairOf, .initialized RX4, .code yX4_pairOf cX4_pairOf 2 (some .int), .methodLink RX3 51 yX3_priceIn, .static yX3_priceIn, .code yX3_priceIn cX3_priceIn 1 (some .int), .constant RX3 24 (2147483647), .methodLink RX3 135 yJ9_floorDiv_7cf53, .static yJ9_floorDiv_7cf53, .initialized RJ9, .code yJ9_floorDiv_7cf53 cJ9_floorDiv_7cf53 3 (some .int)] ++ wsX30 ++ wsX10)
def wsX3_leastRing_r1 : List Cond := [Cond.fieldLink RX3 20 "WaysKept$Ways" "net" "LWaysKept$Net;", Cond.methodLink RX3 87 yX3_ringOver, Cond.instanceMethod yX3_ringOver, Cond.selects RX3 yX3_ringOver yX3_ringOver, Cond.initialized RX3, Cond.code yX3_ringOver cX3_ringOver 4 (some .int), Cond.methodLink RX3 93 Lib.Math.min.name, Cond.static Lib.Math.min.name, Cond.initialized "java/lang/Math", Cond.code Lib.Math.min.name Lib.Math.min.code 2 (some .int), Cond.methodLink RX3 77 yX3_leastPrice, Cond.instanceMethod yX3_leastPrice, Cond.selects RX3 yX3_leastPrice yX3_leastPrice, Cond.code yX3_leastPrice cX3_leastPrice 3 (some .int), Cond.fieldLink RX3 11 "WaysKept$Ways" "costs" "[I", Cond.static yX4_pairOf, Cond.initialized RX4, Cond.code yX4_pairOf cX4_pairOf 2 (some .int), Cond.methodLink RX3 51 yX3_priceIn, Cond.static yX3_priceIn, Cond.code yX3_priceIn cX3_priceIn 1 (some .int), Cond.constant RX3 24 (2147483647), Cond.methodLink RX3 135 yJ9_floorDiv_7cf53, Cond.static yJ9_floorDiv_7cf53]
def wsX3_leastRing_r2 : List Cond := [Cond.initialized RJ9, Cond.code yJ9_floorDiv_7cf53 cJ9_floorDiv_7cf53 3 (some .int)]
def wsX3_leastRing : List Cond := .code yX3_leastRing cX3_leastRing 4 (some .int) :: ((wsX3_leastRing_r1 ++ wsX3_leastRing_r2) ++ wsX30 ++ wsX10)
def wsX3_heightOf_r1 : List Cond := [Cond.fieldLink RX3 20 "WaysKept$Ways" "net" "LWaysKept$Net;", Cond.methodLink RX3 93 Lib.Math.min.name, Cond.static Lib.Math.min.name, Cond.initialized "java/lang/Math", Cond.code Lib.Math.min.name Lib.Math.min.code 2 (some .int), Cond.methodLink RX3 90 yX3_leads, Cond.instanceMethod yX3_leads, Cond.selects RX3 yX3_leads yX3_leads, Cond.initialized RX3, Cond.code yX3_leads cX3_leads 3 (some .boolean), Cond.fieldLink RX3 11 "WaysKept$Ways" "costs" "[I", Cond.constant RX3 24 (2147483647), Cond.static yX4_pairOf, Cond.initialized RX4, Cond.code yX4_pairOf cX4_pairOf 2 (some .int), Cond.methodLink RX3 77 yX3_leastPrice, Cond.instanceMethod yX3_leastPrice, Cond.selects RX3 yX3_leastPrice yX3_leastPrice, Cond.code yX3_leastPrice cX3_leastPrice 3 (some .int), Cond.methodLink RX3 51 yX3_priceIn, Cond.static yX3_priceIn, Cond.code yX3_priceIn cX3_priceIn 1 (some .int), Cond.methodLink RX3 135 yJ9_floorDiv_7cf53, Cond.static yJ9_floorDiv_7cf53]
def wsX3_heightOf_r2 : List Cond := [Cond.initialized RJ9, Cond.code yJ9_floorDiv_7cf53 cJ9_floorDiv_7cf53 3 (some .int)]
def wsX3_heightOf : List Cond := .code yX3_heightOf cX3_heightOf 4 (some .int) :: ((wsX3_heightOf_r1 ++ wsX3_heightOf_r2) ++ wsX30 ++ wsX10)
def wsX3_lifted_r1 : List Cond := [Cond.fieldLink RX3 20 "WaysKept$Ways" "net" "LWaysKept$Net;", Cond.methodLink RX3 93 Lib.Math.min.name, Cond.static Lib.Math.min.name, Cond.initialized "java/lang/Math", Cond.code Lib.Math.min.name Lib.Math.min.code 2 (some .int), Cond.methodLink RX3 102 yX3_heightOf, Cond.instanceMethod yX3_heightOf, Cond.selects RX3 yX3_heightOf yX3_heightOf, Cond.initialized RX3, Cond.code yX3_heightOf cX3_heightOf 4 (some .int), Cond.methodLink RX3 90 yX3_leads, Cond.instanceMethod yX3_leads, Cond.selects RX3 yX3_leads yX3_leads, Cond.code yX3_leads cX3_leads 3 (some .boolean), Cond.fieldLink RX3 11 "WaysKept$Ways" "costs" "[I", Cond.constant RX3 24 (2147483647), Cond.static yX4_pairOf, Cond.initialized RX4, Cond.code yX4_pairOf cX4_pairOf 2 (some .int), Cond.methodLink RX3 77 yX3_leastPrice, Cond.instanceMethod yX3_leastPrice, Cond.selects RX3 yX3_leastPrice yX3_leastPrice, Cond.code yX3_leastPrice cX3_leastPrice 3 (some .int), Cond.methodLink RX3 51 yX3_priceIn]
def wsX3_lifted_r2 : List Cond := [Cond.static yX3_priceIn, Cond.code yX3_priceIn cX3_priceIn 1 (some .int), Cond.methodLink RX3 135 yJ9_floorDiv_7cf53, Cond.static yJ9_floorDiv_7cf53, Cond.initialized RJ9, Cond.code yJ9_floorDiv_7cf53 cJ9_floorDiv_7cf53 3 (some .int)]
def wsX3_lifted : List Cond := .code yX3_lifted cX3_lifted 4 (some .int) :: ((wsX3_lifted_r1 ++ wsX3_lifted_r2) ++ wsX30 ++ wsX10)
def wsX3_leastThrough_r1 : List Cond := [Cond.fieldLink RX3 20 "WaysKept$Ways" "net" "LWaysKept$Net;", Cond.methodLink RX3 93 Lib.Math.min.name, Cond.static Lib.Math.min.name, Cond.initialized "java/lang/Math", Cond.code Lib.Math.min.name Lib.Math.min.code 2 (some .int), Cond.methodLink RX3 90 yX3_leads, Cond.instanceMethod yX3_leads, Cond.selects RX3 yX3_leads yX3_leads, Cond.initialized RX3, Cond.code yX3_leads cX3_leads 3 (some .boolean), Cond.fieldLink RX3 11 "WaysKept$Ways" "costs" "[I", Cond.constant RX3 24 (2147483647), Cond.static yX4_pairOf, Cond.initialized RX4, Cond.code yX4_pairOf cX4_pairOf 2 (some .int), Cond.methodLink RX3 77 yX3_leastPrice, Cond.instanceMethod yX3_leastPrice, Cond.selects RX3 yX3_leastPrice yX3_leastPrice, Cond.code yX3_leastPrice cX3_leastPrice 3 (some .int), Cond.methodLink RX3 51 yX3_priceIn, Cond.static yX3_priceIn, Cond.code yX3_priceIn cX3_priceIn 1 (some .int), Cond.methodLink RX3 135 yJ9_floorDiv_7cf53, Cond.static yJ9_floorDiv_7cf53]
def wsX3_leastThrough_r2 : List Cond := [Cond.initialized RJ9, Cond.code yJ9_floorDiv_7cf53 cJ9_floorDiv_7cf53 3 (some .int)]
def wsX3_leastThrough : List Cond := .code yX3_leastThrough cX3_leastThrough 7 (some .int) :: ((wsX3_leastThrough_r1 ++ wsX3_leastThrough_r2) ++ wsX30 ++ wsX10)
def wsX3_countLinked : List Cond := .code yX3_countLinked cX3_countLinked 4 (some .int) :: ([.fieldLink RX3 20 "WaysKept$Ways" "net" "LWaysKept$Net;", .methodLink RX3 90 yX3_leads, .instanceMethod yX3_leads, .selects RX3 yX3_leads yX3_leads, .initialized RX3, .code yX3_leads cX3_leads 3 (some .boolean), .fieldLink RX3 11 "WaysKept$Ways" "costs" "[I", .constant RX3 24 (2147483647), .static yX4_pairOf, .initialized RX4, .code yX4_pairOf cX4_pairOf 2 (some .int)] ++ wsX30 ++ wsX10)
def wsX4_keepAct_r1 : List Cond := [Cond.fieldLink RX4 21 "WaysKept" "ways" "LWaysKept$Ways;", Cond.fieldLink RX4 28 "WaysKept" "past" "LWaysKept$Past;", Cond.methodLink RX4 192 yX3_measure, Cond.instanceMethod yX3_measure, Cond.selects RX3 yX3_measure yX3_measure, Cond.initialized RX3, Cond.code yX3_measure cX3_measure 2 none, Cond.fieldLink RX3 11 "WaysKept$Ways" "costs" "[I", Cond.constant RX3 24 (2147483647), Cond.fieldLink RX3 20 "WaysKept$Ways" "net" "LWaysKept$Net;", Cond.fieldLink RX3 17 "WaysKept$Ways" "reached" "[I", Cond.methodLink RX3 45 arraycopyName, Cond.native arraycopyName, Cond.static arraycopyName, Cond.initialized "java/lang/System", Cond.methodLink RX3 25 yJ7_fill_53178, Cond.static yJ7_fill_53178, Cond.initialized RJ7, Cond.code yJ7_fill_53178 cJ7_fill_53178 4 none, Cond.methodLink RX3 37 yX3_spread, Cond.instanceMethod yX3_spread, Cond.selects RX3 yX3_spread yX3_spread, Cond.code yX3_spread cX3_spread 7 none, Cond.methodLink RX3 115 yX1_touches]
def wsX4_keepAct_r2 : List Cond := [Cond.instanceMethod yX1_touches, Cond.selects RX1 yX1_touches yX1_touches, Cond.initialized RX1, Cond.code yX1_touches cX1_touches 3 (some .boolean), Cond.fieldLink RX1 9 "WaysKept$Net" "begins" "[I", Cond.fieldLink RX1 15 "WaysKept$Net" "ends" "[I", Cond.methodLink RX3 118 yX3_relax, Cond.instanceMethod yX3_relax, Cond.selects RX3 yX3_relax yX3_relax, Cond.code yX3_relax cX3_relax 6 (some .boolean), Cond.methodLink RX3 122 yX3_costOf, Cond.instanceMethod yX3_costOf, Cond.selects RX3 yX3_costOf yX3_costOf, Cond.code yX3_costOf cX3_costOf 2 (some .int), Cond.methodLink RX3 125 yX3_lower, Cond.instanceMethod yX3_lower, Cond.selects RX3 yX3_lower yX3_lower, Cond.code yX3_lower cX3_lower 4 (some .boolean), Cond.static yX4_pairOf, Cond.initialized RX4, Cond.code yX4_pairOf cX4_pairOf 2 (some .int), Cond.methodLink RX4 195 yX2_keep, Cond.instanceMethod yX2_keep, Cond.selects RX2 yX2_keep yX2_keep]
def wsX4_keepAct_r3 : List Cond := [Cond.initialized RX2, Cond.code yX2_keep cX2_keep 3 none, Cond.fieldLink RX2 11 "WaysKept$Past" "fars" "[I", Cond.fieldLink RX2 15 "WaysKept$Past" "rows" "I", Cond.methodLink RX2 19 yX2_isFull, Cond.instanceMethod yX2_isFull, Cond.selects RX2 yX2_isFull yX2_isFull, Cond.code yX2_isFull cX2_isFull 1 (some .boolean), Cond.methodLink RX2 23 yX2_makeRoom, Cond.instanceMethod yX2_makeRoom, Cond.selects RX2 yX2_makeRoom yX2_makeRoom, Cond.code yX2_makeRoom cX2_makeRoom 1 none, Cond.constant RX2 39 (40100), Cond.methodLink RX2 40 Lib.Math.min.name, Cond.static Lib.Math.min.name, Cond.initialized "java/lang/Math", Cond.code Lib.Math.min.name Lib.Math.min.code 2 (some .int), Cond.methodLink RX2 45 yJ7_copyOf_59c91, Cond.static yJ7_copyOf_59c91, Cond.code yJ7_copyOf_59c91 cJ7_copyOf_59c91 3 (some (.array .int)), Cond.methodLink RJ7 316 ⟨"[I", "clone", "()Ljava/lang/Object;"⟩, Cond.sameMethod "[I" "java/lang/Object" "clone" "()Ljava/lang/Object;", Cond.native ⟨"java/lang/Object", "clone", "()Ljava/lang/Object;"⟩, Cond.instanceMethod ⟨"java/lang/Object", "clone", "()Ljava/lang/Object;"⟩]
def wsX4_keepAct_r4 : List Cond := [Cond.selects "[I" ⟨"[I", "clone", "()Ljava/lang/Object;"⟩ ⟨"java/lang/Object", "clone", "()Ljava/lang/Object;"⟩, Cond.classLink RJ7 317 "[I", Cond.arrayClass .int, Cond.methodLink RJ7 304 Lib.Math.min.name, Cond.methodLink RJ7 150 arraycopyName, Cond.methodLink RX2 26 yX3_leastPrice, Cond.instanceMethod yX3_leastPrice, Cond.selects RX3 yX3_leastPrice yX3_leastPrice, Cond.code yX3_leastPrice cX3_leastPrice 3 (some .int), Cond.methodLink RX3 51 yX3_priceIn, Cond.static yX3_priceIn, Cond.code yX3_priceIn cX3_priceIn 1 (some .int), Cond.methodLink RX3 135 yJ9_floorDiv_7cf53, Cond.static yJ9_floorDiv_7cf53, Cond.initialized RJ9, Cond.code yJ9_floorDiv_7cf53 cJ9_floorDiv_7cf53 3 (some .int)]
def wsX4_keepAct : List Cond := .code yX4_keepAct cX4_keepAct 1 none :: ((wsX4_keepAct_r1 ++ (wsX4_keepAct_r2 ++ (wsX4_keepAct_r3 ++ wsX4_keepAct_r4))) ++ wsX40 ++ wsX30 ++ wsX10 ++ wsX20)
def wsX4_restart_r1 : List Cond := [Cond.fieldLink RX4 12 "WaysKept" "net" "LWaysKept$Net;", Cond.fieldLink RX4 28 "WaysKept" "past" "LWaysKept$Past;", Cond.fieldLink RX4 158 "WaysKept" "marked" "I", Cond.methodLink RX4 187 yX1_clear, Cond.instanceMethod yX1_clear, Cond.selects RX1 yX1_clear yX1_clear, Cond.initialized RX1, Cond.code yX1_clear cX1_clear 2 none, Cond.fieldLink RX1 28 "WaysKept$Net" "posts" "I", Cond.fieldLink RX1 32 "WaysKept$Net" "lines" "I", Cond.methodLink RX4 190 yX2_clear, Cond.instanceMethod yX2_clear, Cond.selects RX2 yX2_clear yX2_clear, Cond.initialized RX2, Cond.code yX2_clear cX2_clear 1 none, Cond.fieldLink RX2 15 "WaysKept$Past" "rows" "I", Cond.methodLink RX4 70 yX4_keepAct, Cond.instanceMethod yX4_keepAct, Cond.selects RX4 yX4_keepAct yX4_keepAct, Cond.initialized RX4, Cond.code yX4_keepAct cX4_keepAct 1 none, Cond.fieldLink RX4 21 "WaysKept" "ways" "LWaysKept$Ways;", Cond.methodLink RX4 192 yX3_measure, Cond.instanceMethod yX3_measure]
def wsX4_restart_r2 : List Cond := [Cond.selects RX3 yX3_measure yX3_measure, Cond.initialized RX3, Cond.code yX3_measure cX3_measure 2 none, Cond.fieldLink RX3 11 "WaysKept$Ways" "costs" "[I", Cond.constant RX3 24 (2147483647), Cond.fieldLink RX3 20 "WaysKept$Ways" "net" "LWaysKept$Net;", Cond.fieldLink RX3 17 "WaysKept$Ways" "reached" "[I", Cond.methodLink RX3 45 arraycopyName, Cond.native arraycopyName, Cond.static arraycopyName, Cond.initialized "java/lang/System", Cond.methodLink RX3 25 yJ7_fill_53178, Cond.static yJ7_fill_53178, Cond.initialized RJ7, Cond.code yJ7_fill_53178 cJ7_fill_53178 4 none, Cond.methodLink RX3 37 yX3_spread, Cond.instanceMethod yX3_spread, Cond.selects RX3 yX3_spread yX3_spread, Cond.code yX3_spread cX3_spread 7 none, Cond.methodLink RX3 115 yX1_touches, Cond.instanceMethod yX1_touches, Cond.selects RX1 yX1_touches yX1_touches, Cond.code yX1_touches cX1_touches 3 (some .boolean), Cond.fieldLink RX1 9 "WaysKept$Net" "begins" "[I"]
def wsX4_restart_r3 : List Cond := [Cond.fieldLink RX1 15 "WaysKept$Net" "ends" "[I", Cond.methodLink RX3 118 yX3_relax, Cond.instanceMethod yX3_relax, Cond.selects RX3 yX3_relax yX3_relax, Cond.code yX3_relax cX3_relax 6 (some .boolean), Cond.methodLink RX3 122 yX3_costOf, Cond.instanceMethod yX3_costOf, Cond.selects RX3 yX3_costOf yX3_costOf, Cond.code yX3_costOf cX3_costOf 2 (some .int), Cond.methodLink RX3 125 yX3_lower, Cond.instanceMethod yX3_lower, Cond.selects RX3 yX3_lower yX3_lower, Cond.code yX3_lower cX3_lower 4 (some .boolean), Cond.static yX4_pairOf, Cond.code yX4_pairOf cX4_pairOf 2 (some .int), Cond.methodLink RX4 195 yX2_keep, Cond.instanceMethod yX2_keep, Cond.selects RX2 yX2_keep yX2_keep, Cond.code yX2_keep cX2_keep 3 none, Cond.fieldLink RX2 11 "WaysKept$Past" "fars" "[I", Cond.methodLink RX2 19 yX2_isFull, Cond.instanceMethod yX2_isFull, Cond.selects RX2 yX2_isFull yX2_isFull, Cond.code yX2_isFull cX2_isFull 1 (some .boolean)]
def wsX4_restart_r4 : List Cond := [Cond.methodLink RX2 23 yX2_makeRoom, Cond.instanceMethod yX2_makeRoom, Cond.selects RX2 yX2_makeRoom yX2_makeRoom, Cond.code yX2_makeRoom cX2_makeRoom 1 none, Cond.constant RX2 39 (40100), Cond.methodLink RX2 40 Lib.Math.min.name, Cond.static Lib.Math.min.name, Cond.initialized "java/lang/Math", Cond.code Lib.Math.min.name Lib.Math.min.code 2 (some .int), Cond.methodLink RX2 45 yJ7_copyOf_59c91, Cond.static yJ7_copyOf_59c91, Cond.code yJ7_copyOf_59c91 cJ7_copyOf_59c91 3 (some (.array .int)), Cond.methodLink RJ7 316 ⟨"[I", "clone", "()Ljava/lang/Object;"⟩, Cond.sameMethod "[I" "java/lang/Object" "clone" "()Ljava/lang/Object;", Cond.native ⟨"java/lang/Object", "clone", "()Ljava/lang/Object;"⟩, Cond.instanceMethod ⟨"java/lang/Object", "clone", "()Ljava/lang/Object;"⟩, Cond.selects "[I" ⟨"[I", "clone", "()Ljava/lang/Object;"⟩ ⟨"java/lang/Object", "clone", "()Ljava/lang/Object;"⟩, Cond.classLink RJ7 317 "[I", Cond.arrayClass .int, Cond.methodLink RJ7 304 Lib.Math.min.name, Cond.methodLink RJ7 150 arraycopyName, Cond.methodLink RX2 26 yX3_leastPrice, Cond.instanceMethod yX3_leastPrice, Cond.selects RX3 yX3_leastPrice yX3_leastPrice]
def wsX4_restart_r5 : List Cond := [Cond.code yX3_leastPrice cX3_leastPrice 3 (some .int), Cond.methodLink RX3 51 yX3_priceIn, Cond.static yX3_priceIn, Cond.code yX3_priceIn cX3_priceIn 1 (some .int), Cond.methodLink RX3 135 yJ9_floorDiv_7cf53, Cond.static yJ9_floorDiv_7cf53, Cond.initialized RJ9, Cond.code yJ9_floorDiv_7cf53 cJ9_floorDiv_7cf53 3 (some .int)]
def wsX4_restart : List Cond := .code yX4_restart cX4_restart 2 none :: ((wsX4_restart_r1 ++ (wsX4_restart_r2 ++ (wsX4_restart_r3 ++ (wsX4_restart_r4 ++ wsX4_restart_r5)))) ++ wsX40 ++ wsX10 ++ wsX20 ++ wsX30)
def wsX4_init_r1 : List Cond := [Cond.methodLink RX4 3 objectInit, Cond.instanceMethod objectInit, Cond.code objectInit ⟨#[0xb1]⟩ 1 none, Cond.classLink RX4 9 RX1, Cond.instantiable RX1 7, Cond.initialized RX1, Cond.fieldLink RX4 12 "WaysKept" "net" "LWaysKept$Net;", Cond.classLink RX4 16 RX3, Cond.instantiable RX3 3, Cond.initialized RX3, Cond.fieldLink RX4 21 "WaysKept" "ways" "LWaysKept$Ways;", Cond.classLink RX4 25 RX2, Cond.instantiable RX2 2, Cond.initialized RX2, Cond.fieldLink RX4 28 "WaysKept" "past" "LWaysKept$Past;", Cond.classLink RX4 32 RX0, Cond.instantiable RX0 2, Cond.initialized RX0, Cond.fieldLink RX4 35 "WaysKept" "hitting" "LWaysKept$Hitting;", Cond.instanceMethod yX1_init, Cond.code yX1_init cX1_init 1 none, Cond.methodLink RX1 3 objectInit, Cond.arrayClass .int, Cond.fieldLink RX1 9 "WaysKept$Net" "begins" "[I"]
def wsX4_init_r2 : List Cond := [Cond.fieldLink RX1 15 "WaysKept$Net" "ends" "[I", Cond.fieldLink RX1 18 "WaysKept$Net" "prices" "[I", Cond.arrayClass .boolean, Cond.fieldLink RX1 21 "WaysKept$Net" "bothWays" "[Z", Cond.fieldLink RX1 25 "WaysKept$Net" "there" "[Z", Cond.methodLink RX4 18 yX3_init, Cond.instanceMethod yX3_init, Cond.code yX3_init cX3_init 2 none, Cond.methodLink RX3 5 objectInit, Cond.fieldLink RX3 11 "WaysKept$Ways" "costs" "[I", Cond.fieldLink RX3 17 "WaysKept$Ways" "reached" "[I", Cond.fieldLink RX3 20 "WaysKept$Ways" "net" "LWaysKept$Net;", Cond.instanceMethod yX2_init, Cond.code yX2_init cX2_init 1 none, Cond.methodLink RX2 3 objectInit, Cond.fieldLink RX2 11 "WaysKept$Past" "fars" "[I", Cond.instanceMethod yX0_init, Cond.code yX0_init cX0_init 1 none, Cond.methodLink RX0 3 objectInit, Cond.fieldLink RX0 9 "WaysKept$Hitting" "asked" "[I", Cond.methodLink RX4 39 yX4_restart, Cond.instanceMethod yX4_restart, Cond.selects RX4 yX4_restart yX4_restart, Cond.initialized RX4]
def wsX4_init_r3 : List Cond := [Cond.code yX4_restart cX4_restart 2 none, Cond.fieldLink RX4 158 "WaysKept" "marked" "I", Cond.methodLink RX4 187 yX1_clear, Cond.instanceMethod yX1_clear, Cond.selects RX1 yX1_clear yX1_clear, Cond.code yX1_clear cX1_clear 2 none, Cond.fieldLink RX1 28 "WaysKept$Net" "posts" "I", Cond.fieldLink RX1 32 "WaysKept$Net" "lines" "I", Cond.methodLink RX4 190 yX2_clear, Cond.instanceMethod yX2_clear, Cond.selects RX2 yX2_clear yX2_clear, Cond.code yX2_clear cX2_clear 1 none, Cond.fieldLink RX2 15 "WaysKept$Past" "rows" "I", Cond.methodLink RX4 70 yX4_keepAct, Cond.instanceMethod yX4_keepAct, Cond.selects RX4 yX4_keepAct yX4_keepAct, Cond.code yX4_keepAct cX4_keepAct 1 none, Cond.methodLink RX4 192 yX3_measure, Cond.instanceMethod yX3_measure, Cond.selects RX3 yX3_measure yX3_measure, Cond.code yX3_measure cX3_measure 2 none, Cond.constant RX3 24 (2147483647), Cond.methodLink RX3 45 arraycopyName, Cond.native arraycopyName]
def wsX4_init_r4 : List Cond := [Cond.static arraycopyName, Cond.initialized "java/lang/System", Cond.methodLink RX3 25 yJ7_fill_53178, Cond.static yJ7_fill_53178, Cond.initialized RJ7, Cond.code yJ7_fill_53178 cJ7_fill_53178 4 none, Cond.methodLink RX3 37 yX3_spread, Cond.instanceMethod yX3_spread, Cond.selects RX3 yX3_spread yX3_spread, Cond.code yX3_spread cX3_spread 7 none, Cond.methodLink RX3 115 yX1_touches, Cond.instanceMethod yX1_touches, Cond.selects RX1 yX1_touches yX1_touches, Cond.code yX1_touches cX1_touches 3 (some .boolean), Cond.methodLink RX3 118 yX3_relax, Cond.instanceMethod yX3_relax, Cond.selects RX3 yX3_relax yX3_relax, Cond.code yX3_relax cX3_relax 6 (some .boolean), Cond.methodLink RX3 122 yX3_costOf, Cond.instanceMethod yX3_costOf, Cond.selects RX3 yX3_costOf yX3_costOf, Cond.code yX3_costOf cX3_costOf 2 (some .int), Cond.methodLink RX3 125 yX3_lower, Cond.instanceMethod yX3_lower]
def wsX4_init_r5 : List Cond := [Cond.selects RX3 yX3_lower yX3_lower, Cond.code yX3_lower cX3_lower 4 (some .boolean), Cond.static yX4_pairOf, Cond.code yX4_pairOf cX4_pairOf 2 (some .int), Cond.methodLink RX4 195 yX2_keep, Cond.instanceMethod yX2_keep, Cond.selects RX2 yX2_keep yX2_keep, Cond.code yX2_keep cX2_keep 3 none, Cond.methodLink RX2 19 yX2_isFull, Cond.instanceMethod yX2_isFull, Cond.selects RX2 yX2_isFull yX2_isFull, Cond.code yX2_isFull cX2_isFull 1 (some .boolean), Cond.methodLink RX2 23 yX2_makeRoom, Cond.instanceMethod yX2_makeRoom, Cond.selects RX2 yX2_makeRoom yX2_makeRoom, Cond.code yX2_makeRoom cX2_makeRoom 1 none, Cond.constant RX2 39 (40100), Cond.methodLink RX2 40 Lib.Math.min.name, Cond.static Lib.Math.min.name, Cond.initialized "java/lang/Math", Cond.code Lib.Math.min.name Lib.Math.min.code 2 (some .int), Cond.methodLink RX2 45 yJ7_copyOf_59c91, Cond.static yJ7_copyOf_59c91, Cond.code yJ7_copyOf_59c91 cJ7_copyOf_59c91 3 (some (.array .int))]
def wsX4_init_r6 : List Cond := [Cond.methodLink RJ7 316 ⟨"[I", "clone", "()Ljava/lang/Object;"⟩, Cond.sameMethod "[I" "java/lang/Object" "clone" "()Ljava/lang/Object;", Cond.native ⟨"java/lang/Object", "clone", "()Ljava/lang/Object;"⟩, Cond.instanceMethod ⟨"java/lang/Object", "clone", "()Ljava/lang/Object;"⟩, Cond.selects "[I" ⟨"[I", "clone", "()Ljava/lang/Object;"⟩ ⟨"java/lang/Object", "clone", "()Ljava/lang/Object;"⟩, Cond.classLink RJ7 317 "[I", Cond.methodLink RJ7 304 Lib.Math.min.name, Cond.methodLink RJ7 150 arraycopyName, Cond.methodLink RX2 26 yX3_leastPrice, Cond.instanceMethod yX3_leastPrice, Cond.selects RX3 yX3_leastPrice yX3_leastPrice, Cond.code yX3_leastPrice cX3_leastPrice 3 (some .int), Cond.methodLink RX3 51 yX3_priceIn, Cond.static yX3_priceIn, Cond.code yX3_priceIn cX3_priceIn 1 (some .int), Cond.methodLink RX3 135 yJ9_floorDiv_7cf53, Cond.static yJ9_floorDiv_7cf53, Cond.initialized RJ9, Cond.code yJ9_floorDiv_7cf53 cJ9_floorDiv_7cf53 3 (some .int)]
def wsX4_init : List Cond := .code yX4_init cX4_init 1 none :: ((wsX4_init_r1 ++ (wsX4_init_r2 ++ (wsX4_init_r3 ++ (wsX4_init_r4 ++ (wsX4_init_r5 ++ wsX4_init_r6))))) ++ wsX10 ++ wsX40 ++ wsX30 ++ wsX20 ++ wsX00)
def wsX4_posts_r1 : List Cond := [Cond.fieldLink RX4 12 "WaysKept" "net" "LWaysKept$Net;", Cond.methodLink RX4 39 yX4_restart, Cond.instanceMethod yX4_restart, Cond.selects RX4 yX4_restart yX4_restart, Cond.initialized RX4, Cond.code yX4_restart cX4_restart 2 none, Cond.fieldLink RX4 28 "WaysKept" "past" "LWaysKept$Past;", Cond.fieldLink RX4 158 "WaysKept" "marked" "I", Cond.methodLink RX4 187 yX1_clear, Cond.instanceMethod yX1_clear, Cond.selects RX1 yX1_clear yX1_clear, Cond.initialized RX1, Cond.code yX1_clear cX1_clear 2 none, Cond.fieldLink RX1 28 "WaysKept$Net" "posts" "I", Cond.fieldLink RX1 32 "WaysKept$Net" "lines" "I", Cond.methodLink RX4 190 yX2_clear, Cond.instanceMethod yX2_clear, Cond.selects RX2 yX2_clear yX2_clear, Cond.initialized RX2, Cond.code yX2_clear cX2_clear 1 none, Cond.fieldLink RX2 15 "WaysKept$Past" "rows" "I", Cond.methodLink RX4 70 yX4_keepAct, Cond.instanceMethod yX4_keepAct, Cond.selects RX4 yX4_keepAct yX4_keepAct]
def wsX4_posts_r2 : List Cond := [Cond.code yX4_keepAct cX4_keepAct 1 none, Cond.fieldLink RX4 21 "WaysKept" "ways" "LWaysKept$Ways;", Cond.methodLink RX4 192 yX3_measure, Cond.instanceMethod yX3_measure, Cond.selects RX3 yX3_measure yX3_measure, Cond.initialized RX3, Cond.code yX3_measure cX3_measure 2 none, Cond.fieldLink RX3 11 "WaysKept$Ways" "costs" "[I", Cond.constant RX3 24 (2147483647), Cond.fieldLink RX3 20 "WaysKept$Ways" "net" "LWaysKept$Net;", Cond.fieldLink RX3 17 "WaysKept$Ways" "reached" "[I", Cond.methodLink RX3 45 arraycopyName, Cond.native arraycopyName, Cond.static arraycopyName, Cond.initialized "java/lang/System", Cond.methodLink RX3 25 yJ7_fill_53178, Cond.static yJ7_fill_53178, Cond.initialized RJ7, Cond.code yJ7_fill_53178 cJ7_fill_53178 4 none, Cond.methodLink RX3 37 yX3_spread, Cond.instanceMethod yX3_spread, Cond.selects RX3 yX3_spread yX3_spread, Cond.code yX3_spread cX3_spread 7 none, Cond.methodLink RX3 115 yX1_touches]
def wsX4_posts_r3 : List Cond := [Cond.instanceMethod yX1_touches, Cond.selects RX1 yX1_touches yX1_touches, Cond.code yX1_touches cX1_touches 3 (some .boolean), Cond.fieldLink RX1 9 "WaysKept$Net" "begins" "[I", Cond.fieldLink RX1 15 "WaysKept$Net" "ends" "[I", Cond.methodLink RX3 118 yX3_relax, Cond.instanceMethod yX3_relax, Cond.selects RX3 yX3_relax yX3_relax, Cond.code yX3_relax cX3_relax 6 (some .boolean), Cond.methodLink RX3 122 yX3_costOf, Cond.instanceMethod yX3_costOf, Cond.selects RX3 yX3_costOf yX3_costOf, Cond.code yX3_costOf cX3_costOf 2 (some .int), Cond.methodLink RX3 125 yX3_lower, Cond.instanceMethod yX3_lower, Cond.selects RX3 yX3_lower yX3_lower, Cond.code yX3_lower cX3_lower 4 (some .boolean), Cond.static yX4_pairOf, Cond.code yX4_pairOf cX4_pairOf 2 (some .int), Cond.methodLink RX4 195 yX2_keep, Cond.instanceMethod yX2_keep, Cond.selects RX2 yX2_keep yX2_keep, Cond.code yX2_keep cX2_keep 3 none, Cond.fieldLink RX2 11 "WaysKept$Past" "fars" "[I"]
def wsX4_posts_r4 : List Cond := [Cond.methodLink RX2 19 yX2_isFull, Cond.instanceMethod yX2_isFull, Cond.selects RX2 yX2_isFull yX2_isFull, Cond.code yX2_isFull cX2_isFull 1 (some .boolean), Cond.methodLink RX2 23 yX2_makeRoom, Cond.instanceMethod yX2_makeRoom, Cond.selects RX2 yX2_makeRoom yX2_makeRoom, Cond.code yX2_makeRoom cX2_makeRoom 1 none, Cond.constant RX2 39 (40100), Cond.methodLink RX2 40 Lib.Math.min.name, Cond.static Lib.Math.min.name, Cond.initialized "java/lang/Math", Cond.code Lib.Math.min.name Lib.Math.min.code 2 (some .int), Cond.methodLink RX2 45 yJ7_copyOf_59c91, Cond.static yJ7_copyOf_59c91, Cond.code yJ7_copyOf_59c91 cJ7_copyOf_59c91 3 (some (.array .int)), Cond.methodLink RJ7 316 ⟨"[I", "clone", "()Ljava/lang/Object;"⟩, Cond.sameMethod "[I" "java/lang/Object" "clone" "()Ljava/lang/Object;", Cond.native ⟨"java/lang/Object", "clone", "()Ljava/lang/Object;"⟩, Cond.instanceMethod ⟨"java/lang/Object", "clone", "()Ljava/lang/Object;"⟩, Cond.selects "[I" ⟨"[I", "clone", "()Ljava/lang/Object;"⟩ ⟨"java/lang/Object", "clone", "()Ljava/lang/Object;"⟩, Cond.classLink RJ7 317 "[I", Cond.arrayClass .int, Cond.methodLink RJ7 304 Lib.Math.min.name]
def wsX4_posts_r5 : List Cond := [Cond.methodLink RJ7 150 arraycopyName, Cond.methodLink RX2 26 yX3_leastPrice, Cond.instanceMethod yX3_leastPrice, Cond.selects RX3 yX3_leastPrice yX3_leastPrice, Cond.code yX3_leastPrice cX3_leastPrice 3 (some .int), Cond.methodLink RX3 51 yX3_priceIn, Cond.static yX3_priceIn, Cond.code yX3_priceIn cX3_priceIn 1 (some .int), Cond.methodLink RX3 135 yJ9_floorDiv_7cf53, Cond.static yJ9_floorDiv_7cf53, Cond.initialized RJ9, Cond.code yJ9_floorDiv_7cf53 cJ9_floorDiv_7cf53 3 (some .int)]
def wsX4_posts : List Cond := .code yX4_posts cX4_posts 3 (some .int) :: ((wsX4_posts_r1 ++ (wsX4_posts_r2 ++ (wsX4_posts_r3 ++ (wsX4_posts_r4 ++ wsX4_posts_r5)))) ++ wsX40 ++ wsX10 ++ wsX20 ++ wsX30)
def wsX4_mayCost : List Cond := .code yX4_mayCost cX4_mayCost 2 (some .boolean) :: ([])
def wsX4_line_r1 : List Cond := [Cond.fieldLink RX4 12 "WaysKept" "net" "LWaysKept$Net;", Cond.fieldLink RX4 21 "WaysKept" "ways" "LWaysKept$Ways;", Cond.fieldLink RX4 28 "WaysKept" "past" "LWaysKept$Past;", Cond.methodLink RX4 47 yX1_hasPosts, Cond.instanceMethod yX1_hasPosts, Cond.selects RX1 yX1_hasPosts yX1_hasPosts, Cond.initialized RX1, Cond.code yX1_hasPosts cX1_hasPosts 3 (some .boolean), Cond.methodLink RX1 35 yX1_hasPost, Cond.instanceMethod yX1_hasPost, Cond.selects RX1 yX1_hasPost yX1_hasPost, Cond.code yX1_hasPost cX1_hasPost 2 (some .boolean), Cond.fieldLink RX1 28 "WaysKept$Net" "posts" "I", Cond.methodLink RX4 51 yX4_mayCost, Cond.static yX4_mayCost, Cond.initialized RX4, Cond.code yX4_mayCost cX4_mayCost 2 (some .boolean), Cond.methodLink RX4 55 yX3_wouldSink, Cond.instanceMethod yX3_wouldSink, Cond.selects RX3 yX3_wouldSink yX3_wouldSink, Cond.initialized RX3, Cond.code yX3_wouldSink cX3_wouldSink 6 (some .boolean), Cond.methodLink RX3 73 yX3_leastAvoiding, Cond.instanceMethod yX3_leastAvoiding]
def wsX4_line_r2 : List Cond := [Cond.selects RX3 yX3_leastAvoiding yX3_leastAvoiding, Cond.code yX3_leastAvoiding cX3_leastAvoiding 5 (some .int), Cond.fieldLink RX3 17 "WaysKept$Ways" "reached" "[I", Cond.methodLink RX3 37 yX3_spread, Cond.instanceMethod yX3_spread, Cond.selects RX3 yX3_spread yX3_spread, Cond.code yX3_spread cX3_spread 7 none, Cond.constant RX3 24 (2147483647), Cond.fieldLink RX3 20 "WaysKept$Ways" "net" "LWaysKept$Net;", Cond.methodLink RX3 25 yJ7_fill_53178, Cond.static yJ7_fill_53178, Cond.initialized RJ7, Cond.code yJ7_fill_53178 cJ7_fill_53178 4 none, Cond.methodLink RX3 115 yX1_touches, Cond.instanceMethod yX1_touches, Cond.selects RX1 yX1_touches yX1_touches, Cond.code yX1_touches cX1_touches 3 (some .boolean), Cond.fieldLink RX1 9 "WaysKept$Net" "begins" "[I", Cond.fieldLink RX1 15 "WaysKept$Net" "ends" "[I", Cond.methodLink RX3 118 yX3_relax, Cond.instanceMethod yX3_relax, Cond.selects RX3 yX3_relax yX3_relax, Cond.code yX3_relax cX3_relax 6 (some .boolean), Cond.methodLink RX3 122 yX3_costOf]
def wsX4_line_r3 : List Cond := [Cond.instanceMethod yX3_costOf, Cond.selects RX3 yX3_costOf yX3_costOf, Cond.code yX3_costOf cX3_costOf 2 (some .int), Cond.methodLink RX3 125 yX3_lower, Cond.instanceMethod yX3_lower, Cond.selects RX3 yX3_lower yX3_lower, Cond.code yX3_lower cX3_lower 4 (some .boolean), Cond.methodLink RX3 51 yX3_priceIn, Cond.static yX3_priceIn, Cond.code yX3_priceIn cX3_priceIn 1 (some .int), Cond.methodLink RX3 135 yJ9_floorDiv_7cf53, Cond.static yJ9_floorDiv_7cf53, Cond.initialized RJ9, Cond.code yJ9_floorDiv_7cf53 cJ9_floorDiv_7cf53 3 (some .int), Cond.methodLink RX3 80 yX3_closesBelow, Cond.static yX3_closesBelow, Cond.code yX3_closesBelow cX3_closesBelow 2 (some .boolean), Cond.methodLink RX4 62 yX2_isFull, Cond.instanceMethod yX2_isFull, Cond.selects RX2 yX2_isFull yX2_isFull, Cond.initialized RX2, Cond.code yX2_isFull cX2_isFull 1 (some .boolean), Cond.fieldLink RX2 15 "WaysKept$Past" "rows" "I", Cond.methodLink RX4 66 yX1_add]
def wsX4_line_r4 : List Cond := [Cond.instanceMethod yX1_add, Cond.selects RX1 yX1_add yX1_add, Cond.code yX1_add cX1_add 6 (some .int), Cond.fieldLink RX1 32 "WaysKept$Net" "lines" "I", Cond.fieldLink RX1 18 "WaysKept$Net" "prices" "[I", Cond.fieldLink RX1 21 "WaysKept$Net" "bothWays" "[Z", Cond.fieldLink RX1 25 "WaysKept$Net" "there" "[Z", Cond.methodLink RX4 70 yX4_keepAct, Cond.instanceMethod yX4_keepAct, Cond.selects RX4 yX4_keepAct yX4_keepAct, Cond.code yX4_keepAct cX4_keepAct 1 none, Cond.methodLink RX4 192 yX3_measure, Cond.instanceMethod yX3_measure, Cond.selects RX3 yX3_measure yX3_measure, Cond.code yX3_measure cX3_measure 2 none, Cond.fieldLink RX3 11 "WaysKept$Ways" "costs" "[I", Cond.methodLink RX3 45 arraycopyName, Cond.native arraycopyName, Cond.static arraycopyName, Cond.initialized "java/lang/System", Cond.static yX4_pairOf, Cond.code yX4_pairOf cX4_pairOf 2 (some .int), Cond.methodLink RX4 195 yX2_keep, Cond.instanceMethod yX2_keep]
def wsX4_line_r5 : List Cond := [Cond.selects RX2 yX2_keep yX2_keep, Cond.code yX2_keep cX2_keep 3 none, Cond.fieldLink RX2 11 "WaysKept$Past" "fars" "[I", Cond.methodLink RX2 19 yX2_isFull, Cond.methodLink RX2 23 yX2_makeRoom, Cond.instanceMethod yX2_makeRoom, Cond.selects RX2 yX2_makeRoom yX2_makeRoom, Cond.code yX2_makeRoom cX2_makeRoom 1 none, Cond.constant RX2 39 (40100), Cond.methodLink RX2 40 Lib.Math.min.name, Cond.static Lib.Math.min.name, Cond.initialized "java/lang/Math", Cond.code Lib.Math.min.name Lib.Math.min.code 2 (some .int), Cond.methodLink RX2 45 yJ7_copyOf_59c91, Cond.static yJ7_copyOf_59c91, Cond.code yJ7_copyOf_59c91 cJ7_copyOf_59c91 3 (some (.array .int)), Cond.methodLink RJ7 316 ⟨"[I", "clone", "()Ljava/lang/Object;"⟩, Cond.sameMethod "[I" "java/lang/Object" "clone" "()Ljava/lang/Object;", Cond.native ⟨"java/lang/Object", "clone", "()Ljava/lang/Object;"⟩, Cond.instanceMethod ⟨"java/lang/Object", "clone", "()Ljava/lang/Object;"⟩, Cond.selects "[I" ⟨"[I", "clone", "()Ljava/lang/Object;"⟩ ⟨"java/lang/Object", "clone", "()Ljava/lang/Object;"⟩, Cond.classLink RJ7 317 "[I", Cond.arrayClass .int, Cond.methodLink RJ7 304 Lib.Math.min.name]
def wsX4_line_r6 : List Cond := [Cond.methodLink RJ7 150 arraycopyName, Cond.methodLink RX2 26 yX3_leastPrice, Cond.instanceMethod yX3_leastPrice, Cond.selects RX3 yX3_leastPrice yX3_leastPrice, Cond.code yX3_leastPrice cX3_leastPrice 3 (some .int)]
def wsX4_line : List Cond := .code yX4_line cX4_line 6 (some .int) :: ((wsX4_line_r1 ++ (wsX4_line_r2 ++ (wsX4_line_r3 ++ (wsX4_line_r4 ++ (wsX4_line_r5 ++ wsX4_line_r6))))) ++ wsX40 ++ wsX10 ++ wsX30 ++ wsX20)
def wsX4_wouldSinkAt_r1 : List Cond := [Cond.fieldLink RX4 21 "WaysKept" "ways" "LWaysKept$Ways;", Cond.fieldLink RX4 12 "WaysKept" "net" "LWaysKept$Net;", Cond.methodLink RX4 55 yX3_wouldSink, Cond.instanceMethod yX3_wouldSink, Cond.selects RX3 yX3_wouldSink yX3_wouldSink, Cond.initialized RX3, Cond.code yX3_wouldSink cX3_wouldSink 6 (some .boolean), Cond.methodLink RX3 73 yX3_leastAvoiding, Cond.instanceMethod yX3_leastAvoiding, Cond.selects RX3 yX3_leastAvoiding yX3_leastAvoiding, Cond.code yX3_leastAvoiding cX3_leastAvoiding 5 (some .int), Cond.fieldLink RX3 17 "WaysKept$Ways" "reached" "[I", Cond.methodLink RX3 37 yX3_spread, Cond.instanceMethod yX3_spread, Cond.selects RX3 yX3_spread yX3_spread, Cond.code yX3_spread cX3_spread 7 none, Cond.constant RX3 24 (2147483647), Cond.fieldLink RX3 20 "WaysKept$Ways" "net" "LWaysKept$Net;", Cond.methodLink RX3 25 yJ7_fill_53178, Cond.static yJ7_fill_53178, Cond.initialized RJ7, Cond.code yJ7_fill_53178 cJ7_fill_53178 4 none, Cond.methodLink RX3 115 yX1_touches, Cond.instanceMethod yX1_touches]
def wsX4_wouldSinkAt_r2 : List Cond := [Cond.selects RX1 yX1_touches yX1_touches, Cond.initialized RX1, Cond.code yX1_touches cX1_touches 3 (some .boolean), Cond.fieldLink RX1 9 "WaysKept$Net" "begins" "[I", Cond.fieldLink RX1 15 "WaysKept$Net" "ends" "[I", Cond.methodLink RX3 118 yX3_relax, Cond.instanceMethod yX3_relax, Cond.selects RX3 yX3_relax yX3_relax, Cond.code yX3_relax cX3_relax 6 (some .boolean), Cond.methodLink RX3 122 yX3_costOf, Cond.instanceMethod yX3_costOf, Cond.selects RX3 yX3_costOf yX3_costOf, Cond.code yX3_costOf cX3_costOf 2 (some .int), Cond.methodLink RX3 125 yX3_lower, Cond.instanceMethod yX3_lower, Cond.selects RX3 yX3_lower yX3_lower, Cond.code yX3_lower cX3_lower 4 (some .boolean), Cond.methodLink RX3 51 yX3_priceIn, Cond.static yX3_priceIn, Cond.code yX3_priceIn cX3_priceIn 1 (some .int), Cond.methodLink RX3 135 yJ9_floorDiv_7cf53, Cond.static yJ9_floorDiv_7cf53, Cond.initialized RJ9, Cond.code yJ9_floorDiv_7cf53 cJ9_floorDiv_7cf53 3 (some .int)]
def wsX4_wouldSinkAt_r3 : List Cond := [Cond.methodLink RX3 80 yX3_closesBelow, Cond.static yX3_closesBelow, Cond.code yX3_closesBelow cX3_closesBelow 2 (some .boolean)]
def wsX4_wouldSinkAt : List Cond := .code yX4_wouldSinkAt cX4_wouldSinkAt 3 (some .boolean) :: ((wsX4_wouldSinkAt_r1 ++ (wsX4_wouldSinkAt_r2 ++ wsX4_wouldSinkAt_r3)) ++ wsX40 ++ wsX10 ++ wsX30)
def wsX4_price_r1 : List Cond := [Cond.fieldLink RX4 12 "WaysKept" "net" "LWaysKept$Net;", Cond.fieldLink RX4 28 "WaysKept" "past" "LWaysKept$Past;", Cond.methodLink RX4 73 yX1_hasLine, Cond.instanceMethod yX1_hasLine, Cond.selects RX1 yX1_hasLine yX1_hasLine, Cond.initialized RX1, Cond.code yX1_hasLine cX1_hasLine 2 (some .boolean), Cond.fieldLink RX1 32 "WaysKept$Net" "lines" "I", Cond.methodLink RX4 51 yX4_mayCost, Cond.static yX4_mayCost, Cond.initialized RX4, Cond.code yX4_mayCost cX4_mayCost 2 (some .boolean), Cond.methodLink RX4 88 yX4_wouldSinkAt, Cond.instanceMethod yX4_wouldSinkAt, Cond.selects RX4 yX4_wouldSinkAt yX4_wouldSinkAt, Cond.code yX4_wouldSinkAt cX4_wouldSinkAt 3 (some .boolean), Cond.fieldLink RX4 21 "WaysKept" "ways" "LWaysKept$Ways;", Cond.methodLink RX4 55 yX3_wouldSink, Cond.instanceMethod yX3_wouldSink, Cond.selects RX3 yX3_wouldSink yX3_wouldSink, Cond.initialized RX3, Cond.code yX3_wouldSink cX3_wouldSink 6 (some .boolean), Cond.methodLink RX3 73 yX3_leastAvoiding, Cond.instanceMethod yX3_leastAvoiding]
def wsX4_price_r2 : List Cond := [Cond.selects RX3 yX3_leastAvoiding yX3_leastAvoiding, Cond.code yX3_leastAvoiding cX3_leastAvoiding 5 (some .int), Cond.fieldLink RX3 17 "WaysKept$Ways" "reached" "[I", Cond.methodLink RX3 37 yX3_spread, Cond.instanceMethod yX3_spread, Cond.selects RX3 yX3_spread yX3_spread, Cond.code yX3_spread cX3_spread 7 none, Cond.constant RX3 24 (2147483647), Cond.fieldLink RX3 20 "WaysKept$Ways" "net" "LWaysKept$Net;", Cond.methodLink RX3 25 yJ7_fill_53178, Cond.static yJ7_fill_53178, Cond.initialized RJ7, Cond.code yJ7_fill_53178 cJ7_fill_53178 4 none, Cond.methodLink RX3 115 yX1_touches, Cond.instanceMethod yX1_touches, Cond.selects RX1 yX1_touches yX1_touches, Cond.code yX1_touches cX1_touches 3 (some .boolean), Cond.fieldLink RX1 9 "WaysKept$Net" "begins" "[I", Cond.fieldLink RX1 15 "WaysKept$Net" "ends" "[I", Cond.methodLink RX3 118 yX3_relax, Cond.instanceMethod yX3_relax, Cond.selects RX3 yX3_relax yX3_relax, Cond.code yX3_relax cX3_relax 6 (some .boolean), Cond.methodLink RX3 122 yX3_costOf]
def wsX4_price_r3 : List Cond := [Cond.instanceMethod yX3_costOf, Cond.selects RX3 yX3_costOf yX3_costOf, Cond.code yX3_costOf cX3_costOf 2 (some .int), Cond.methodLink RX3 125 yX3_lower, Cond.instanceMethod yX3_lower, Cond.selects RX3 yX3_lower yX3_lower, Cond.code yX3_lower cX3_lower 4 (some .boolean), Cond.methodLink RX3 51 yX3_priceIn, Cond.static yX3_priceIn, Cond.code yX3_priceIn cX3_priceIn 1 (some .int), Cond.methodLink RX3 135 yJ9_floorDiv_7cf53, Cond.static yJ9_floorDiv_7cf53, Cond.initialized RJ9, Cond.code yJ9_floorDiv_7cf53 cJ9_floorDiv_7cf53 3 (some .int), Cond.methodLink RX3 80 yX3_closesBelow, Cond.static yX3_closesBelow, Cond.code yX3_closesBelow cX3_closesBelow 2 (some .boolean), Cond.methodLink RX4 62 yX2_isFull, Cond.instanceMethod yX2_isFull, Cond.selects RX2 yX2_isFull yX2_isFull, Cond.initialized RX2, Cond.code yX2_isFull cX2_isFull 1 (some .boolean), Cond.fieldLink RX2 15 "WaysKept$Past" "rows" "I", Cond.methodLink RX4 70 yX4_keepAct]
def wsX4_price_r4 : List Cond := [Cond.instanceMethod yX4_keepAct, Cond.selects RX4 yX4_keepAct yX4_keepAct, Cond.code yX4_keepAct cX4_keepAct 1 none, Cond.methodLink RX4 192 yX3_measure, Cond.instanceMethod yX3_measure, Cond.selects RX3 yX3_measure yX3_measure, Cond.code yX3_measure cX3_measure 2 none, Cond.fieldLink RX3 11 "WaysKept$Ways" "costs" "[I", Cond.methodLink RX3 45 arraycopyName, Cond.native arraycopyName, Cond.static arraycopyName, Cond.initialized "java/lang/System", Cond.static yX4_pairOf, Cond.code yX4_pairOf cX4_pairOf 2 (some .int), Cond.methodLink RX4 195 yX2_keep, Cond.instanceMethod yX2_keep, Cond.selects RX2 yX2_keep yX2_keep, Cond.code yX2_keep cX2_keep 3 none, Cond.fieldLink RX2 11 "WaysKept$Past" "fars" "[I", Cond.methodLink RX2 19 yX2_isFull, Cond.methodLink RX2 23 yX2_makeRoom, Cond.instanceMethod yX2_makeRoom, Cond.selects RX2 yX2_makeRoom yX2_makeRoom, Cond.code yX2_makeRoom cX2_makeRoom 1 none]
def wsX4_price_r5 : List Cond := [Cond.constant RX2 39 (40100), Cond.methodLink RX2 40 Lib.Math.min.name, Cond.static Lib.Math.min.name, Cond.initialized "java/lang/Math", Cond.code Lib.Math.min.name Lib.Math.min.code 2 (some .int), Cond.methodLink RX2 45 yJ7_copyOf_59c91, Cond.static yJ7_copyOf_59c91, Cond.code yJ7_copyOf_59c91 cJ7_copyOf_59c91 3 (some (.array .int)), Cond.methodLink RJ7 316 ⟨"[I", "clone", "()Ljava/lang/Object;"⟩, Cond.sameMethod "[I" "java/lang/Object" "clone" "()Ljava/lang/Object;", Cond.native ⟨"java/lang/Object", "clone", "()Ljava/lang/Object;"⟩, Cond.instanceMethod ⟨"java/lang/Object", "clone", "()Ljava/lang/Object;"⟩, Cond.selects "[I" ⟨"[I", "clone", "()Ljava/lang/Object;"⟩ ⟨"java/lang/Object", "clone", "()Ljava/lang/Object;"⟩, Cond.classLink RJ7 317 "[I", Cond.arrayClass .int, Cond.methodLink RJ7 304 Lib.Math.min.name, Cond.methodLink RJ7 150 arraycopyName, Cond.methodLink RX2 26 yX3_leastPrice, Cond.instanceMethod yX3_leastPrice, Cond.selects RX3 yX3_leastPrice yX3_leastPrice, Cond.code yX3_leastPrice cX3_leastPrice 3 (some .int)]
def wsX4_price : List Cond := .code yX4_price cX4_price 4 (some .int) :: ((wsX4_price_r1 ++ (wsX4_price_r2 ++ (wsX4_price_r3 ++ (wsX4_price_r4 ++ wsX4_price_r5)))) ++ wsX40 ++ wsX10 ++ wsX30 ++ wsX20)
def wsX4_cut_r1 : List Cond := [Cond.fieldLink RX4 12 "WaysKept" "net" "LWaysKept$Net;", Cond.fieldLink RX4 28 "WaysKept" "past" "LWaysKept$Past;", Cond.methodLink RX4 73 yX1_hasLine, Cond.instanceMethod yX1_hasLine, Cond.selects RX1 yX1_hasLine yX1_hasLine, Cond.initialized RX1, Cond.code yX1_hasLine cX1_hasLine 2 (some .boolean), Cond.fieldLink RX1 32 "WaysKept$Net" "lines" "I", Cond.methodLink RX4 62 yX2_isFull, Cond.instanceMethod yX2_isFull, Cond.selects RX2 yX2_isFull yX2_isFull, Cond.initialized RX2, Cond.code yX2_isFull cX2_isFull 1 (some .boolean), Cond.fieldLink RX2 15 "WaysKept$Past" "rows" "I", Cond.methodLink RX4 70 yX4_keepAct, Cond.instanceMethod yX4_keepAct, Cond.selects RX4 yX4_keepAct yX4_keepAct, Cond.initialized RX4, Cond.code yX4_keepAct cX4_keepAct 1 none, Cond.fieldLink RX4 21 "WaysKept" "ways" "LWaysKept$Ways;", Cond.methodLink RX4 192 yX3_measure, Cond.instanceMethod yX3_measure, Cond.selects RX3 yX3_measure yX3_measure, Cond.initialized RX3]
def wsX4_cut_r2 : List Cond := [Cond.code yX3_measure cX3_measure 2 none, Cond.fieldLink RX3 11 "WaysKept$Ways" "costs" "[I", Cond.constant RX3 24 (2147483647), Cond.fieldLink RX3 20 "WaysKept$Ways" "net" "LWaysKept$Net;", Cond.fieldLink RX3 17 "WaysKept$Ways" "reached" "[I", Cond.methodLink RX3 45 arraycopyName, Cond.native arraycopyName, Cond.static arraycopyName, Cond.initialized "java/lang/System", Cond.methodLink RX3 25 yJ7_fill_53178, Cond.static yJ7_fill_53178, Cond.initialized RJ7, Cond.code yJ7_fill_53178 cJ7_fill_53178 4 none, Cond.methodLink RX3 37 yX3_spread, Cond.instanceMethod yX3_spread, Cond.selects RX3 yX3_spread yX3_spread, Cond.code yX3_spread cX3_spread 7 none, Cond.methodLink RX3 115 yX1_touches, Cond.instanceMethod yX1_touches, Cond.selects RX1 yX1_touches yX1_touches, Cond.code yX1_touches cX1_touches 3 (some .boolean), Cond.fieldLink RX1 9 "WaysKept$Net" "begins" "[I", Cond.fieldLink RX1 15 "WaysKept$Net" "ends" "[I", Cond.methodLink RX3 118 yX3_relax]
def wsX4_cut_r3 : List Cond := [Cond.instanceMethod yX3_relax, Cond.selects RX3 yX3_relax yX3_relax, Cond.code yX3_relax cX3_relax 6 (some .boolean), Cond.methodLink RX3 122 yX3_costOf, Cond.instanceMethod yX3_costOf, Cond.selects RX3 yX3_costOf yX3_costOf, Cond.code yX3_costOf cX3_costOf 2 (some .int), Cond.methodLink RX3 125 yX3_lower, Cond.instanceMethod yX3_lower, Cond.selects RX3 yX3_lower yX3_lower, Cond.code yX3_lower cX3_lower 4 (some .boolean), Cond.static yX4_pairOf, Cond.code yX4_pairOf cX4_pairOf 2 (some .int), Cond.methodLink RX4 195 yX2_keep, Cond.instanceMethod yX2_keep, Cond.selects RX2 yX2_keep yX2_keep, Cond.code yX2_keep cX2_keep 3 none, Cond.fieldLink RX2 11 "WaysKept$Past" "fars" "[I", Cond.methodLink RX2 19 yX2_isFull, Cond.methodLink RX2 23 yX2_makeRoom, Cond.instanceMethod yX2_makeRoom, Cond.selects RX2 yX2_makeRoom yX2_makeRoom, Cond.code yX2_makeRoom cX2_makeRoom 1 none, Cond.constant RX2 39 (40100)]
def wsX4_cut_r4 : List Cond := [Cond.methodLink RX2 40 Lib.Math.min.name, Cond.static Lib.Math.min.name, Cond.initialized "java/lang/Math", Cond.code Lib.Math.min.name Lib.Math.min.code 2 (some .int), Cond.methodLink RX2 45 yJ7_copyOf_59c91, Cond.static yJ7_copyOf_59c91, Cond.code yJ7_copyOf_59c91 cJ7_copyOf_59c91 3 (some (.array .int)), Cond.methodLink RJ7 316 ⟨"[I", "clone", "()Ljava/lang/Object;"⟩, Cond.sameMethod "[I" "java/lang/Object" "clone" "()Ljava/lang/Object;", Cond.native ⟨"java/lang/Object", "clone", "()Ljava/lang/Object;"⟩, Cond.instanceMethod ⟨"java/lang/Object", "clone", "()Ljava/lang/Object;"⟩, Cond.selects "[I" ⟨"[I", "clone", "()Ljava/lang/Object;"⟩ ⟨"java/lang/Object", "clone", "()Ljava/lang/Object;"⟩, Cond.classLink RJ7 317 "[I", Cond.arrayClass .int, Cond.methodLink RJ7 304 Lib.Math.min.name, Cond.methodLink RJ7 150 arraycopyName, Cond.methodLink RX2 26 yX3_leastPrice, Cond.instanceMethod yX3_leastPrice, Cond.selects RX3 yX3_leastPrice yX3_leastPrice, Cond.code yX3_leastPrice cX3_leastPrice 3 (some .int), Cond.methodLink RX3 51 yX3_priceIn, Cond.static yX3_priceIn, Cond.code yX3_priceIn cX3_priceIn 1 (some .int), Cond.methodLink RX3 135 yJ9_floorDiv_7cf53]
def wsX4_cut_r5 : List Cond := [Cond.static yJ9_floorDiv_7cf53, Cond.initialized RJ9, Cond.code yJ9_floorDiv_7cf53 cJ9_floorDiv_7cf53 3 (some .int), Cond.methodLink RX4 91 yX1_countThere, Cond.instanceMethod yX1_countThere, Cond.selects RX1 yX1_countThere yX1_countThere, Cond.code yX1_countThere cX1_countThere 3 (some .int), Cond.fieldLink RX1 25 "WaysKept$Net" "there" "[Z"]
def wsX4_cut : List Cond := .code yX4_cut cX4_cut 2 (some .int) :: ((wsX4_cut_r1 ++ (wsX4_cut_r2 ++ (wsX4_cut_r3 ++ (wsX4_cut_r4 ++ wsX4_cut_r5)))) ++ wsX40 ++ wsX10 ++ wsX20 ++ wsX30)
def wsX4_back_r1 : List Cond := [Cond.fieldLink RX4 12 "WaysKept" "net" "LWaysKept$Net;", Cond.fieldLink RX4 28 "WaysKept" "past" "LWaysKept$Past;", Cond.methodLink RX4 73 yX1_hasLine, Cond.instanceMethod yX1_hasLine, Cond.selects RX1 yX1_hasLine yX1_hasLine, Cond.initialized RX1, Cond.code yX1_hasLine cX1_hasLine 2 (some .boolean), Cond.fieldLink RX1 32 "WaysKept$Net" "lines" "I", Cond.methodLink RX4 88 yX4_wouldSinkAt, Cond.instanceMethod yX4_wouldSinkAt, Cond.selects RX4 yX4_wouldSinkAt yX4_wouldSinkAt, Cond.initialized RX4, Cond.code yX4_wouldSinkAt cX4_wouldSinkAt 3 (some .boolean), Cond.fieldLink RX4 21 "WaysKept" "ways" "LWaysKept$Ways;", Cond.methodLink RX4 55 yX3_wouldSink, Cond.instanceMethod yX3_wouldSink, Cond.selects RX3 yX3_wouldSink yX3_wouldSink, Cond.initialized RX3, Cond.code yX3_wouldSink cX3_wouldSink 6 (some .boolean), Cond.methodLink RX3 73 yX3_leastAvoiding, Cond.instanceMethod yX3_leastAvoiding, Cond.selects RX3 yX3_leastAvoiding yX3_leastAvoiding, Cond.code yX3_leastAvoiding cX3_leastAvoiding 5 (some .int), Cond.fieldLink RX3 17 "WaysKept$Ways" "reached" "[I"]
def wsX4_back_r2 : List Cond := [Cond.methodLink RX3 37 yX3_spread, Cond.instanceMethod yX3_spread, Cond.selects RX3 yX3_spread yX3_spread, Cond.code yX3_spread cX3_spread 7 none, Cond.constant RX3 24 (2147483647), Cond.fieldLink RX3 20 "WaysKept$Ways" "net" "LWaysKept$Net;", Cond.methodLink RX3 25 yJ7_fill_53178, Cond.static yJ7_fill_53178, Cond.initialized RJ7, Cond.code yJ7_fill_53178 cJ7_fill_53178 4 none, Cond.methodLink RX3 115 yX1_touches, Cond.instanceMethod yX1_touches, Cond.selects RX1 yX1_touches yX1_touches, Cond.code yX1_touches cX1_touches 3 (some .boolean), Cond.fieldLink RX1 9 "WaysKept$Net" "begins" "[I", Cond.fieldLink RX1 15 "WaysKept$Net" "ends" "[I", Cond.methodLink RX3 118 yX3_relax, Cond.instanceMethod yX3_relax, Cond.selects RX3 yX3_relax yX3_relax, Cond.code yX3_relax cX3_relax 6 (some .boolean), Cond.methodLink RX3 122 yX3_costOf, Cond.instanceMethod yX3_costOf, Cond.selects RX3 yX3_costOf yX3_costOf, Cond.code yX3_costOf cX3_costOf 2 (some .int)]
def wsX4_back_r3 : List Cond := [Cond.methodLink RX3 125 yX3_lower, Cond.instanceMethod yX3_lower, Cond.selects RX3 yX3_lower yX3_lower, Cond.code yX3_lower cX3_lower 4 (some .boolean), Cond.methodLink RX3 51 yX3_priceIn, Cond.static yX3_priceIn, Cond.code yX3_priceIn cX3_priceIn 1 (some .int), Cond.methodLink RX3 135 yJ9_floorDiv_7cf53, Cond.static yJ9_floorDiv_7cf53, Cond.initialized RJ9, Cond.code yJ9_floorDiv_7cf53 cJ9_floorDiv_7cf53 3 (some .int), Cond.methodLink RX3 80 yX3_closesBelow, Cond.static yX3_closesBelow, Cond.code yX3_closesBelow cX3_closesBelow 2 (some .boolean), Cond.methodLink RX4 62 yX2_isFull, Cond.instanceMethod yX2_isFull, Cond.selects RX2 yX2_isFull yX2_isFull, Cond.initialized RX2, Cond.code yX2_isFull cX2_isFull 1 (some .boolean), Cond.fieldLink RX2 15 "WaysKept$Past" "rows" "I", Cond.methodLink RX4 70 yX4_keepAct, Cond.instanceMethod yX4_keepAct, Cond.selects RX4 yX4_keepAct yX4_keepAct, Cond.code yX4_keepAct cX4_keepAct 1 none]
def wsX4_back_r4 : List Cond := [Cond.methodLink RX4 192 yX3_measure, Cond.instanceMethod yX3_measure, Cond.selects RX3 yX3_measure yX3_measure, Cond.code yX3_measure cX3_measure 2 none, Cond.fieldLink RX3 11 "WaysKept$Ways" "costs" "[I", Cond.methodLink RX3 45 arraycopyName, Cond.native arraycopyName, Cond.static arraycopyName, Cond.initialized "java/lang/System", Cond.static yX4_pairOf, Cond.code yX4_pairOf cX4_pairOf 2 (some .int), Cond.methodLink RX4 195 yX2_keep, Cond.instanceMethod yX2_keep, Cond.selects RX2 yX2_keep yX2_keep, Cond.code yX2_keep cX2_keep 3 none, Cond.fieldLink RX2 11 "WaysKept$Past" "fars" "[I", Cond.methodLink RX2 19 yX2_isFull, Cond.methodLink RX2 23 yX2_makeRoom, Cond.instanceMethod yX2_makeRoom, Cond.selects RX2 yX2_makeRoom yX2_makeRoom, Cond.code yX2_makeRoom cX2_makeRoom 1 none, Cond.constant RX2 39 (40100), Cond.methodLink RX2 40 Lib.Math.min.name, Cond.static Lib.Math.min.name]
def wsX4_back_r5 : List Cond := [Cond.initialized "java/lang/Math", Cond.code Lib.Math.min.name Lib.Math.min.code 2 (some .int), Cond.methodLink RX2 45 yJ7_copyOf_59c91, Cond.static yJ7_copyOf_59c91, Cond.code yJ7_copyOf_59c91 cJ7_copyOf_59c91 3 (some (.array .int)), Cond.methodLink RJ7 316 ⟨"[I", "clone", "()Ljava/lang/Object;"⟩, Cond.sameMethod "[I" "java/lang/Object" "clone" "()Ljava/lang/Object;", Cond.native ⟨"java/lang/Object", "clone", "()Ljava/lang/Object;"⟩, Cond.instanceMethod ⟨"java/lang/Object", "clone", "()Ljava/lang/Object;"⟩, Cond.selects "[I" ⟨"[I", "clone", "()Ljava/lang/Object;"⟩ ⟨"java/lang/Object", "clone", "()Ljava/lang/Object;"⟩, Cond.classLink RJ7 317 "[I", Cond.arrayClass .int, Cond.methodLink RJ7 304 Lib.Math.min.name, Cond.methodLink RJ7 150 arraycopyName, Cond.methodLink RX2 26 yX3_leastPrice, Cond.instanceMethod yX3_leastPrice, Cond.selects RX3 yX3_leastPrice yX3_leastPrice, Cond.code yX3_leastPrice cX3_leastPrice 3 (some .int), Cond.methodLink RX4 91 yX1_countThere, Cond.instanceMethod yX1_countThere, Cond.selects RX1 yX1_countThere yX1_countThere, Cond.code yX1_countThere cX1_countThere 3 (some .int), Cond.fieldLink RX1 25 "WaysKept$Net" "there" "[Z"]
def wsX4_back : List Cond := .code yX4_back cX4_back 2 (some .int) :: ((wsX4_back_r1 ++ (wsX4_back_r2 ++ (wsX4_back_r3 ++ (wsX4_back_r4 ++ wsX4_back_r5)))) ++ wsX40 ++ wsX10 ++ wsX30 ++ wsX20)
def wsX4_asNumber : List Cond := .code yX4_asNumber cX4_asNumber 1 (some .int) :: ([])
def wsX4_told_r1 : List Cond := [Cond.fieldLink RX4 12 "WaysKept" "net" "LWaysKept$Net;", Cond.fieldLink RX4 21 "WaysKept" "ways" "LWaysKept$Ways;", Cond.methodLink RX4 73 yX1_hasLine, Cond.instanceMethod yX1_hasLine, Cond.selects RX1 yX1_hasLine yX1_hasLine, Cond.initialized RX1, Cond.code yX1_hasLine cX1_hasLine 2 (some .boolean), Cond.fieldLink RX1 32 "WaysKept$Net" "lines" "I", Cond.methodLink RX4 101 yX4_asNumber, Cond.static yX4_asNumber, Cond.initialized RX4, Cond.code yX4_asNumber cX4_asNumber 1 (some .int), Cond.methodLink RX4 105 yX3_lifted, Cond.instanceMethod yX3_lifted, Cond.selects RX3 yX3_lifted yX3_lifted, Cond.initialized RX3, Cond.code yX3_lifted cX3_lifted 4 (some .int), Cond.fieldLink RX3 20 "WaysKept$Ways" "net" "LWaysKept$Net;", Cond.methodLink RX3 93 Lib.Math.min.name, Cond.static Lib.Math.min.name, Cond.initialized "java/lang/Math", Cond.code Lib.Math.min.name Lib.Math.min.code 2 (some .int), Cond.methodLink RX3 102 yX3_heightOf, Cond.instanceMethod yX3_heightOf]
def wsX4_told_r2 : List Cond := [Cond.selects RX3 yX3_heightOf yX3_heightOf, Cond.code yX3_heightOf cX3_heightOf 4 (some .int), Cond.methodLink RX3 90 yX3_leads, Cond.instanceMethod yX3_leads, Cond.selects RX3 yX3_leads yX3_leads, Cond.code yX3_leads cX3_leads 3 (some .boolean), Cond.fieldLink RX3 11 "WaysKept$Ways" "costs" "[I", Cond.constant RX3 24 (2147483647), Cond.static yX4_pairOf, Cond.code yX4_pairOf cX4_pairOf 2 (some .int), Cond.methodLink RX3 77 yX3_leastPrice, Cond.instanceMethod yX3_leastPrice, Cond.selects RX3 yX3_leastPrice yX3_leastPrice, Cond.code yX3_leastPrice cX3_leastPrice 3 (some .int), Cond.methodLink RX3 51 yX3_priceIn, Cond.static yX3_priceIn, Cond.code yX3_priceIn cX3_priceIn 1 (some .int), Cond.methodLink RX3 135 yJ9_floorDiv_7cf53, Cond.static yJ9_floorDiv_7cf53, Cond.initialized RJ9, Cond.code yJ9_floorDiv_7cf53 cJ9_floorDiv_7cf53 3 (some .int)]
def wsX4_told : List Cond := .code yX4_told cX4_told 3 (some .int) :: ((wsX4_told_r1 ++ wsX4_told_r2) ++ wsX40 ++ wsX10 ++ wsX30)
def wsX4_far_r1 : List Cond := [Cond.fieldLink RX4 12 "WaysKept" "net" "LWaysKept$Net;", Cond.fieldLink RX4 21 "WaysKept" "ways" "LWaysKept$Ways;", Cond.methodLink RX4 47 yX1_hasPosts, Cond.instanceMethod yX1_hasPosts, Cond.selects RX1 yX1_hasPosts yX1_hasPosts, Cond.initialized RX1, Cond.code yX1_hasPosts cX1_hasPosts 3 (some .boolean), Cond.methodLink RX1 35 yX1_hasPost, Cond.instanceMethod yX1_hasPost, Cond.selects RX1 yX1_hasPost yX1_hasPost, Cond.code yX1_hasPost cX1_hasPost 2 (some .boolean), Cond.fieldLink RX1 28 "WaysKept$Net" "posts" "I", Cond.methodLink RX4 109 yX3_leastPrice, Cond.instanceMethod yX3_leastPrice, Cond.selects RX3 yX3_leastPrice yX3_leastPrice, Cond.initialized RX3, Cond.code yX3_leastPrice cX3_leastPrice 3 (some .int), Cond.fieldLink RX3 11 "WaysKept$Ways" "costs" "[I", Cond.static yX4_pairOf, Cond.initialized RX4, Cond.code yX4_pairOf cX4_pairOf 2 (some .int), Cond.methodLink RX3 51 yX3_priceIn, Cond.static yX3_priceIn, Cond.code yX3_priceIn cX3_priceIn 1 (some .int)]
def wsX4_far_r2 : List Cond := [Cond.constant RX3 24 (2147483647), Cond.methodLink RX3 135 yJ9_floorDiv_7cf53, Cond.static yJ9_floorDiv_7cf53, Cond.initialized RJ9, Cond.code yJ9_floorDiv_7cf53 cJ9_floorDiv_7cf53 3 (some .int)]
def wsX4_far : List Cond := .code yX4_far cX4_far 3 (some .int) :: ((wsX4_far_r1 ++ wsX4_far_r2) ++ wsX40 ++ wsX10 ++ wsX30)
def wsX4_steps_r1 : List Cond := [Cond.fieldLink RX4 12 "WaysKept" "net" "LWaysKept$Net;", Cond.fieldLink RX4 21 "WaysKept" "ways" "LWaysKept$Ways;", Cond.methodLink RX4 47 yX1_hasPosts, Cond.instanceMethod yX1_hasPosts, Cond.selects RX1 yX1_hasPosts yX1_hasPosts, Cond.initialized RX1, Cond.code yX1_hasPosts cX1_hasPosts 3 (some .boolean), Cond.methodLink RX1 35 yX1_hasPost, Cond.instanceMethod yX1_hasPost, Cond.selects RX1 yX1_hasPost yX1_hasPost, Cond.code yX1_hasPost cX1_hasPost 2 (some .boolean), Cond.fieldLink RX1 28 "WaysKept$Net" "posts" "I", Cond.methodLink RX4 113 yX3_length, Cond.instanceMethod yX3_length, Cond.selects RX3 yX3_length yX3_length, Cond.initialized RX3, Cond.code yX3_length cX3_length 4 (some .int), Cond.fieldLink RX3 11 "WaysKept$Ways" "costs" "[I", Cond.constant RX3 24 (2147483647), Cond.static yX4_pairOf, Cond.initialized RX4, Cond.code yX4_pairOf cX4_pairOf 2 (some .int), Cond.methodLink RX3 55 yJ9_floorMod_7cf53, Cond.static yJ9_floorMod_7cf53]
def wsX4_steps_r2 : List Cond := [Cond.initialized RJ9, Cond.code yJ9_floorMod_7cf53 cJ9_floorMod_7cf53 3 (some .int)]
def wsX4_steps : List Cond := .code yX4_steps cX4_steps 3 (some .int) :: ((wsX4_steps_r1 ++ wsX4_steps_r2) ++ wsX40 ++ wsX10 ++ wsX30)
def wsX4_way_r1 : List Cond := [Cond.fieldLink RX4 12 "WaysKept" "net" "LWaysKept$Net;", Cond.fieldLink RX4 21 "WaysKept" "ways" "LWaysKept$Ways;", Cond.methodLink RX4 47 yX1_hasPosts, Cond.instanceMethod yX1_hasPosts, Cond.selects RX1 yX1_hasPosts yX1_hasPosts, Cond.initialized RX1, Cond.code yX1_hasPosts cX1_hasPosts 3 (some .boolean), Cond.methodLink RX1 35 yX1_hasPost, Cond.instanceMethod yX1_hasPost, Cond.selects RX1 yX1_hasPost yX1_hasPost, Cond.code yX1_hasPost cX1_hasPost 2 (some .boolean), Cond.fieldLink RX1 28 "WaysKept$Net" "posts" "I", Cond.methodLink RX4 116 yX3_lineAt, Cond.instanceMethod yX3_lineAt, Cond.selects RX3 yX3_lineAt yX3_lineAt, Cond.initialized RX3, Cond.code yX3_lineAt cX3_lineAt 6 (some .int), Cond.fieldLink RX3 20 "WaysKept$Ways" "net" "LWaysKept$Net;", Cond.methodLink RX3 60 yX3_length, Cond.instanceMethod yX3_length, Cond.selects RX3 yX3_length yX3_length, Cond.code yX3_length cX3_length 4 (some .int), Cond.fieldLink RX3 11 "WaysKept$Ways" "costs" "[I", Cond.constant RX3 24 (2147483647)]
def wsX4_way_r2 : List Cond := [Cond.static yX4_pairOf, Cond.initialized RX4, Cond.code yX4_pairOf cX4_pairOf 2 (some .int), Cond.methodLink RX3 55 yJ9_floorMod_7cf53, Cond.static yJ9_floorMod_7cf53, Cond.initialized RJ9, Cond.code yJ9_floorMod_7cf53 cJ9_floorMod_7cf53 3 (some .int), Cond.methodLink RX3 63 yX3_lineToward, Cond.instanceMethod yX3_lineToward, Cond.selects RX3 yX3_lineToward yX3_lineToward, Cond.code yX3_lineToward cX3_lineToward 6 (some .int), Cond.methodLink RX3 128 yX1_hasPost, Cond.methodLink RX3 90 yX3_leads, Cond.instanceMethod yX3_leads, Cond.selects RX3 yX3_leads yX3_leads, Cond.code yX3_leads cX3_leads 3 (some .boolean), Cond.methodLink RX3 66 yX1_target, Cond.instanceMethod yX1_target, Cond.selects RX1 yX1_target yX1_target, Cond.code yX1_target cX1_target 3 (some .int), Cond.fieldLink RX1 25 "WaysKept$Net" "there" "[Z", Cond.fieldLink RX1 9 "WaysKept$Net" "begins" "[I", Cond.fieldLink RX1 15 "WaysKept$Net" "ends" "[I", Cond.fieldLink RX1 21 "WaysKept$Net" "bothWays" "[Z"]
def wsX4_way_r3 : List Cond := [Cond.methodLink RX1 39 yX1_hasLine, Cond.instanceMethod yX1_hasLine, Cond.selects RX1 yX1_hasLine yX1_hasLine, Cond.code yX1_hasLine cX1_hasLine 2 (some .boolean), Cond.fieldLink RX1 32 "WaysKept$Net" "lines" "I", Cond.methodLink RX3 122 yX3_costOf, Cond.instanceMethod yX3_costOf, Cond.selects RX3 yX3_costOf yX3_costOf, Cond.code yX3_costOf cX3_costOf 2 (some .int)]
def wsX4_way : List Cond := .code yX4_way cX4_way 4 (some .int) :: ((wsX4_way_r1 ++ (wsX4_way_r2 ++ wsX4_way_r3)) ++ wsX40 ++ wsX10 ++ wsX30)
def wsX4_without_r1 : List Cond := [Cond.fieldLink RX4 12 "WaysKept" "net" "LWaysKept$Net;", Cond.fieldLink RX4 21 "WaysKept" "ways" "LWaysKept$Ways;", Cond.methodLink RX4 47 yX1_hasPosts, Cond.instanceMethod yX1_hasPosts, Cond.selects RX1 yX1_hasPosts yX1_hasPosts, Cond.initialized RX1, Cond.code yX1_hasPosts cX1_hasPosts 3 (some .boolean), Cond.methodLink RX1 35 yX1_hasPost, Cond.instanceMethod yX1_hasPost, Cond.selects RX1 yX1_hasPost yX1_hasPost, Cond.code yX1_hasPost cX1_hasPost 2 (some .boolean), Cond.fieldLink RX1 28 "WaysKept$Net" "posts" "I", Cond.methodLink RX4 73 yX1_hasLine, Cond.instanceMethod yX1_hasLine, Cond.selects RX1 yX1_hasLine yX1_hasLine, Cond.code yX1_hasLine cX1_hasLine 2 (some .boolean), Cond.fieldLink RX1 32 "WaysKept$Net" "lines" "I", Cond.methodLink RX4 120 yX3_leastAvoiding, Cond.instanceMethod yX3_leastAvoiding, Cond.selects RX3 yX3_leastAvoiding yX3_leastAvoiding, Cond.initialized RX3, Cond.code yX3_leastAvoiding cX3_leastAvoiding 5 (some .int), Cond.fieldLink RX3 17 "WaysKept$Ways" "reached" "[I", Cond.methodLink RX3 37 yX3_spread]
def wsX4_without_r2 : List Cond := [Cond.instanceMethod yX3_spread, Cond.selects RX3 yX3_spread yX3_spread, Cond.code yX3_spread cX3_spread 7 none, Cond.constant RX3 24 (2147483647), Cond.fieldLink RX3 20 "WaysKept$Ways" "net" "LWaysKept$Net;", Cond.methodLink RX3 25 yJ7_fill_53178, Cond.static yJ7_fill_53178, Cond.initialized RJ7, Cond.code yJ7_fill_53178 cJ7_fill_53178 4 none, Cond.methodLink RX3 115 yX1_touches, Cond.instanceMethod yX1_touches, Cond.selects RX1 yX1_touches yX1_touches, Cond.code yX1_touches cX1_touches 3 (some .boolean), Cond.fieldLink RX1 9 "WaysKept$Net" "begins" "[I", Cond.fieldLink RX1 15 "WaysKept$Net" "ends" "[I", Cond.methodLink RX3 118 yX3_relax, Cond.instanceMethod yX3_relax, Cond.selects RX3 yX3_relax yX3_relax, Cond.code yX3_relax cX3_relax 6 (some .boolean), Cond.methodLink RX3 122 yX3_costOf, Cond.instanceMethod yX3_costOf, Cond.selects RX3 yX3_costOf yX3_costOf, Cond.code yX3_costOf cX3_costOf 2 (some .int), Cond.methodLink RX3 125 yX3_lower]
def wsX4_without_r3 : List Cond := [Cond.instanceMethod yX3_lower, Cond.selects RX3 yX3_lower yX3_lower, Cond.code yX3_lower cX3_lower 4 (some .boolean), Cond.methodLink RX3 51 yX3_priceIn, Cond.static yX3_priceIn, Cond.code yX3_priceIn cX3_priceIn 1 (some .int), Cond.methodLink RX3 135 yJ9_floorDiv_7cf53, Cond.static yJ9_floorDiv_7cf53, Cond.initialized RJ9, Cond.code yJ9_floorDiv_7cf53 cJ9_floorDiv_7cf53 3 (some .int)]
def wsX4_without : List Cond := .code yX4_without cX4_without 4 (some .int) :: ((wsX4_without_r1 ++ (wsX4_without_r2 ++ wsX4_without_r3)) ++ wsX40 ++ wsX10 ++ wsX30)
def wsX4_vital_r1 : List Cond := [Cond.fieldLink RX4 12 "WaysKept" "net" "LWaysKept$Net;", Cond.fieldLink RX4 21 "WaysKept" "ways" "LWaysKept$Ways;", Cond.methodLink RX4 47 yX1_hasPosts, Cond.instanceMethod yX1_hasPosts, Cond.selects RX1 yX1_hasPosts yX1_hasPosts, Cond.initialized RX1, Cond.code yX1_hasPosts cX1_hasPosts 3 (some .boolean), Cond.methodLink RX1 35 yX1_hasPost, Cond.instanceMethod yX1_hasPost, Cond.selects RX1 yX1_hasPost yX1_hasPost, Cond.code yX1_hasPost cX1_hasPost 2 (some .boolean), Cond.fieldLink RX1 28 "WaysKept$Net" "posts" "I", Cond.methodLink RX4 124 yX3_isVital, Cond.instanceMethod yX3_isVital, Cond.selects RX3 yX3_isVital yX3_isVital, Cond.initialized RX3, Cond.code yX3_isVital cX3_isVital 4 (some .boolean), Cond.methodLink RX3 69 yX3_isOnWay, Cond.instanceMethod yX3_isOnWay, Cond.selects RX3 yX3_isOnWay yX3_isOnWay, Cond.code yX3_isOnWay cX3_isOnWay 5 (some .boolean), Cond.methodLink RX3 60 yX3_length, Cond.instanceMethod yX3_length, Cond.selects RX3 yX3_length yX3_length]
def wsX4_vital_r2 : List Cond := [Cond.code yX3_length cX3_length 4 (some .int), Cond.fieldLink RX3 11 "WaysKept$Ways" "costs" "[I", Cond.constant RX3 24 (2147483647), Cond.static yX4_pairOf, Cond.initialized RX4, Cond.code yX4_pairOf cX4_pairOf 2 (some .int), Cond.methodLink RX3 55 yJ9_floorMod_7cf53, Cond.static yJ9_floorMod_7cf53, Cond.initialized RJ9, Cond.code yJ9_floorMod_7cf53 cJ9_floorMod_7cf53 3 (some .int), Cond.methodLink RX3 131 yX3_lineAt, Cond.instanceMethod yX3_lineAt, Cond.selects RX3 yX3_lineAt yX3_lineAt, Cond.code yX3_lineAt cX3_lineAt 6 (some .int), Cond.fieldLink RX3 20 "WaysKept$Ways" "net" "LWaysKept$Net;", Cond.methodLink RX3 63 yX3_lineToward, Cond.instanceMethod yX3_lineToward, Cond.selects RX3 yX3_lineToward yX3_lineToward, Cond.code yX3_lineToward cX3_lineToward 6 (some .int), Cond.methodLink RX3 128 yX1_hasPost, Cond.methodLink RX3 90 yX3_leads, Cond.instanceMethod yX3_leads, Cond.selects RX3 yX3_leads yX3_leads, Cond.code yX3_leads cX3_leads 3 (some .boolean)]
def wsX4_vital_r3 : List Cond := [Cond.methodLink RX3 66 yX1_target, Cond.instanceMethod yX1_target, Cond.selects RX1 yX1_target yX1_target, Cond.code yX1_target cX1_target 3 (some .int), Cond.fieldLink RX1 25 "WaysKept$Net" "there" "[Z", Cond.fieldLink RX1 9 "WaysKept$Net" "begins" "[I", Cond.fieldLink RX1 15 "WaysKept$Net" "ends" "[I", Cond.fieldLink RX1 21 "WaysKept$Net" "bothWays" "[Z", Cond.methodLink RX1 39 yX1_hasLine, Cond.instanceMethod yX1_hasLine, Cond.selects RX1 yX1_hasLine yX1_hasLine, Cond.code yX1_hasLine cX1_hasLine 2 (some .boolean), Cond.fieldLink RX1 32 "WaysKept$Net" "lines" "I", Cond.methodLink RX3 122 yX3_costOf, Cond.instanceMethod yX3_costOf, Cond.selects RX3 yX3_costOf yX3_costOf, Cond.code yX3_costOf cX3_costOf 2 (some .int), Cond.methodLink RX3 73 yX3_leastAvoiding, Cond.instanceMethod yX3_leastAvoiding, Cond.selects RX3 yX3_leastAvoiding yX3_leastAvoiding, Cond.code yX3_leastAvoiding cX3_leastAvoiding 5 (some .int), Cond.fieldLink RX3 17 "WaysKept$Ways" "reached" "[I", Cond.methodLink RX3 37 yX3_spread, Cond.instanceMethod yX3_spread]
def wsX4_vital_r4 : List Cond := [Cond.selects RX3 yX3_spread yX3_spread, Cond.code yX3_spread cX3_spread 7 none, Cond.methodLink RX3 25 yJ7_fill_53178, Cond.static yJ7_fill_53178, Cond.initialized RJ7, Cond.code yJ7_fill_53178 cJ7_fill_53178 4 none, Cond.methodLink RX3 115 yX1_touches, Cond.instanceMethod yX1_touches, Cond.selects RX1 yX1_touches yX1_touches, Cond.code yX1_touches cX1_touches 3 (some .boolean), Cond.methodLink RX3 118 yX3_relax, Cond.instanceMethod yX3_relax, Cond.selects RX3 yX3_relax yX3_relax, Cond.code yX3_relax cX3_relax 6 (some .boolean), Cond.methodLink RX3 125 yX3_lower, Cond.instanceMethod yX3_lower, Cond.selects RX3 yX3_lower yX3_lower, Cond.code yX3_lower cX3_lower 4 (some .boolean), Cond.methodLink RX3 51 yX3_priceIn, Cond.static yX3_priceIn, Cond.code yX3_priceIn cX3_priceIn 1 (some .int), Cond.methodLink RX3 135 yJ9_floorDiv_7cf53, Cond.static yJ9_floorDiv_7cf53, Cond.code yJ9_floorDiv_7cf53 cJ9_floorDiv_7cf53 3 (some .int)]
def wsX4_vital_r5 : List Cond := [Cond.methodLink RX3 77 yX3_leastPrice, Cond.instanceMethod yX3_leastPrice, Cond.selects RX3 yX3_leastPrice yX3_leastPrice, Cond.code yX3_leastPrice cX3_leastPrice 3 (some .int)]
def wsX4_vital : List Cond := .code yX4_vital cX4_vital 6 (some .int) :: ((wsX4_vital_r1 ++ (wsX4_vital_r2 ++ (wsX4_vital_r3 ++ (wsX4_vital_r4 ++ wsX4_vital_r5)))) ++ wsX40 ++ wsX10 ++ wsX30)
def wsX4_about_r1 : List Cond := [Cond.fieldLink RX4 12 "WaysKept" "net" "LWaysKept$Net;", Cond.fieldLink RX4 21 "WaysKept" "ways" "LWaysKept$Ways;", Cond.methodLink RX4 47 yX1_hasPosts, Cond.instanceMethod yX1_hasPosts, Cond.selects RX1 yX1_hasPosts yX1_hasPosts, Cond.initialized RX1, Cond.code yX1_hasPosts cX1_hasPosts 3 (some .boolean), Cond.methodLink RX1 35 yX1_hasPost, Cond.instanceMethod yX1_hasPost, Cond.selects RX1 yX1_hasPost yX1_hasPost, Cond.code yX1_hasPost cX1_hasPost 2 (some .boolean), Cond.fieldLink RX1 28 "WaysKept$Net" "posts" "I", Cond.methodLink RX4 128 yX1_hasPost, Cond.methodLink RX4 120 yX3_leastAvoiding, Cond.instanceMethod yX3_leastAvoiding, Cond.selects RX3 yX3_leastAvoiding yX3_leastAvoiding, Cond.initialized RX3, Cond.code yX3_leastAvoiding cX3_leastAvoiding 5 (some .int), Cond.fieldLink RX3 17 "WaysKept$Ways" "reached" "[I", Cond.methodLink RX3 37 yX3_spread, Cond.instanceMethod yX3_spread, Cond.selects RX3 yX3_spread yX3_spread, Cond.code yX3_spread cX3_spread 7 none, Cond.constant RX3 24 (2147483647)]
def wsX4_about_r2 : List Cond := [Cond.fieldLink RX3 20 "WaysKept$Ways" "net" "LWaysKept$Net;", Cond.methodLink RX3 25 yJ7_fill_53178, Cond.static yJ7_fill_53178, Cond.initialized RJ7, Cond.code yJ7_fill_53178 cJ7_fill_53178 4 none, Cond.methodLink RX3 115 yX1_touches, Cond.instanceMethod yX1_touches, Cond.selects RX1 yX1_touches yX1_touches, Cond.code yX1_touches cX1_touches 3 (some .boolean), Cond.fieldLink RX1 9 "WaysKept$Net" "begins" "[I", Cond.fieldLink RX1 15 "WaysKept$Net" "ends" "[I", Cond.methodLink RX3 118 yX3_relax, Cond.instanceMethod yX3_relax, Cond.selects RX3 yX3_relax yX3_relax, Cond.code yX3_relax cX3_relax 6 (some .boolean), Cond.methodLink RX3 122 yX3_costOf, Cond.instanceMethod yX3_costOf, Cond.selects RX3 yX3_costOf yX3_costOf, Cond.code yX3_costOf cX3_costOf 2 (some .int), Cond.methodLink RX3 125 yX3_lower, Cond.instanceMethod yX3_lower, Cond.selects RX3 yX3_lower yX3_lower, Cond.code yX3_lower cX3_lower 4 (some .boolean), Cond.methodLink RX3 51 yX3_priceIn]
def wsX4_about_r3 : List Cond := [Cond.static yX3_priceIn, Cond.code yX3_priceIn cX3_priceIn 1 (some .int), Cond.methodLink RX3 135 yJ9_floorDiv_7cf53, Cond.static yJ9_floorDiv_7cf53, Cond.initialized RJ9, Cond.code yJ9_floorDiv_7cf53 cJ9_floorDiv_7cf53 3 (some .int)]
def wsX4_about : List Cond := .code yX4_about cX4_about 4 (some .int) :: ((wsX4_about_r1 ++ (wsX4_about_r2 ++ wsX4_about_r3)) ++ wsX40 ++ wsX10 ++ wsX30)
def wsX4_ring_r1 : List Cond := [Cond.fieldLink RX4 21 "WaysKept" "ways" "LWaysKept$Ways;", Cond.methodLink RX4 131 yX3_leastRing, Cond.instanceMethod yX3_leastRing, Cond.selects RX3 yX3_leastRing yX3_leastRing, Cond.initialized RX3, Cond.code yX3_leastRing cX3_leastRing 4 (some .int), Cond.fieldLink RX3 20 "WaysKept$Ways" "net" "LWaysKept$Net;", Cond.methodLink RX3 87 yX3_ringOver, Cond.instanceMethod yX3_ringOver, Cond.selects RX3 yX3_ringOver yX3_ringOver, Cond.code yX3_ringOver cX3_ringOver 4 (some .int), Cond.methodLink RX3 93 Lib.Math.min.name, Cond.static Lib.Math.min.name, Cond.initialized "java/lang/Math", Cond.code Lib.Math.min.name Lib.Math.min.code 2 (some .int), Cond.methodLink RX3 77 yX3_leastPrice, Cond.instanceMethod yX3_leastPrice, Cond.selects RX3 yX3_leastPrice yX3_leastPrice, Cond.code yX3_leastPrice cX3_leastPrice 3 (some .int), Cond.fieldLink RX3 11 "WaysKept$Ways" "costs" "[I", Cond.static yX4_pairOf, Cond.initialized RX4, Cond.code yX4_pairOf cX4_pairOf 2 (some .int), Cond.methodLink RX3 51 yX3_priceIn]
def wsX4_ring_r2 : List Cond := [Cond.static yX3_priceIn, Cond.code yX3_priceIn cX3_priceIn 1 (some .int), Cond.constant RX3 24 (2147483647), Cond.methodLink RX3 135 yJ9_floorDiv_7cf53, Cond.static yJ9_floorDiv_7cf53, Cond.initialized RJ9, Cond.code yJ9_floorDiv_7cf53 cJ9_floorDiv_7cf53 3 (some .int)]
def wsX4_ring : List Cond := .code yX4_ring cX4_ring 1 (some .int) :: ((wsX4_ring_r1 ++ wsX4_ring_r2) ++ wsX40 ++ wsX30 ++ wsX10)
def wsX4_height_r1 : List Cond := [Cond.fieldLink RX4 12 "WaysKept" "net" "LWaysKept$Net;", Cond.fieldLink RX4 21 "WaysKept" "ways" "LWaysKept$Ways;", Cond.methodLink RX4 128 yX1_hasPost, Cond.instanceMethod yX1_hasPost, Cond.selects RX1 yX1_hasPost yX1_hasPost, Cond.initialized RX1, Cond.code yX1_hasPost cX1_hasPost 2 (some .boolean), Cond.fieldLink RX1 28 "WaysKept$Net" "posts" "I", Cond.methodLink RX4 134 yX3_heightOf, Cond.instanceMethod yX3_heightOf, Cond.selects RX3 yX3_heightOf yX3_heightOf, Cond.initialized RX3, Cond.code yX3_heightOf cX3_heightOf 4 (some .int), Cond.fieldLink RX3 20 "WaysKept$Ways" "net" "LWaysKept$Net;", Cond.methodLink RX3 93 Lib.Math.min.name, Cond.static Lib.Math.min.name, Cond.initialized "java/lang/Math", Cond.code Lib.Math.min.name Lib.Math.min.code 2 (some .int), Cond.methodLink RX3 90 yX3_leads, Cond.instanceMethod yX3_leads, Cond.selects RX3 yX3_leads yX3_leads, Cond.code yX3_leads cX3_leads 3 (some .boolean), Cond.fieldLink RX3 11 "WaysKept$Ways" "costs" "[I", Cond.constant RX3 24 (2147483647)]
def wsX4_height_r2 : List Cond := [Cond.static yX4_pairOf, Cond.initialized RX4, Cond.code yX4_pairOf cX4_pairOf 2 (some .int), Cond.methodLink RX3 77 yX3_leastPrice, Cond.instanceMethod yX3_leastPrice, Cond.selects RX3 yX3_leastPrice yX3_leastPrice, Cond.code yX3_leastPrice cX3_leastPrice 3 (some .int), Cond.methodLink RX3 51 yX3_priceIn, Cond.static yX3_priceIn, Cond.code yX3_priceIn cX3_priceIn 1 (some .int), Cond.methodLink RX3 135 yJ9_floorDiv_7cf53, Cond.static yJ9_floorDiv_7cf53, Cond.initialized RJ9, Cond.code yJ9_floorDiv_7cf53 cJ9_floorDiv_7cf53 3 (some .int)]
def wsX4_height : List Cond := .code yX4_height cX4_height 2 (some .int) :: ((wsX4_height_r1 ++ wsX4_height_r2) ++ wsX40 ++ wsX10 ++ wsX30)
def wsX4_acts : List Cond := .code yX4_acts cX4_acts 1 (some .int) :: ([.fieldLink RX4 28 "WaysKept" "past" "LWaysKept$Past;", .methodLink RX4 137 yX2_countActs, .instanceMethod yX2_countActs, .selects RX2 yX2_countActs yX2_countActs, .initialized RX2, .code yX2_countActs cX2_countActs 1 (some .int), .fieldLink RX2 15 "WaysKept$Past" "rows" "I"] ++ wsX40 ++ wsX20)
def wsX4_moved : List Cond := .code yX4_moved cX4_moved 2 (some .int) :: ([.fieldLink RX4 28 "WaysKept" "past" "LWaysKept$Past;", .methodLink RX4 140 yX2_hasAct, .instanceMethod yX2_hasAct, .selects RX2 yX2_hasAct yX2_hasAct, .initialized RX2, .code yX2_hasAct cX2_hasAct 2 (some .boolean), .fieldLink RX2 15 "WaysKept$Past" "rows" "I", .methodLink RX4 143 yX2_countMoved, .instanceMethod yX2_countMoved, .selects RX2 yX2_countMoved yX2_countMoved, .code yX2_countMoved cX2_countMoved 4 (some .int), .methodLink RX2 32 yX2_isMoved, .instanceMethod yX2_isMoved, .selects RX2 yX2_isMoved yX2_isMoved, .code yX2_isMoved cX2_isMoved 3 (some .boolean), .methodLink RX2 36 yX2_leastAsOf, .instanceMethod yX2_leastAsOf, .selects RX2 yX2_leastAsOf yX2_leastAsOf, .code yX2_leastAsOf cX2_leastAsOf 3 (some .int), .fieldLink RX2 11 "WaysKept$Past" "fars" "[I"] ++ wsX40 ++ wsX20)
def wsX4_pair : List Cond := .code yX4_pair cX4_pair 3 (some .int) :: ([.fieldLink RX4 28 "WaysKept" "past" "LWaysKept$Past;", .methodLink RX4 140 yX2_hasAct, .instanceMethod yX2_hasAct, .selects RX2 yX2_hasAct yX2_hasAct, .initialized RX2, .code yX2_hasAct cX2_hasAct 2 (some .boolean), .fieldLink RX2 15 "WaysKept$Past" "rows" "I", .methodLink RX4 146 yX2_movedPair, .instanceMethod yX2_movedPair, .selects RX2 yX2_movedPair yX2_movedPair, .code yX2_movedPair cX2_movedPair 5 (some .int), .methodLink RX2 32 yX2_isMoved, .instanceMethod yX2_isMoved, .selects RX2 yX2_isMoved yX2_isMoved, .code yX2_isMoved cX2_isMoved 3 (some .boolean), .methodLink RX2 36 yX2_leastAsOf, .instanceMethod yX2_leastAsOf, .selects RX2 yX2_leastAsOf yX2_leastAsOf, .code yX2_leastAsOf cX2_leastAsOf 3 (some .int), .fieldLink RX2 11 "WaysKept$Past" "fars" "[I"] ++ wsX40 ++ wsX20)
def wsX4_then_r1 : List Cond := [Cond.fieldLink RX4 12 "WaysKept" "net" "LWaysKept$Net;", Cond.fieldLink RX4 28 "WaysKept" "past" "LWaysKept$Past;", Cond.methodLink RX4 47 yX1_hasPosts, Cond.instanceMethod yX1_hasPosts, Cond.selects RX1 yX1_hasPosts yX1_hasPosts, Cond.initialized RX1, Cond.code yX1_hasPosts cX1_hasPosts 3 (some .boolean), Cond.methodLink RX1 35 yX1_hasPost, Cond.instanceMethod yX1_hasPost, Cond.selects RX1 yX1_hasPost yX1_hasPost, Cond.code yX1_hasPost cX1_hasPost 2 (some .boolean), Cond.fieldLink RX1 28 "WaysKept$Net" "posts" "I", Cond.methodLink RX4 140 yX2_hasAct, Cond.instanceMethod yX2_hasAct, Cond.selects RX2 yX2_hasAct yX2_hasAct, Cond.initialized RX2, Cond.code yX2_hasAct cX2_hasAct 2 (some .boolean), Cond.fieldLink RX2 15 "WaysKept$Past" "rows" "I", Cond.methodLink RX4 149 yX4_pairOf, Cond.static yX4_pairOf, Cond.initialized RX4, Cond.code yX4_pairOf cX4_pairOf 2 (some .int), Cond.methodLink RX4 152 yX2_leastAsOf, Cond.instanceMethod yX2_leastAsOf]
def wsX4_then_r2 : List Cond := [Cond.selects RX2 yX2_leastAsOf yX2_leastAsOf, Cond.code yX2_leastAsOf cX2_leastAsOf 3 (some .int), Cond.fieldLink RX2 11 "WaysKept$Past" "fars" "[I"]
def wsX4_then : List Cond := .code yX4_then cX4_then 4 (some .int) :: ((wsX4_then_r1 ++ wsX4_then_r2) ++ wsX40 ++ wsX10 ++ wsX20)
def wsX4_since_r1 : List Cond := [Cond.fieldLink RX4 12 "WaysKept" "net" "LWaysKept$Net;", Cond.fieldLink RX4 28 "WaysKept" "past" "LWaysKept$Past;", Cond.methodLink RX4 47 yX1_hasPosts, Cond.instanceMethod yX1_hasPosts, Cond.selects RX1 yX1_hasPosts yX1_hasPosts, Cond.initialized RX1, Cond.code yX1_hasPosts cX1_hasPosts 3 (some .boolean), Cond.methodLink RX1 35 yX1_hasPost, Cond.instanceMethod yX1_hasPost, Cond.selects RX1 yX1_hasPost yX1_hasPost, Cond.code yX1_hasPost cX1_hasPost 2 (some .boolean), Cond.fieldLink RX1 28 "WaysKept$Net" "posts" "I", Cond.methodLink RX4 140 yX2_hasAct, Cond.instanceMethod yX2_hasAct, Cond.selects RX2 yX2_hasAct yX2_hasAct, Cond.initialized RX2, Cond.code yX2_hasAct cX2_hasAct 2 (some .boolean), Cond.fieldLink RX2 15 "WaysKept$Past" "rows" "I", Cond.methodLink RX4 149 yX4_pairOf, Cond.static yX4_pairOf, Cond.initialized RX4, Cond.code yX4_pairOf cX4_pairOf 2 (some .int), Cond.methodLink RX4 155 yX2_firstWithin, Cond.instanceMethod yX2_firstWithin]
def wsX4_since_r2 : List Cond := [Cond.selects RX2 yX2_firstWithin yX2_firstWithin, Cond.code yX2_firstWithin cX2_firstWithin 6 (some .int), Cond.methodLink RX2 36 yX2_leastAsOf, Cond.instanceMethod yX2_leastAsOf, Cond.selects RX2 yX2_leastAsOf yX2_leastAsOf, Cond.code yX2_leastAsOf cX2_leastAsOf 3 (some .int), Cond.fieldLink RX2 11 "WaysKept$Past" "fars" "[I"]
def wsX4_since : List Cond := .code yX4_since cX4_since 5 (some .int) :: ((wsX4_since_r1 ++ wsX4_since_r2) ++ wsX40 ++ wsX10 ++ wsX20)
def wsX4_marks : List Cond := .code yX4_marks cX4_marks 3 (some .int) :: ([.fieldLink RX4 12 "WaysKept" "net" "LWaysKept$Net;", .fieldLink RX4 158 "WaysKept" "marked" "I"] ++ wsX40 ++ wsX10)
def wsX4_near_r1 : List Cond := [Cond.fieldLink RX4 12 "WaysKept" "net" "LWaysKept$Net;", Cond.fieldLink RX4 21 "WaysKept" "ways" "LWaysKept$Ways;", Cond.fieldLink RX4 158 "WaysKept" "marked" "I", Cond.methodLink RX4 47 yX1_hasPosts, Cond.instanceMethod yX1_hasPosts, Cond.selects RX1 yX1_hasPosts yX1_hasPosts, Cond.initialized RX1, Cond.code yX1_hasPosts cX1_hasPosts 3 (some .boolean), Cond.methodLink RX1 35 yX1_hasPost, Cond.instanceMethod yX1_hasPost, Cond.selects RX1 yX1_hasPost yX1_hasPost, Cond.code yX1_hasPost cX1_hasPost 2 (some .boolean), Cond.fieldLink RX1 28 "WaysKept$Net" "posts" "I", Cond.methodLink RX4 161 yX3_leastThrough, Cond.instanceMethod yX3_leastThrough, Cond.selects RX3 yX3_leastThrough yX3_leastThrough, Cond.initialized RX3, Cond.code yX3_leastThrough cX3_leastThrough 7 (some .int), Cond.fieldLink RX3 20 "WaysKept$Ways" "net" "LWaysKept$Net;", Cond.methodLink RX3 93 Lib.Math.min.name, Cond.static Lib.Math.min.name, Cond.initialized "java/lang/Math", Cond.code Lib.Math.min.name Lib.Math.min.code 2 (some .int), Cond.methodLink RX3 90 yX3_leads]
def wsX4_near_r2 : List Cond := [Cond.instanceMethod yX3_leads, Cond.selects RX3 yX3_leads yX3_leads, Cond.code yX3_leads cX3_leads 3 (some .boolean), Cond.fieldLink RX3 11 "WaysKept$Ways" "costs" "[I", Cond.constant RX3 24 (2147483647), Cond.static yX4_pairOf, Cond.initialized RX4, Cond.code yX4_pairOf cX4_pairOf 2 (some .int), Cond.methodLink RX3 77 yX3_leastPrice, Cond.instanceMethod yX3_leastPrice, Cond.selects RX3 yX3_leastPrice yX3_leastPrice, Cond.code yX3_leastPrice cX3_leastPrice 3 (some .int), Cond.methodLink RX3 51 yX3_priceIn, Cond.static yX3_priceIn, Cond.code yX3_priceIn cX3_priceIn 1 (some .int), Cond.methodLink RX3 135 yJ9_floorDiv_7cf53, Cond.static yJ9_floorDiv_7cf53, Cond.initialized RJ9, Cond.code yJ9_floorDiv_7cf53 cJ9_floorDiv_7cf53 3 (some .int)]
def wsX4_near : List Cond := .code yX4_near cX4_near 3 (some .int) :: ((wsX4_near_r1 ++ wsX4_near_r2) ++ wsX40 ++ wsX10 ++ wsX30)
def wsX4_worst_r1 : List Cond := [Cond.fieldLink RX4 12 "WaysKept" "net" "LWaysKept$Net;", Cond.fieldLink RX4 21 "WaysKept" "ways" "LWaysKept$Ways;", Cond.fieldLink RX4 158 "WaysKept" "marked" "I", Cond.methodLink RX4 167 Lib.Math.max.name, Cond.static Lib.Math.max.name, Cond.initialized "java/lang/Math", Cond.code Lib.Math.max.name Lib.Math.max.code 2 (some .int), Cond.methodLink RX4 164 yX3_leads, Cond.instanceMethod yX3_leads, Cond.selects RX3 yX3_leads yX3_leads, Cond.initialized RX3, Cond.code yX3_leads cX3_leads 3 (some .boolean), Cond.fieldLink RX3 11 "WaysKept$Ways" "costs" "[I", Cond.constant RX3 24 (2147483647), Cond.static yX4_pairOf, Cond.initialized RX4, Cond.code yX4_pairOf cX4_pairOf 2 (some .int), Cond.methodLink RX4 161 yX3_leastThrough, Cond.instanceMethod yX3_leastThrough, Cond.selects RX3 yX3_leastThrough yX3_leastThrough, Cond.code yX3_leastThrough cX3_leastThrough 7 (some .int), Cond.fieldLink RX3 20 "WaysKept$Ways" "net" "LWaysKept$Net;", Cond.methodLink RX3 93 Lib.Math.min.name, Cond.static Lib.Math.min.name]
def wsX4_worst_r2 : List Cond := [Cond.code Lib.Math.min.name Lib.Math.min.code 2 (some .int), Cond.methodLink RX3 90 yX3_leads, Cond.methodLink RX3 77 yX3_leastPrice, Cond.instanceMethod yX3_leastPrice, Cond.selects RX3 yX3_leastPrice yX3_leastPrice, Cond.code yX3_leastPrice cX3_leastPrice 3 (some .int), Cond.methodLink RX3 51 yX3_priceIn, Cond.static yX3_priceIn, Cond.code yX3_priceIn cX3_priceIn 1 (some .int), Cond.methodLink RX3 135 yJ9_floorDiv_7cf53, Cond.static yJ9_floorDiv_7cf53, Cond.initialized RJ9, Cond.code yJ9_floorDiv_7cf53 cJ9_floorDiv_7cf53 3 (some .int), Cond.methodLink RX4 109 yX3_leastPrice]
def wsX4_worst : List Cond := .code yX4_worst cX4_worst 5 (some .int) :: ((wsX4_worst_r1 ++ wsX4_worst_r2) ++ wsX40 ++ wsX10 ++ wsX30)
def wsX4_hits_r1 : List Cond := [Cond.fieldLink RX4 35 "WaysKept" "hitting" "LWaysKept$Hitting;", Cond.fieldLink RX4 21 "WaysKept" "ways" "LWaysKept$Ways;", Cond.fieldLink RX4 12 "WaysKept" "net" "LWaysKept$Net;", Cond.methodLink RX4 172 yX0_askFor, Cond.instanceMethod yX0_askFor, Cond.selects RX0 yX0_askFor yX0_askFor, Cond.initialized RX0, Cond.code yX0_askFor cX0_askFor 6 none, Cond.fieldLink RX0 15 "WaysKept$Hitting" "size" "I", Cond.fieldLink RX0 9 "WaysKept$Hitting" "asked" "[I", Cond.methodLink RX0 19 yX3_length, Cond.instanceMethod yX3_length, Cond.selects RX3 yX3_length yX3_length, Cond.initialized RX3, Cond.code yX3_length cX3_length 4 (some .int), Cond.fieldLink RX3 11 "WaysKept$Ways" "costs" "[I", Cond.constant RX3 24 (2147483647), Cond.static yX4_pairOf, Cond.initialized RX4, Cond.code yX4_pairOf cX4_pairOf 2 (some .int), Cond.methodLink RX3 55 yJ9_floorMod_7cf53, Cond.static yJ9_floorMod_7cf53, Cond.initialized RJ9, Cond.code yJ9_floorMod_7cf53 cJ9_floorMod_7cf53 3 (some .int)]
def wsX4_hits_r2 : List Cond := [Cond.methodLink RX0 25 yX3_between, Cond.instanceMethod yX3_between, Cond.selects RX3 yX3_between yX3_between, Cond.code yX3_between cX3_between 6 (some .int), Cond.fieldLink RX3 20 "WaysKept$Ways" "net" "LWaysKept$Net;", Cond.methodLink RX3 60 yX3_length, Cond.methodLink RX3 63 yX3_lineToward, Cond.instanceMethod yX3_lineToward, Cond.selects RX3 yX3_lineToward yX3_lineToward, Cond.code yX3_lineToward cX3_lineToward 6 (some .int), Cond.methodLink RX3 128 yX1_hasPost, Cond.instanceMethod yX1_hasPost, Cond.selects RX1 yX1_hasPost yX1_hasPost, Cond.initialized RX1, Cond.code yX1_hasPost cX1_hasPost 2 (some .boolean), Cond.fieldLink RX1 28 "WaysKept$Net" "posts" "I", Cond.methodLink RX3 90 yX3_leads, Cond.instanceMethod yX3_leads, Cond.selects RX3 yX3_leads yX3_leads, Cond.code yX3_leads cX3_leads 3 (some .boolean), Cond.methodLink RX3 66 yX1_target, Cond.instanceMethod yX1_target, Cond.selects RX1 yX1_target yX1_target, Cond.code yX1_target cX1_target 3 (some .int)]
def wsX4_hits_r3 : List Cond := [Cond.fieldLink RX1 25 "WaysKept$Net" "there" "[Z", Cond.fieldLink RX1 9 "WaysKept$Net" "begins" "[I", Cond.fieldLink RX1 15 "WaysKept$Net" "ends" "[I", Cond.fieldLink RX1 21 "WaysKept$Net" "bothWays" "[Z", Cond.methodLink RX1 39 yX1_hasLine, Cond.instanceMethod yX1_hasLine, Cond.selects RX1 yX1_hasLine yX1_hasLine, Cond.code yX1_hasLine cX1_hasLine 2 (some .boolean), Cond.fieldLink RX1 32 "WaysKept$Net" "lines" "I", Cond.methodLink RX3 122 yX3_costOf, Cond.instanceMethod yX3_costOf, Cond.selects RX3 yX3_costOf yX3_costOf, Cond.code yX3_costOf cX3_costOf 2 (some .int), Cond.methodLink RX4 176 yX0_fewest, Cond.instanceMethod yX0_fewest, Cond.selects RX0 yX0_fewest yX0_fewest, Cond.code yX0_fewest cX0_fewest 6 (some .int), Cond.methodLink RX0 28 yJ6_bitCount_0f7a4, Cond.static yJ6_bitCount_0f7a4, Cond.initialized RJ6, Cond.code yJ6_bitCount_0f7a4 cJ6_bitCount_0f7a4 1 (some .int), Cond.constant RJ6 265 (1431655765), Cond.constant RJ6 266 (858993459), Cond.constant RJ6 267 (252645135)]
def wsX4_hits_r4 : List Cond := [Cond.methodLink RX0 34 yX0_meetsAll, Cond.instanceMethod yX0_meetsAll, Cond.selects RX0 yX0_meetsAll yX0_meetsAll, Cond.code yX0_meetsAll cX0_meetsAll 3 (some .boolean)]
def wsX4_hits : List Cond := .code yX4_hits cX4_hits 2 (some .int) :: ((wsX4_hits_r1 ++ (wsX4_hits_r2 ++ (wsX4_hits_r3 ++ wsX4_hits_r4))) ++ wsX40 ++ wsX10 ++ wsX00 ++ wsX30)
def wsX4_count_r1 : List Cond := [Cond.fieldLink RX4 12 "WaysKept" "net" "LWaysKept$Net;", Cond.fieldLink RX4 21 "WaysKept" "ways" "LWaysKept$Ways;", Cond.fieldLink RX4 158 "WaysKept" "marked" "I", Cond.methodLink RX4 91 yX1_countThere, Cond.instanceMethod yX1_countThere, Cond.selects RX1 yX1_countThere yX1_countThere, Cond.initialized RX1, Cond.code yX1_countThere cX1_countThere 3 (some .int), Cond.fieldLink RX1 32 "WaysKept$Net" "lines" "I", Cond.fieldLink RX1 25 "WaysKept$Net" "there" "[Z", Cond.methodLink RX4 179 yX3_countLinked, Cond.instanceMethod yX3_countLinked, Cond.selects RX3 yX3_countLinked yX3_countLinked, Cond.initialized RX3, Cond.code yX3_countLinked cX3_countLinked 4 (some .int), Cond.fieldLink RX3 20 "WaysKept$Ways" "net" "LWaysKept$Net;", Cond.methodLink RX3 90 yX3_leads, Cond.instanceMethod yX3_leads, Cond.selects RX3 yX3_leads yX3_leads, Cond.code yX3_leads cX3_leads 3 (some .boolean), Cond.fieldLink RX3 11 "WaysKept$Ways" "costs" "[I", Cond.constant RX3 24 (2147483647), Cond.static yX4_pairOf, Cond.initialized RX4]
def wsX4_count_r2 : List Cond := [Cond.code yX4_pairOf cX4_pairOf 2 (some .int), Cond.methodLink RX4 182 yJ6_bitCount_0f7a4, Cond.static yJ6_bitCount_0f7a4, Cond.initialized RJ6, Cond.code yJ6_bitCount_0f7a4 cJ6_bitCount_0f7a4 1 (some .int), Cond.constant RJ6 265 (1431655765), Cond.constant RJ6 266 (858993459), Cond.constant RJ6 267 (252645135)]
def wsX4_count : List Cond := .code yX4_count cX4_count 2 (some .int) :: ((wsX4_count_r1 ++ wsX4_count_r2) ++ wsX40 ++ wsX10 ++ wsX30)
def wsX5_learn : List Cond := .code yX5_learn cX5_learn 8 (some .boolean) :: ([.fieldLink RX5 30 "WaysKeptModel" "fine" "[I", .constant RX5 57 (10000000), .fieldLink RX5 54 "WaysKeptModel" "lines" "I", .fieldLink RX5 27 "WaysKeptModel" "isThere" "[Z", .fieldLink RX5 13 "WaysKeptModel" "from" "[I", .fieldLink RX5 17 "WaysKeptModel" "to" "[I", .fieldLink RX5 20 "WaysKeptModel" "price" "[I", .fieldLink RX5 23 "WaysKeptModel" "isBoth" "[Z", .fieldLink RX5 7 "WaysKeptModel" "posts" "I"] ++ wsX50)
def wsX5_coarse : List Cond := .code yX5_coarse cX5_coarse 2 (some .int) :: ([.constant RX5 57 (10000000)])
def wsX5_keep : List Cond := .code yX5_keep cX5_keep 2 none :: ([.fieldLink RX5 34 "WaysKeptModel" "kept" "[I", .fieldLink RX5 62 "WaysKeptModel" "acts" "I", .fieldLink RX5 30 "WaysKeptModel" "fine" "[I", .methodLink RX5 58 yX5_coarse, .static yX5_coarse, .initialized RX5, .code yX5_coarse cX5_coarse 2 (some .int), .constant RX5 57 (10000000)] ++ wsX50)
def wsX5_init_r1 : List Cond := [Cond.methodLink RX5 1 objectInit, Cond.instanceMethod objectInit, Cond.code objectInit ⟨#[0xb1]⟩ 1 none, Cond.fieldLink RX5 7 "WaysKeptModel" "posts" "I", Cond.arrayClass .int, Cond.fieldLink RX5 13 "WaysKeptModel" "from" "[I", Cond.fieldLink RX5 17 "WaysKeptModel" "to" "[I", Cond.fieldLink RX5 20 "WaysKeptModel" "price" "[I", Cond.arrayClass .boolean, Cond.fieldLink RX5 23 "WaysKeptModel" "isBoth" "[Z", Cond.fieldLink RX5 27 "WaysKeptModel" "isThere" "[Z", Cond.fieldLink RX5 30 "WaysKeptModel" "fine" "[I", Cond.constant RX5 33 (40100), Cond.fieldLink RX5 34 "WaysKeptModel" "kept" "[I", Cond.fieldLink RX5 37 "WaysKeptModel" "inner" "[I", Cond.methodLink RX5 40 yX5_learn, Cond.instanceMethod yX5_learn, Cond.selects RX5 yX5_learn yX5_learn, Cond.initialized RX5, Cond.code yX5_learn cX5_learn 8 (some .boolean), Cond.constant RX5 57 (10000000), Cond.fieldLink RX5 54 "WaysKeptModel" "lines" "I", Cond.methodLink RX5 44 yX5_keep, Cond.instanceMethod yX5_keep]
def wsX5_init_r2 : List Cond := [Cond.selects RX5 yX5_keep yX5_keep, Cond.code yX5_keep cX5_keep 2 none, Cond.fieldLink RX5 62 "WaysKeptModel" "acts" "I", Cond.methodLink RX5 58 yX5_coarse, Cond.static yX5_coarse, Cond.code yX5_coarse cX5_coarse 2 (some .int)]
def wsX5_init : List Cond := .code yX5_init cX5_init 1 none :: ((wsX5_init_r1 ++ wsX5_init_r2) ++ wsX50)
def wsX5_in : List Cond := .code yX5_in cX5_in 6 (some .boolean) :: ([])
def wsX5_noPost : List Cond := .code yX5_noPost cX5_noPost 2 (some .boolean) :: ([.fieldLink RX5 7 "WaysKeptModel" "posts" "I", .methodLink RX5 50 yX5_in, .static yX5_in, .initialized RX5, .code yX5_in cX5_in 6 (some .boolean)] ++ wsX50)
def wsX5_noLine : List Cond := .code yX5_noLine cX5_noLine 2 (some .boolean) :: ([.fieldLink RX5 54 "WaysKeptModel" "lines" "I", .methodLink RX5 50 yX5_in, .static yX5_in, .initialized RX5, .code yX5_in cX5_in 6 (some .boolean)] ++ wsX50)
def wsX5_farOf : List Cond := .code yX5_farOf cX5_farOf 3 (some .int) :: ([.fieldLink RX5 30 "WaysKeptModel" "fine" "[I", .methodLink RX5 58 yX5_coarse, .static yX5_coarse, .initialized RX5, .code yX5_coarse cX5_coarse 2 (some .int), .constant RX5 57 (10000000)] ++ wsX50)
def wsX5_did : List Cond := .code yX5_did cX5_did 1 none :: ([.fieldLink RX5 62 "WaysKeptModel" "acts" "I", .methodLink RX5 40 yX5_learn, .instanceMethod yX5_learn, .selects RX5 yX5_learn yX5_learn, .initialized RX5, .code yX5_learn cX5_learn 8 (some .boolean), .fieldLink RX5 30 "WaysKeptModel" "fine" "[I", .constant RX5 57 (10000000), .fieldLink RX5 54 "WaysKeptModel" "lines" "I", .fieldLink RX5 27 "WaysKeptModel" "isThere" "[Z", .fieldLink RX5 13 "WaysKeptModel" "from" "[I", .fieldLink RX5 17 "WaysKeptModel" "to" "[I", .fieldLink RX5 20 "WaysKeptModel" "price" "[I", .fieldLink RX5 23 "WaysKeptModel" "isBoth" "[Z", .fieldLink RX5 7 "WaysKeptModel" "posts" "I", .methodLink RX5 44 yX5_keep, .instanceMethod yX5_keep, .selects RX5 yX5_keep yX5_keep, .code yX5_keep cX5_keep 2 none, .fieldLink RX5 34 "WaysKeptModel" "kept" "[I", .methodLink RX5 58 yX5_coarse, .static yX5_coarse, .code yX5_coarse cX5_coarse 2 (some .int)] ++ wsX50)
def wsX5_there : List Cond := .code yX5_there cX5_there 3 (some .int) :: ([.fieldLink RX5 54 "WaysKeptModel" "lines" "I", .fieldLink RX5 27 "WaysKeptModel" "isThere" "[Z"] ++ wsX50)
def wsX5_posts_r1 : List Cond := [Cond.fieldLink RX5 47 "WaysKeptModel" "thrown" "I", Cond.constantLong RX5 65 (2), Cond.constantLong RX5 67 (10), Cond.fieldLink RX5 7 "WaysKeptModel" "posts" "I", Cond.fieldLink RX5 54 "WaysKeptModel" "lines" "I", Cond.fieldLink RX5 62 "WaysKeptModel" "acts" "I", Cond.fieldLink RX5 69 "WaysKeptModel" "marks" "I", Cond.methodLink RX5 50 yX5_in, Cond.static yX5_in, Cond.initialized RX5, Cond.code yX5_in cX5_in 6 (some .boolean), Cond.methodLink RX5 40 yX5_learn, Cond.instanceMethod yX5_learn, Cond.selects RX5 yX5_learn yX5_learn, Cond.code yX5_learn cX5_learn 8 (some .boolean), Cond.fieldLink RX5 30 "WaysKeptModel" "fine" "[I", Cond.constant RX5 57 (10000000), Cond.fieldLink RX5 27 "WaysKeptModel" "isThere" "[Z", Cond.fieldLink RX5 13 "WaysKeptModel" "from" "[I", Cond.fieldLink RX5 17 "WaysKeptModel" "to" "[I", Cond.fieldLink RX5 20 "WaysKeptModel" "price" "[I", Cond.fieldLink RX5 23 "WaysKeptModel" "isBoth" "[Z", Cond.methodLink RX5 44 yX5_keep, Cond.instanceMethod yX5_keep]
def wsX5_posts_r2 : List Cond := [Cond.selects RX5 yX5_keep yX5_keep, Cond.code yX5_keep cX5_keep 2 none, Cond.fieldLink RX5 34 "WaysKeptModel" "kept" "[I", Cond.methodLink RX5 58 yX5_coarse, Cond.static yX5_coarse, Cond.code yX5_coarse cX5_coarse 2 (some .int)]
def wsX5_posts : List Cond := .code yX5_posts cX5_posts 3 (some .int) :: ((wsX5_posts_r1 ++ wsX5_posts_r2) ++ wsX50)
def wsX5_line_r1 : List Cond := [Cond.fieldLink RX5 47 "WaysKeptModel" "thrown" "I", Cond.constantLong RX5 76 (-50), Cond.constantLong RX5 78 (99), Cond.fieldLink RX5 54 "WaysKeptModel" "lines" "I", Cond.fieldLink RX5 62 "WaysKeptModel" "acts" "I", Cond.fieldLink RX5 13 "WaysKeptModel" "from" "[I", Cond.fieldLink RX5 17 "WaysKeptModel" "to" "[I", Cond.fieldLink RX5 20 "WaysKeptModel" "price" "[I", Cond.fieldLink RX5 23 "WaysKeptModel" "isBoth" "[Z", Cond.fieldLink RX5 27 "WaysKeptModel" "isThere" "[Z", Cond.methodLink RX5 72 yX5_noPost, Cond.instanceMethod yX5_noPost, Cond.selects RX5 yX5_noPost yX5_noPost, Cond.initialized RX5, Cond.code yX5_noPost cX5_noPost 2 (some .boolean), Cond.fieldLink RX5 7 "WaysKeptModel" "posts" "I", Cond.methodLink RX5 50 yX5_in, Cond.static yX5_in, Cond.code yX5_in cX5_in 6 (some .boolean), Cond.methodLink RX5 40 yX5_learn, Cond.instanceMethod yX5_learn, Cond.selects RX5 yX5_learn yX5_learn, Cond.code yX5_learn cX5_learn 8 (some .boolean), Cond.fieldLink RX5 30 "WaysKeptModel" "fine" "[I"]
def wsX5_line_r2 : List Cond := [Cond.constant RX5 57 (10000000), Cond.methodLink RX5 80 yX5_farOf, Cond.instanceMethod yX5_farOf, Cond.selects RX5 yX5_farOf yX5_farOf, Cond.code yX5_farOf cX5_farOf 3 (some .int), Cond.methodLink RX5 58 yX5_coarse, Cond.static yX5_coarse, Cond.code yX5_coarse cX5_coarse 2 (some .int), Cond.methodLink RX5 84 yX5_did, Cond.instanceMethod yX5_did, Cond.selects RX5 yX5_did yX5_did, Cond.code yX5_did cX5_did 1 none, Cond.methodLink RX5 44 yX5_keep, Cond.instanceMethod yX5_keep, Cond.selects RX5 yX5_keep yX5_keep, Cond.code yX5_keep cX5_keep 2 none, Cond.fieldLink RX5 34 "WaysKeptModel" "kept" "[I"]
def wsX5_line : List Cond := .code yX5_line cX5_line 6 (some .int) :: ((wsX5_line_r1 ++ wsX5_line_r2) ++ wsX50)
def wsX5_price_r1 : List Cond := [Cond.fieldLink RX5 47 "WaysKeptModel" "thrown" "I", Cond.fieldLink RX5 23 "WaysKeptModel" "isBoth" "[Z", Cond.constantLong RX5 76 (-50), Cond.constantLong RX5 78 (99), Cond.fieldLink RX5 20 "WaysKeptModel" "price" "[I", Cond.fieldLink RX5 62 "WaysKeptModel" "acts" "I", Cond.methodLink RX5 87 yX5_noLine, Cond.instanceMethod yX5_noLine, Cond.selects RX5 yX5_noLine yX5_noLine, Cond.initialized RX5, Cond.code yX5_noLine cX5_noLine 2 (some .boolean), Cond.fieldLink RX5 54 "WaysKeptModel" "lines" "I", Cond.methodLink RX5 50 yX5_in, Cond.static yX5_in, Cond.code yX5_in cX5_in 6 (some .boolean), Cond.methodLink RX5 40 yX5_learn, Cond.instanceMethod yX5_learn, Cond.selects RX5 yX5_learn yX5_learn, Cond.code yX5_learn cX5_learn 8 (some .boolean), Cond.fieldLink RX5 30 "WaysKeptModel" "fine" "[I", Cond.constant RX5 57 (10000000), Cond.fieldLink RX5 27 "WaysKeptModel" "isThere" "[Z", Cond.fieldLink RX5 13 "WaysKeptModel" "from" "[I", Cond.fieldLink RX5 17 "WaysKeptModel" "to" "[I"]
def wsX5_price_r2 : List Cond := [Cond.fieldLink RX5 7 "WaysKeptModel" "posts" "I", Cond.methodLink RX5 84 yX5_did, Cond.instanceMethod yX5_did, Cond.selects RX5 yX5_did yX5_did, Cond.code yX5_did cX5_did 1 none, Cond.methodLink RX5 44 yX5_keep, Cond.instanceMethod yX5_keep, Cond.selects RX5 yX5_keep yX5_keep, Cond.code yX5_keep cX5_keep 2 none, Cond.fieldLink RX5 34 "WaysKeptModel" "kept" "[I", Cond.methodLink RX5 58 yX5_coarse, Cond.static yX5_coarse, Cond.code yX5_coarse cX5_coarse 2 (some .int)]
def wsX5_price : List Cond := .code yX5_price cX5_price 4 (some .int) :: ((wsX5_price_r1 ++ wsX5_price_r2) ++ wsX50)
def wsX5_cut_r1 : List Cond := [Cond.fieldLink RX5 47 "WaysKeptModel" "thrown" "I", Cond.fieldLink RX5 27 "WaysKeptModel" "isThere" "[Z", Cond.fieldLink RX5 62 "WaysKeptModel" "acts" "I", Cond.methodLink RX5 87 yX5_noLine, Cond.instanceMethod yX5_noLine, Cond.selects RX5 yX5_noLine yX5_noLine, Cond.initialized RX5, Cond.code yX5_noLine cX5_noLine 2 (some .boolean), Cond.fieldLink RX5 54 "WaysKeptModel" "lines" "I", Cond.methodLink RX5 50 yX5_in, Cond.static yX5_in, Cond.code yX5_in cX5_in 6 (some .boolean), Cond.methodLink RX5 84 yX5_did, Cond.instanceMethod yX5_did, Cond.selects RX5 yX5_did yX5_did, Cond.code yX5_did cX5_did 1 none, Cond.methodLink RX5 40 yX5_learn, Cond.instanceMethod yX5_learn, Cond.selects RX5 yX5_learn yX5_learn, Cond.code yX5_learn cX5_learn 8 (some .boolean), Cond.fieldLink RX5 30 "WaysKeptModel" "fine" "[I", Cond.constant RX5 57 (10000000), Cond.fieldLink RX5 13 "WaysKeptModel" "from" "[I", Cond.fieldLink RX5 17 "WaysKeptModel" "to" "[I"]
def wsX5_cut_r2 : List Cond := [Cond.fieldLink RX5 20 "WaysKeptModel" "price" "[I", Cond.fieldLink RX5 23 "WaysKeptModel" "isBoth" "[Z", Cond.fieldLink RX5 7 "WaysKeptModel" "posts" "I", Cond.methodLink RX5 44 yX5_keep, Cond.instanceMethod yX5_keep, Cond.selects RX5 yX5_keep yX5_keep, Cond.code yX5_keep cX5_keep 2 none, Cond.fieldLink RX5 34 "WaysKeptModel" "kept" "[I", Cond.methodLink RX5 58 yX5_coarse, Cond.static yX5_coarse, Cond.code yX5_coarse cX5_coarse 2 (some .int), Cond.methodLink RX5 90 yX5_there, Cond.instanceMethod yX5_there, Cond.selects RX5 yX5_there yX5_there, Cond.code yX5_there cX5_there 3 (some .int)]
def wsX5_cut : List Cond := .code yX5_cut cX5_cut 2 (some .int) :: ((wsX5_cut_r1 ++ wsX5_cut_r2) ++ wsX50)
def wsX5_back_r1 : List Cond := [Cond.fieldLink RX5 47 "WaysKeptModel" "thrown" "I", Cond.fieldLink RX5 27 "WaysKeptModel" "isThere" "[Z", Cond.fieldLink RX5 62 "WaysKeptModel" "acts" "I", Cond.methodLink RX5 87 yX5_noLine, Cond.instanceMethod yX5_noLine, Cond.selects RX5 yX5_noLine yX5_noLine, Cond.initialized RX5, Cond.code yX5_noLine cX5_noLine 2 (some .boolean), Cond.fieldLink RX5 54 "WaysKeptModel" "lines" "I", Cond.methodLink RX5 50 yX5_in, Cond.static yX5_in, Cond.code yX5_in cX5_in 6 (some .boolean), Cond.methodLink RX5 40 yX5_learn, Cond.instanceMethod yX5_learn, Cond.selects RX5 yX5_learn yX5_learn, Cond.code yX5_learn cX5_learn 8 (some .boolean), Cond.fieldLink RX5 30 "WaysKeptModel" "fine" "[I", Cond.constant RX5 57 (10000000), Cond.fieldLink RX5 13 "WaysKeptModel" "from" "[I", Cond.fieldLink RX5 17 "WaysKeptModel" "to" "[I", Cond.fieldLink RX5 20 "WaysKeptModel" "price" "[I", Cond.fieldLink RX5 23 "WaysKeptModel" "isBoth" "[Z", Cond.fieldLink RX5 7 "WaysKeptModel" "posts" "I", Cond.methodLink RX5 84 yX5_did]
def wsX5_back_r2 : List Cond := [Cond.instanceMethod yX5_did, Cond.selects RX5 yX5_did yX5_did, Cond.code yX5_did cX5_did 1 none, Cond.methodLink RX5 44 yX5_keep, Cond.instanceMethod yX5_keep, Cond.selects RX5 yX5_keep yX5_keep, Cond.code yX5_keep cX5_keep 2 none, Cond.fieldLink RX5 34 "WaysKeptModel" "kept" "[I", Cond.methodLink RX5 58 yX5_coarse, Cond.static yX5_coarse, Cond.code yX5_coarse cX5_coarse 2 (some .int), Cond.methodLink RX5 90 yX5_there, Cond.instanceMethod yX5_there, Cond.selects RX5 yX5_there yX5_there, Cond.code yX5_there cX5_there 3 (some .int)]
def wsX5_back : List Cond := .code yX5_back cX5_back 3 (some .int) :: ((wsX5_back_r1 ++ wsX5_back_r2) ++ wsX50)
def wsX5_heightOf : List Cond := .code yX5_heightOf cX5_heightOf 4 (some .int) :: ([.fieldLink RX5 7 "WaysKeptModel" "posts" "I", .methodLink RX5 80 yX5_farOf, .instanceMethod yX5_farOf, .selects RX5 yX5_farOf yX5_farOf, .initialized RX5, .code yX5_farOf cX5_farOf 3 (some .int), .fieldLink RX5 30 "WaysKeptModel" "fine" "[I", .methodLink RX5 58 yX5_coarse, .static yX5_coarse, .code yX5_coarse cX5_coarse 2 (some .int), .constant RX5 57 (10000000)] ++ wsX50)
def wsX5_told_r1 : List Cond := [Cond.fieldLink RX5 47 "WaysKeptModel" "thrown" "I", Cond.fieldLink RX5 13 "WaysKeptModel" "from" "[I", Cond.fieldLink RX5 17 "WaysKeptModel" "to" "[I", Cond.fieldLink RX5 20 "WaysKeptModel" "price" "[I", Cond.fieldLink RX5 23 "WaysKeptModel" "isBoth" "[Z", Cond.fieldLink RX5 27 "WaysKeptModel" "isThere" "[Z", Cond.methodLink RX5 87 yX5_noLine, Cond.instanceMethod yX5_noLine, Cond.selects RX5 yX5_noLine yX5_noLine, Cond.initialized RX5, Cond.code yX5_noLine cX5_noLine 2 (some .boolean), Cond.fieldLink RX5 54 "WaysKeptModel" "lines" "I", Cond.methodLink RX5 50 yX5_in, Cond.static yX5_in, Cond.code yX5_in cX5_in 6 (some .boolean), Cond.methodLink RX5 40 yX5_learn, Cond.instanceMethod yX5_learn, Cond.selects RX5 yX5_learn yX5_learn, Cond.code yX5_learn cX5_learn 8 (some .boolean), Cond.fieldLink RX5 30 "WaysKeptModel" "fine" "[I", Cond.constant RX5 57 (10000000), Cond.fieldLink RX5 7 "WaysKeptModel" "posts" "I", Cond.methodLink RX5 94 yX5_heightOf, Cond.instanceMethod yX5_heightOf]
def wsX5_told_r2 : List Cond := [Cond.selects RX5 yX5_heightOf yX5_heightOf, Cond.code yX5_heightOf cX5_heightOf 4 (some .int), Cond.methodLink RX5 80 yX5_farOf, Cond.instanceMethod yX5_farOf, Cond.selects RX5 yX5_farOf yX5_farOf, Cond.code yX5_farOf cX5_farOf 3 (some .int), Cond.methodLink RX5 58 yX5_coarse, Cond.static yX5_coarse, Cond.code yX5_coarse cX5_coarse 2 (some .int)]
def wsX5_told : List Cond := .code yX5_told cX5_told 4 (some .int) :: ((wsX5_told_r1 ++ wsX5_told_r2) ++ wsX50)
def wsX5_far_r1 : List Cond := [Cond.fieldLink RX5 47 "WaysKeptModel" "thrown" "I", Cond.methodLink RX5 72 yX5_noPost, Cond.instanceMethod yX5_noPost, Cond.selects RX5 yX5_noPost yX5_noPost, Cond.initialized RX5, Cond.code yX5_noPost cX5_noPost 2 (some .boolean), Cond.fieldLink RX5 7 "WaysKeptModel" "posts" "I", Cond.methodLink RX5 50 yX5_in, Cond.static yX5_in, Cond.code yX5_in cX5_in 6 (some .boolean), Cond.methodLink RX5 40 yX5_learn, Cond.instanceMethod yX5_learn, Cond.selects RX5 yX5_learn yX5_learn, Cond.code yX5_learn cX5_learn 8 (some .boolean), Cond.fieldLink RX5 30 "WaysKeptModel" "fine" "[I", Cond.constant RX5 57 (10000000), Cond.fieldLink RX5 54 "WaysKeptModel" "lines" "I", Cond.fieldLink RX5 27 "WaysKeptModel" "isThere" "[Z", Cond.fieldLink RX5 13 "WaysKeptModel" "from" "[I", Cond.fieldLink RX5 17 "WaysKeptModel" "to" "[I", Cond.fieldLink RX5 20 "WaysKeptModel" "price" "[I", Cond.fieldLink RX5 23 "WaysKeptModel" "isBoth" "[Z", Cond.methodLink RX5 80 yX5_farOf, Cond.instanceMethod yX5_farOf]
def wsX5_far_r2 : List Cond := [Cond.selects RX5 yX5_farOf yX5_farOf, Cond.code yX5_farOf cX5_farOf 3 (some .int), Cond.methodLink RX5 58 yX5_coarse, Cond.static yX5_coarse, Cond.code yX5_coarse cX5_coarse 2 (some .int)]
def wsX5_far : List Cond := .code yX5_far cX5_far 3 (some .int) :: ((wsX5_far_r1 ++ wsX5_far_r2) ++ wsX50)
def wsX5_steps_r1 : List Cond := [Cond.fieldLink RX5 47 "WaysKeptModel" "thrown" "I", Cond.fieldLink RX5 30 "WaysKeptModel" "fine" "[I", Cond.constant RX5 57 (10000000), Cond.methodLink RX5 72 yX5_noPost, Cond.instanceMethod yX5_noPost, Cond.selects RX5 yX5_noPost yX5_noPost, Cond.initialized RX5, Cond.code yX5_noPost cX5_noPost 2 (some .boolean), Cond.fieldLink RX5 7 "WaysKeptModel" "posts" "I", Cond.methodLink RX5 50 yX5_in, Cond.static yX5_in, Cond.code yX5_in cX5_in 6 (some .boolean), Cond.methodLink RX5 40 yX5_learn, Cond.instanceMethod yX5_learn, Cond.selects RX5 yX5_learn yX5_learn, Cond.code yX5_learn cX5_learn 8 (some .boolean), Cond.fieldLink RX5 54 "WaysKeptModel" "lines" "I", Cond.fieldLink RX5 27 "WaysKeptModel" "isThere" "[Z", Cond.fieldLink RX5 13 "WaysKeptModel" "from" "[I", Cond.fieldLink RX5 17 "WaysKeptModel" "to" "[I", Cond.fieldLink RX5 20 "WaysKeptModel" "price" "[I", Cond.fieldLink RX5 23 "WaysKeptModel" "isBoth" "[Z", Cond.methodLink RX5 58 yX5_coarse, Cond.static yX5_coarse]
def wsX5_steps_r2 : List Cond := [Cond.code yX5_coarse cX5_coarse 2 (some .int)]
def wsX5_steps : List Cond := .code yX5_steps cX5_steps 4 (some .int) :: ((wsX5_steps_r1 ++ wsX5_steps_r2) ++ wsX50)
def wsX5_nextOf : List Cond := .code yX5_nextOf cX5_nextOf 5 (some .int) :: ([.fieldLink RX5 54 "WaysKeptModel" "lines" "I", .fieldLink RX5 13 "WaysKeptModel" "from" "[I", .fieldLink RX5 17 "WaysKeptModel" "to" "[I", .fieldLink RX5 23 "WaysKeptModel" "isBoth" "[Z", .fieldLink RX5 27 "WaysKeptModel" "isThere" "[Z", .fieldLink RX5 30 "WaysKeptModel" "fine" "[I", .constant RX5 57 (10000000), .fieldLink RX5 20 "WaysKeptModel" "price" "[I"] ++ wsX50)
def wsX5_other : List Cond := .code yX5_other cX5_other 3 (some .int) :: ([.fieldLink RX5 13 "WaysKeptModel" "from" "[I", .fieldLink RX5 17 "WaysKeptModel" "to" "[I"] ++ wsX50)
def wsX5_way_r1 : List Cond := [Cond.fieldLink RX5 47 "WaysKeptModel" "thrown" "I", Cond.fieldLink RX5 30 "WaysKeptModel" "fine" "[I", Cond.constant RX5 57 (10000000), Cond.methodLink RX5 72 yX5_noPost, Cond.instanceMethod yX5_noPost, Cond.selects RX5 yX5_noPost yX5_noPost, Cond.initialized RX5, Cond.code yX5_noPost cX5_noPost 2 (some .boolean), Cond.fieldLink RX5 7 "WaysKeptModel" "posts" "I", Cond.methodLink RX5 50 yX5_in, Cond.static yX5_in, Cond.code yX5_in cX5_in 6 (some .boolean), Cond.methodLink RX5 40 yX5_learn, Cond.instanceMethod yX5_learn, Cond.selects RX5 yX5_learn yX5_learn, Cond.code yX5_learn cX5_learn 8 (some .boolean), Cond.fieldLink RX5 54 "WaysKeptModel" "lines" "I", Cond.fieldLink RX5 27 "WaysKeptModel" "isThere" "[Z", Cond.fieldLink RX5 13 "WaysKeptModel" "from" "[I", Cond.fieldLink RX5 17 "WaysKeptModel" "to" "[I", Cond.fieldLink RX5 20 "WaysKeptModel" "price" "[I", Cond.fieldLink RX5 23 "WaysKeptModel" "isBoth" "[Z", Cond.methodLink RX5 58 yX5_coarse, Cond.static yX5_coarse]
def wsX5_way_r2 : List Cond := [Cond.code yX5_coarse cX5_coarse 2 (some .int), Cond.methodLink RX5 97 yX5_nextOf, Cond.instanceMethod yX5_nextOf, Cond.selects RX5 yX5_nextOf yX5_nextOf, Cond.code yX5_nextOf cX5_nextOf 5 (some .int), Cond.methodLink RX5 100 yX5_other, Cond.instanceMethod yX5_other, Cond.selects RX5 yX5_other yX5_other, Cond.code yX5_other cX5_other 3 (some .int)]
def wsX5_way : List Cond := .code yX5_way cX5_way 8 (some .int) :: ((wsX5_way_r1 ++ wsX5_way_r2) ++ wsX50)
def wsX5_without_r1 : List Cond := [Cond.fieldLink RX5 47 "WaysKeptModel" "thrown" "I", Cond.methodLink RX5 72 yX5_noPost, Cond.instanceMethod yX5_noPost, Cond.selects RX5 yX5_noPost yX5_noPost, Cond.initialized RX5, Cond.code yX5_noPost cX5_noPost 2 (some .boolean), Cond.fieldLink RX5 7 "WaysKeptModel" "posts" "I", Cond.methodLink RX5 50 yX5_in, Cond.static yX5_in, Cond.code yX5_in cX5_in 6 (some .boolean), Cond.methodLink RX5 87 yX5_noLine, Cond.instanceMethod yX5_noLine, Cond.selects RX5 yX5_noLine yX5_noLine, Cond.code yX5_noLine cX5_noLine 2 (some .boolean), Cond.fieldLink RX5 54 "WaysKeptModel" "lines" "I", Cond.methodLink RX5 40 yX5_learn, Cond.instanceMethod yX5_learn, Cond.selects RX5 yX5_learn yX5_learn, Cond.code yX5_learn cX5_learn 8 (some .boolean), Cond.fieldLink RX5 30 "WaysKeptModel" "fine" "[I", Cond.constant RX5 57 (10000000), Cond.fieldLink RX5 27 "WaysKeptModel" "isThere" "[Z", Cond.fieldLink RX5 13 "WaysKeptModel" "from" "[I", Cond.fieldLink RX5 17 "WaysKeptModel" "to" "[I"]
def wsX5_without_r2 : List Cond := [Cond.fieldLink RX5 20 "WaysKeptModel" "price" "[I", Cond.fieldLink RX5 23 "WaysKeptModel" "isBoth" "[Z", Cond.methodLink RX5 80 yX5_farOf, Cond.instanceMethod yX5_farOf, Cond.selects RX5 yX5_farOf yX5_farOf, Cond.code yX5_farOf cX5_farOf 3 (some .int), Cond.methodLink RX5 58 yX5_coarse, Cond.static yX5_coarse, Cond.code yX5_coarse cX5_coarse 2 (some .int)]
def wsX5_without : List Cond := .code yX5_without cX5_without 4 (some .int) :: ((wsX5_without_r1 ++ wsX5_without_r2) ++ wsX50)
def wsX5_vital_r1 : List Cond := [Cond.fieldLink RX5 47 "WaysKeptModel" "thrown" "I", Cond.fieldLink RX5 54 "WaysKeptModel" "lines" "I", Cond.methodLink RX5 72 yX5_noPost, Cond.instanceMethod yX5_noPost, Cond.selects RX5 yX5_noPost yX5_noPost, Cond.initialized RX5, Cond.code yX5_noPost cX5_noPost 2 (some .boolean), Cond.fieldLink RX5 7 "WaysKeptModel" "posts" "I", Cond.methodLink RX5 50 yX5_in, Cond.static yX5_in, Cond.code yX5_in cX5_in 6 (some .boolean), Cond.methodLink RX5 40 yX5_learn, Cond.instanceMethod yX5_learn, Cond.selects RX5 yX5_learn yX5_learn, Cond.code yX5_learn cX5_learn 8 (some .boolean), Cond.fieldLink RX5 30 "WaysKeptModel" "fine" "[I", Cond.constant RX5 57 (10000000), Cond.fieldLink RX5 27 "WaysKeptModel" "isThere" "[Z", Cond.fieldLink RX5 13 "WaysKeptModel" "from" "[I", Cond.fieldLink RX5 17 "WaysKeptModel" "to" "[I", Cond.fieldLink RX5 20 "WaysKeptModel" "price" "[I", Cond.fieldLink RX5 23 "WaysKeptModel" "isBoth" "[Z", Cond.methodLink RX5 80 yX5_farOf, Cond.instanceMethod yX5_farOf]
def wsX5_vital_r2 : List Cond := [Cond.selects RX5 yX5_farOf yX5_farOf, Cond.code yX5_farOf cX5_farOf 3 (some .int), Cond.methodLink RX5 58 yX5_coarse, Cond.static yX5_coarse, Cond.code yX5_coarse cX5_coarse 2 (some .int)]
def wsX5_vital : List Cond := .code yX5_vital cX5_vital 7 (some .int) :: ((wsX5_vital_r1 ++ wsX5_vital_r2) ++ wsX50)
def wsX5_about_r1 : List Cond := [Cond.fieldLink RX5 47 "WaysKeptModel" "thrown" "I", Cond.methodLink RX5 72 yX5_noPost, Cond.instanceMethod yX5_noPost, Cond.selects RX5 yX5_noPost yX5_noPost, Cond.initialized RX5, Cond.code yX5_noPost cX5_noPost 2 (some .boolean), Cond.fieldLink RX5 7 "WaysKeptModel" "posts" "I", Cond.methodLink RX5 50 yX5_in, Cond.static yX5_in, Cond.code yX5_in cX5_in 6 (some .boolean), Cond.methodLink RX5 40 yX5_learn, Cond.instanceMethod yX5_learn, Cond.selects RX5 yX5_learn yX5_learn, Cond.code yX5_learn cX5_learn 8 (some .boolean), Cond.fieldLink RX5 30 "WaysKeptModel" "fine" "[I", Cond.constant RX5 57 (10000000), Cond.fieldLink RX5 54 "WaysKeptModel" "lines" "I", Cond.fieldLink RX5 27 "WaysKeptModel" "isThere" "[Z", Cond.fieldLink RX5 13 "WaysKeptModel" "from" "[I", Cond.fieldLink RX5 17 "WaysKeptModel" "to" "[I", Cond.fieldLink RX5 20 "WaysKeptModel" "price" "[I", Cond.fieldLink RX5 23 "WaysKeptModel" "isBoth" "[Z", Cond.methodLink RX5 80 yX5_farOf, Cond.instanceMethod yX5_farOf]
def wsX5_about_r2 : List Cond := [Cond.selects RX5 yX5_farOf yX5_farOf, Cond.code yX5_farOf cX5_farOf 3 (some .int), Cond.methodLink RX5 58 yX5_coarse, Cond.static yX5_coarse, Cond.code yX5_coarse cX5_coarse 2 (some .int)]
def wsX5_about : List Cond := .code yX5_about cX5_about 4 (some .int) :: ((wsX5_about_r1 ++ wsX5_about_r2) ++ wsX50)
def wsX5_ring : List Cond := .code yX5_ring cX5_ring 5 (some .int) :: ([.fieldLink RX5 47 "WaysKeptModel" "thrown" "I", .fieldLink RX5 54 "WaysKeptModel" "lines" "I", .fieldLink RX5 23 "WaysKeptModel" "isBoth" "[Z", .fieldLink RX5 17 "WaysKeptModel" "to" "[I", .fieldLink RX5 13 "WaysKeptModel" "from" "[I", .fieldLink RX5 27 "WaysKeptModel" "isThere" "[Z", .fieldLink RX5 20 "WaysKeptModel" "price" "[I", .methodLink RX5 40 yX5_learn, .instanceMethod yX5_learn, .selects RX5 yX5_learn yX5_learn, .initialized RX5, .code yX5_learn cX5_learn 8 (some .boolean), .fieldLink RX5 30 "WaysKeptModel" "fine" "[I", .constant RX5 57 (10000000), .fieldLink RX5 7 "WaysKeptModel" "posts" "I", .methodLink RX5 80 yX5_farOf, .instanceMethod yX5_farOf, .selects RX5 yX5_farOf yX5_farOf, .code yX5_farOf cX5_farOf 3 (some .int), .methodLink RX5 58 yX5_coarse, .static yX5_coarse, .code yX5_coarse cX5_coarse 2 (some .int)] ++ wsX50)
def wsX5_height_r1 : List Cond := [Cond.fieldLink RX5 47 "WaysKeptModel" "thrown" "I", Cond.methodLink RX5 72 yX5_noPost, Cond.instanceMethod yX5_noPost, Cond.selects RX5 yX5_noPost yX5_noPost, Cond.initialized RX5, Cond.code yX5_noPost cX5_noPost 2 (some .boolean), Cond.fieldLink RX5 7 "WaysKeptModel" "posts" "I", Cond.methodLink RX5 50 yX5_in, Cond.static yX5_in, Cond.code yX5_in cX5_in 6 (some .boolean), Cond.methodLink RX5 40 yX5_learn, Cond.instanceMethod yX5_learn, Cond.selects RX5 yX5_learn yX5_learn, Cond.code yX5_learn cX5_learn 8 (some .boolean), Cond.fieldLink RX5 30 "WaysKeptModel" "fine" "[I", Cond.constant RX5 57 (10000000), Cond.fieldLink RX5 54 "WaysKeptModel" "lines" "I", Cond.fieldLink RX5 27 "WaysKeptModel" "isThere" "[Z", Cond.fieldLink RX5 13 "WaysKeptModel" "from" "[I", Cond.fieldLink RX5 17 "WaysKeptModel" "to" "[I", Cond.fieldLink RX5 20 "WaysKeptModel" "price" "[I", Cond.fieldLink RX5 23 "WaysKeptModel" "isBoth" "[Z", Cond.methodLink RX5 94 yX5_heightOf, Cond.instanceMethod yX5_heightOf]
def wsX5_height_r2 : List Cond := [Cond.selects RX5 yX5_heightOf yX5_heightOf, Cond.code yX5_heightOf cX5_heightOf 4 (some .int), Cond.methodLink RX5 80 yX5_farOf, Cond.instanceMethod yX5_farOf, Cond.selects RX5 yX5_farOf yX5_farOf, Cond.code yX5_farOf cX5_farOf 3 (some .int), Cond.methodLink RX5 58 yX5_coarse, Cond.static yX5_coarse, Cond.code yX5_coarse cX5_coarse 2 (some .int)]
def wsX5_height : List Cond := .code yX5_height cX5_height 2 (some .int) :: ((wsX5_height_r1 ++ wsX5_height_r2) ++ wsX50)
def wsX5_acts : List Cond := .code yX5_acts cX5_acts 1 (some .int) :: ([.fieldLink RX5 47 "WaysKeptModel" "thrown" "I", .fieldLink RX5 62 "WaysKeptModel" "acts" "I"] ++ wsX50)
def wsX5_isMoved : List Cond := .code yX5_isMoved cX5_isMoved 3 (some .boolean) :: ([.fieldLink RX5 7 "WaysKeptModel" "posts" "I", .fieldLink RX5 34 "WaysKeptModel" "kept" "[I"] ++ wsX50)
def wsX5_moved : List Cond := .code yX5_moved cX5_moved 4 (some .int) :: ([.fieldLink RX5 47 "WaysKeptModel" "thrown" "I", .fieldLink RX5 62 "WaysKeptModel" "acts" "I", .methodLink RX5 50 yX5_in, .static yX5_in, .initialized RX5, .code yX5_in cX5_in 6 (some .boolean), .methodLink RX5 103 yX5_isMoved, .instanceMethod yX5_isMoved, .selects RX5 yX5_isMoved yX5_isMoved, .code yX5_isMoved cX5_isMoved 3 (some .boolean), .fieldLink RX5 7 "WaysKeptModel" "posts" "I", .fieldLink RX5 34 "WaysKeptModel" "kept" "[I"] ++ wsX50)
def wsX5_pair : List Cond := .code yX5_pair cX5_pair 5 (some .int) :: ([.fieldLink RX5 47 "WaysKeptModel" "thrown" "I", .fieldLink RX5 62 "WaysKeptModel" "acts" "I", .methodLink RX5 50 yX5_in, .static yX5_in, .initialized RX5, .code yX5_in cX5_in 6 (some .boolean), .methodLink RX5 103 yX5_isMoved, .instanceMethod yX5_isMoved, .selects RX5 yX5_isMoved yX5_isMoved, .code yX5_isMoved cX5_isMoved 3 (some .boolean), .fieldLink RX5 7 "WaysKeptModel" "posts" "I", .fieldLink RX5 34 "WaysKeptModel" "kept" "[I"] ++ wsX50)
def wsX5_then : List Cond := .code yX5_then cX5_then 4 (some .int) :: ([.fieldLink RX5 47 "WaysKeptModel" "thrown" "I", .fieldLink RX5 62 "WaysKeptModel" "acts" "I", .fieldLink RX5 34 "WaysKeptModel" "kept" "[I", .methodLink RX5 72 yX5_noPost, .instanceMethod yX5_noPost, .selects RX5 yX5_noPost yX5_noPost, .initialized RX5, .code yX5_noPost cX5_noPost 2 (some .boolean), .fieldLink RX5 7 "WaysKeptModel" "posts" "I", .methodLink RX5 50 yX5_in, .static yX5_in, .code yX5_in cX5_in 6 (some .boolean)] ++ wsX50)
def wsX5_since : List Cond := .code yX5_since cX5_since 7 (some .int) :: ([.fieldLink RX5 47 "WaysKeptModel" "thrown" "I", .fieldLink RX5 62 "WaysKeptModel" "acts" "I", .constantLong RX5 106 (-500), .constantLong RX5 108 (1000), .fieldLink RX5 34 "WaysKeptModel" "kept" "[I", .methodLink RX5 72 yX5_noPost, .instanceMethod yX5_noPost, .selects RX5 yX5_noPost yX5_noPost, .initialized RX5, .code yX5_noPost cX5_noPost 2 (some .boolean), .fieldLink RX5 7 "WaysKeptModel" "posts" "I", .methodLink RX5 50 yX5_in, .static yX5_in, .code yX5_in cX5_in 6 (some .boolean)] ++ wsX50)
def wsX5_marks : List Cond := .code yX5_marks cX5_marks 3 (some .int) :: ([.fieldLink RX5 47 "WaysKeptModel" "thrown" "I", .fieldLink RX5 7 "WaysKeptModel" "posts" "I", .fieldLink RX5 69 "WaysKeptModel" "marks" "I"] ++ wsX50)
def wsX5_nearOf : List Cond := .code yX5_nearOf cX5_nearOf 6 (some .int) :: ([.fieldLink RX5 7 "WaysKeptModel" "posts" "I", .fieldLink RX5 69 "WaysKeptModel" "marks" "I", .methodLink RX5 80 yX5_farOf, .instanceMethod yX5_farOf, .selects RX5 yX5_farOf yX5_farOf, .initialized RX5, .code yX5_farOf cX5_farOf 3 (some .int), .fieldLink RX5 30 "WaysKeptModel" "fine" "[I", .methodLink RX5 58 yX5_coarse, .static yX5_coarse, .code yX5_coarse cX5_coarse 2 (some .int), .constant RX5 57 (10000000)] ++ wsX50)
def wsX5_near_r1 : List Cond := [Cond.fieldLink RX5 47 "WaysKeptModel" "thrown" "I", Cond.methodLink RX5 72 yX5_noPost, Cond.instanceMethod yX5_noPost, Cond.selects RX5 yX5_noPost yX5_noPost, Cond.initialized RX5, Cond.code yX5_noPost cX5_noPost 2 (some .boolean), Cond.fieldLink RX5 7 "WaysKeptModel" "posts" "I", Cond.methodLink RX5 50 yX5_in, Cond.static yX5_in, Cond.code yX5_in cX5_in 6 (some .boolean), Cond.methodLink RX5 40 yX5_learn, Cond.instanceMethod yX5_learn, Cond.selects RX5 yX5_learn yX5_learn, Cond.code yX5_learn cX5_learn 8 (some .boolean), Cond.fieldLink RX5 30 "WaysKeptModel" "fine" "[I", Cond.constant RX5 57 (10000000), Cond.fieldLink RX5 54 "WaysKeptModel" "lines" "I", Cond.fieldLink RX5 27 "WaysKeptModel" "isThere" "[Z", Cond.fieldLink RX5 13 "WaysKeptModel" "from" "[I", Cond.fieldLink RX5 17 "WaysKeptModel" "to" "[I", Cond.fieldLink RX5 20 "WaysKeptModel" "price" "[I", Cond.fieldLink RX5 23 "WaysKeptModel" "isBoth" "[Z", Cond.methodLink RX5 110 yX5_nearOf, Cond.instanceMethod yX5_nearOf]
def wsX5_near_r2 : List Cond := [Cond.selects RX5 yX5_nearOf yX5_nearOf, Cond.code yX5_nearOf cX5_nearOf 6 (some .int), Cond.fieldLink RX5 69 "WaysKeptModel" "marks" "I", Cond.methodLink RX5 80 yX5_farOf, Cond.instanceMethod yX5_farOf, Cond.selects RX5 yX5_farOf yX5_farOf, Cond.code yX5_farOf cX5_farOf 3 (some .int), Cond.methodLink RX5 58 yX5_coarse, Cond.static yX5_coarse, Cond.code yX5_coarse cX5_coarse 2 (some .int)]
def wsX5_near : List Cond := .code yX5_near cX5_near 3 (some .int) :: ((wsX5_near_r1 ++ wsX5_near_r2) ++ wsX50)
def wsX5_worst_r1 : List Cond := [Cond.fieldLink RX5 47 "WaysKeptModel" "thrown" "I", Cond.fieldLink RX5 7 "WaysKeptModel" "posts" "I", Cond.methodLink RX5 40 yX5_learn, Cond.instanceMethod yX5_learn, Cond.selects RX5 yX5_learn yX5_learn, Cond.initialized RX5, Cond.code yX5_learn cX5_learn 8 (some .boolean), Cond.fieldLink RX5 30 "WaysKeptModel" "fine" "[I", Cond.constant RX5 57 (10000000), Cond.fieldLink RX5 54 "WaysKeptModel" "lines" "I", Cond.fieldLink RX5 27 "WaysKeptModel" "isThere" "[Z", Cond.fieldLink RX5 13 "WaysKeptModel" "from" "[I", Cond.fieldLink RX5 17 "WaysKeptModel" "to" "[I", Cond.fieldLink RX5 20 "WaysKeptModel" "price" "[I", Cond.fieldLink RX5 23 "WaysKeptModel" "isBoth" "[Z", Cond.methodLink RX5 80 yX5_farOf, Cond.instanceMethod yX5_farOf, Cond.selects RX5 yX5_farOf yX5_farOf, Cond.code yX5_farOf cX5_farOf 3 (some .int), Cond.methodLink RX5 58 yX5_coarse, Cond.static yX5_coarse, Cond.code yX5_coarse cX5_coarse 2 (some .int), Cond.methodLink RX5 110 yX5_nearOf, Cond.instanceMethod yX5_nearOf]
def wsX5_worst_r2 : List Cond := [Cond.selects RX5 yX5_nearOf yX5_nearOf, Cond.code yX5_nearOf cX5_nearOf 6 (some .int), Cond.fieldLink RX5 69 "WaysKeptModel" "marks" "I"]
def wsX5_worst : List Cond := .code yX5_worst cX5_worst 4 (some .int) :: ((wsX5_worst_r1 ++ wsX5_worst_r2) ++ wsX50)
def wsX5_bits : List Cond := .code yX5_bits cX5_bits 3 (some .int) :: ([])
def wsX5_hits_r1 : List Cond := [Cond.fieldLink RX5 47 "WaysKeptModel" "thrown" "I", Cond.constantLong RX5 113 (9), Cond.fieldLink RX5 7 "WaysKeptModel" "posts" "I", Cond.fieldLink RX5 30 "WaysKeptModel" "fine" "[I", Cond.constant RX5 57 (10000000), Cond.fieldLink RX5 37 "WaysKeptModel" "inner" "[I", Cond.methodLink RX5 50 yX5_in, Cond.static yX5_in, Cond.initialized RX5, Cond.code yX5_in cX5_in 6 (some .boolean), Cond.methodLink RX5 40 yX5_learn, Cond.instanceMethod yX5_learn, Cond.selects RX5 yX5_learn yX5_learn, Cond.code yX5_learn cX5_learn 8 (some .boolean), Cond.fieldLink RX5 54 "WaysKeptModel" "lines" "I", Cond.fieldLink RX5 27 "WaysKeptModel" "isThere" "[Z", Cond.fieldLink RX5 13 "WaysKeptModel" "from" "[I", Cond.fieldLink RX5 17 "WaysKeptModel" "to" "[I", Cond.fieldLink RX5 20 "WaysKeptModel" "price" "[I", Cond.fieldLink RX5 23 "WaysKeptModel" "isBoth" "[Z", Cond.methodLink RX5 58 yX5_coarse, Cond.static yX5_coarse, Cond.code yX5_coarse cX5_coarse 2 (some .int), Cond.methodLink RX5 97 yX5_nextOf]
def wsX5_hits_r2 : List Cond := [Cond.instanceMethod yX5_nextOf, Cond.selects RX5 yX5_nextOf yX5_nextOf, Cond.code yX5_nextOf cX5_nextOf 5 (some .int), Cond.methodLink RX5 100 yX5_other, Cond.instanceMethod yX5_other, Cond.selects RX5 yX5_other yX5_other, Cond.code yX5_other cX5_other 3 (some .int), Cond.methodLink RX5 115 yX5_bits, Cond.static yX5_bits, Cond.code yX5_bits cX5_bits 3 (some .int)]
def wsX5_hits : List Cond := .code yX5_hits cX5_hits 9 (some .int) :: ((wsX5_hits_r1 ++ wsX5_hits_r2) ++ wsX50)
def wsX5_count_r1 : List Cond := [Cond.fieldLink RX5 47 "WaysKeptModel" "thrown" "I", Cond.fieldLink RX5 7 "WaysKeptModel" "posts" "I", Cond.fieldLink RX5 54 "WaysKeptModel" "lines" "I", Cond.fieldLink RX5 69 "WaysKeptModel" "marks" "I", Cond.methodLink RX5 40 yX5_learn, Cond.instanceMethod yX5_learn, Cond.selects RX5 yX5_learn yX5_learn, Cond.initialized RX5, Cond.code yX5_learn cX5_learn 8 (some .boolean), Cond.fieldLink RX5 30 "WaysKeptModel" "fine" "[I", Cond.constant RX5 57 (10000000), Cond.fieldLink RX5 27 "WaysKeptModel" "isThere" "[Z", Cond.fieldLink RX5 13 "WaysKeptModel" "from" "[I", Cond.fieldLink RX5 17 "WaysKeptModel" "to" "[I", Cond.fieldLink RX5 20 "WaysKeptModel" "price" "[I", Cond.fieldLink RX5 23 "WaysKeptModel" "isBoth" "[Z", Cond.methodLink RX5 80 yX5_farOf, Cond.instanceMethod yX5_farOf, Cond.selects RX5 yX5_farOf yX5_farOf, Cond.code yX5_farOf cX5_farOf 3 (some .int), Cond.methodLink RX5 58 yX5_coarse, Cond.static yX5_coarse, Cond.code yX5_coarse cX5_coarse 2 (some .int), Cond.methodLink RX5 90 yX5_there]
def wsX5_count_r2 : List Cond := [Cond.instanceMethod yX5_there, Cond.selects RX5 yX5_there yX5_there, Cond.code yX5_there cX5_there 3 (some .int), Cond.methodLink RX5 115 yX5_bits, Cond.static yX5_bits, Cond.code yX5_bits cX5_bits 3 (some .int)]
def wsX5_count : List Cond := .code yX5_count cX5_count 5 (some .int) :: ((wsX5_count_r1 ++ wsX5_count_r2) ++ wsX50)
def wsJ9_max_7cf53 : List Cond := .code yJ9_max_7cf53 cJ9_max_7cf53 2 (some .int) :: ([])
def wsJ9_min_7cf53 : List Cond := .code yJ9_min_7cf53 cJ9_min_7cf53 2 (some .int) :: ([])
def wsL_law_r1 : List Cond := [Cond.classLink RL 7 RX4, Cond.instantiable RX4 5, Cond.initialized RX4, Cond.classLink RL 10 RX5, Cond.instantiable RX5 13, Cond.initialized RX5, Cond.methodLink RL 9 yX4_init, Cond.instanceMethod yX4_init, Cond.code yX4_init cX4_init 1 none, Cond.methodLink RX4 3 objectInit, Cond.instanceMethod objectInit, Cond.code objectInit ⟨#[0xb1]⟩ 1 none, Cond.classLink RX4 9 RX1, Cond.instantiable RX1 7, Cond.initialized RX1, Cond.fieldLink RX4 12 "WaysKept" "net" "LWaysKept$Net;", Cond.classLink RX4 16 RX3, Cond.instantiable RX3 3, Cond.initialized RX3, Cond.fieldLink RX4 21 "WaysKept" "ways" "LWaysKept$Ways;", Cond.classLink RX4 25 RX2, Cond.instantiable RX2 2, Cond.initialized RX2, Cond.fieldLink RX4 28 "WaysKept" "past" "LWaysKept$Past;"]
def wsL_law_r2 : List Cond := [Cond.classLink RX4 32 RX0, Cond.instantiable RX0 2, Cond.initialized RX0, Cond.fieldLink RX4 35 "WaysKept" "hitting" "LWaysKept$Hitting;", Cond.instanceMethod yX1_init, Cond.code yX1_init cX1_init 1 none, Cond.methodLink RX1 3 objectInit, Cond.arrayClass .int, Cond.fieldLink RX1 9 "WaysKept$Net" "begins" "[I", Cond.fieldLink RX1 15 "WaysKept$Net" "ends" "[I", Cond.fieldLink RX1 18 "WaysKept$Net" "prices" "[I", Cond.arrayClass .boolean, Cond.fieldLink RX1 21 "WaysKept$Net" "bothWays" "[Z", Cond.fieldLink RX1 25 "WaysKept$Net" "there" "[Z", Cond.methodLink RX4 18 yX3_init, Cond.instanceMethod yX3_init, Cond.code yX3_init cX3_init 2 none, Cond.methodLink RX3 5 objectInit, Cond.fieldLink RX3 11 "WaysKept$Ways" "costs" "[I", Cond.fieldLink RX3 17 "WaysKept$Ways" "reached" "[I", Cond.fieldLink RX3 20 "WaysKept$Ways" "net" "LWaysKept$Net;", Cond.instanceMethod yX2_init, Cond.code yX2_init cX2_init 1 none, Cond.methodLink RX2 3 objectInit]
def wsL_law_r3 : List Cond := [Cond.fieldLink RX2 11 "WaysKept$Past" "fars" "[I", Cond.instanceMethod yX0_init, Cond.code yX0_init cX0_init 1 none, Cond.methodLink RX0 3 objectInit, Cond.fieldLink RX0 9 "WaysKept$Hitting" "asked" "[I", Cond.methodLink RX4 39 yX4_restart, Cond.instanceMethod yX4_restart, Cond.selects RX4 yX4_restart yX4_restart, Cond.code yX4_restart cX4_restart 2 none, Cond.fieldLink RX4 158 "WaysKept" "marked" "I", Cond.methodLink RX4 187 yX1_clear, Cond.instanceMethod yX1_clear, Cond.selects RX1 yX1_clear yX1_clear, Cond.code yX1_clear cX1_clear 2 none, Cond.fieldLink RX1 28 "WaysKept$Net" "posts" "I", Cond.fieldLink RX1 32 "WaysKept$Net" "lines" "I", Cond.methodLink RX4 190 yX2_clear, Cond.instanceMethod yX2_clear, Cond.selects RX2 yX2_clear yX2_clear, Cond.code yX2_clear cX2_clear 1 none, Cond.fieldLink RX2 15 "WaysKept$Past" "rows" "I", Cond.methodLink RX4 70 yX4_keepAct, Cond.instanceMethod yX4_keepAct, Cond.selects RX4 yX4_keepAct yX4_keepAct]
def wsL_law_r4 : List Cond := [Cond.code yX4_keepAct cX4_keepAct 1 none, Cond.methodLink RX4 192 yX3_measure, Cond.instanceMethod yX3_measure, Cond.selects RX3 yX3_measure yX3_measure, Cond.code yX3_measure cX3_measure 2 none, Cond.constant RX3 24 (2147483647), Cond.methodLink RX3 45 arraycopyName, Cond.native arraycopyName, Cond.static arraycopyName, Cond.initialized "java/lang/System", Cond.methodLink RX3 25 yJ7_fill_53178, Cond.static yJ7_fill_53178, Cond.initialized RJ7, Cond.code yJ7_fill_53178 cJ7_fill_53178 4 none, Cond.methodLink RX3 37 yX3_spread, Cond.instanceMethod yX3_spread, Cond.selects RX3 yX3_spread yX3_spread, Cond.code yX3_spread cX3_spread 7 none, Cond.methodLink RX3 115 yX1_touches, Cond.instanceMethod yX1_touches, Cond.selects RX1 yX1_touches yX1_touches, Cond.code yX1_touches cX1_touches 3 (some .boolean), Cond.methodLink RX3 118 yX3_relax, Cond.instanceMethod yX3_relax]
def wsL_law_r5 : List Cond := [Cond.selects RX3 yX3_relax yX3_relax, Cond.code yX3_relax cX3_relax 6 (some .boolean), Cond.methodLink RX3 122 yX3_costOf, Cond.instanceMethod yX3_costOf, Cond.selects RX3 yX3_costOf yX3_costOf, Cond.code yX3_costOf cX3_costOf 2 (some .int), Cond.methodLink RX3 125 yX3_lower, Cond.instanceMethod yX3_lower, Cond.selects RX3 yX3_lower yX3_lower, Cond.code yX3_lower cX3_lower 4 (some .boolean), Cond.static yX4_pairOf, Cond.code yX4_pairOf cX4_pairOf 2 (some .int), Cond.methodLink RX4 195 yX2_keep, Cond.instanceMethod yX2_keep, Cond.selects RX2 yX2_keep yX2_keep, Cond.code yX2_keep cX2_keep 3 none, Cond.methodLink RX2 19 yX2_isFull, Cond.instanceMethod yX2_isFull, Cond.selects RX2 yX2_isFull yX2_isFull, Cond.code yX2_isFull cX2_isFull 1 (some .boolean), Cond.methodLink RX2 23 yX2_makeRoom, Cond.instanceMethod yX2_makeRoom, Cond.selects RX2 yX2_makeRoom yX2_makeRoom, Cond.code yX2_makeRoom cX2_makeRoom 1 none]
def wsL_law_r6 : List Cond := [Cond.constant RX2 39 (40100), Cond.methodLink RX2 40 Lib.Math.min.name, Cond.static Lib.Math.min.name, Cond.initialized "java/lang/Math", Cond.code Lib.Math.min.name Lib.Math.min.code 2 (some .int), Cond.methodLink RX2 45 yJ7_copyOf_59c91, Cond.static yJ7_copyOf_59c91, Cond.code yJ7_copyOf_59c91 cJ7_copyOf_59c91 3 (some (.array .int)), Cond.methodLink RJ7 316 ⟨"[I", "clone", "()Ljava/lang/Object;"⟩, Cond.sameMethod "[I" "java/lang/Object" "clone" "()Ljava/lang/Object;", Cond.native ⟨"java/lang/Object", "clone", "()Ljava/lang/Object;"⟩, Cond.instanceMethod ⟨"java/lang/Object", "clone", "()Ljava/lang/Object;"⟩, Cond.selects "[I" ⟨"[I", "clone", "()Ljava/lang/Object;"⟩ ⟨"java/lang/Object", "clone", "()Ljava/lang/Object;"⟩, Cond.classLink RJ7 317 "[I", Cond.methodLink RJ7 304 Lib.Math.min.name, Cond.methodLink RJ7 150 arraycopyName, Cond.methodLink RX2 26 yX3_leastPrice, Cond.instanceMethod yX3_leastPrice, Cond.selects RX3 yX3_leastPrice yX3_leastPrice, Cond.code yX3_leastPrice cX3_leastPrice 3 (some .int), Cond.methodLink RX3 51 yX3_priceIn, Cond.static yX3_priceIn, Cond.code yX3_priceIn cX3_priceIn 1 (some .int), Cond.methodLink RX3 135 yJ9_floorDiv_7cf53]
def wsL_law_r7 : List Cond := [Cond.static yJ9_floorDiv_7cf53, Cond.initialized RJ9, Cond.code yJ9_floorDiv_7cf53 cJ9_floorDiv_7cf53 3 (some .int), Cond.methodLink RL 12 yX5_init, Cond.instanceMethod yX5_init, Cond.code yX5_init cX5_init 1 none, Cond.methodLink RX5 1 objectInit, Cond.fieldLink RX5 7 "WaysKeptModel" "posts" "I", Cond.fieldLink RX5 13 "WaysKeptModel" "from" "[I", Cond.fieldLink RX5 17 "WaysKeptModel" "to" "[I", Cond.fieldLink RX5 20 "WaysKeptModel" "price" "[I", Cond.fieldLink RX5 23 "WaysKeptModel" "isBoth" "[Z", Cond.fieldLink RX5 27 "WaysKeptModel" "isThere" "[Z", Cond.fieldLink RX5 30 "WaysKeptModel" "fine" "[I", Cond.constant RX5 33 (40100), Cond.fieldLink RX5 34 "WaysKeptModel" "kept" "[I", Cond.fieldLink RX5 37 "WaysKeptModel" "inner" "[I", Cond.methodLink RX5 40 yX5_learn, Cond.instanceMethod yX5_learn, Cond.selects RX5 yX5_learn yX5_learn, Cond.code yX5_learn cX5_learn 8 (some .boolean), Cond.constant RX5 57 (10000000), Cond.fieldLink RX5 54 "WaysKeptModel" "lines" "I", Cond.methodLink RX5 44 yX5_keep]
def wsL_law_r8 : List Cond := [Cond.instanceMethod yX5_keep, Cond.selects RX5 yX5_keep yX5_keep, Cond.code yX5_keep cX5_keep 2 none, Cond.fieldLink RX5 62 "WaysKeptModel" "acts" "I", Cond.methodLink RX5 58 yX5_coarse, Cond.static yX5_coarse, Cond.code yX5_coarse cX5_coarse 2 (some .int), Cond.methodLink RL 13 yX4_posts, Cond.instanceMethod yX4_posts, Cond.selects RX4 yX4_posts yX4_posts, Cond.code yX4_posts cX4_posts 3 (some .int), Cond.methodLink RL 17 yX5_posts, Cond.instanceMethod yX5_posts, Cond.selects RX5 yX5_posts yX5_posts, Cond.code yX5_posts cX5_posts 3 (some .int), Cond.fieldLink RX5 47 "WaysKeptModel" "thrown" "I", Cond.constantLong RX5 65 (2), Cond.constantLong RX5 67 (10), Cond.fieldLink RX5 69 "WaysKeptModel" "marks" "I", Cond.methodLink RX5 50 yX5_in, Cond.static yX5_in, Cond.code yX5_in cX5_in 6 (some .boolean), Cond.methodLink RL 18 yX4_line, Cond.instanceMethod yX4_line]
def wsL_law_r9 : List Cond := [Cond.selects RX4 yX4_line yX4_line, Cond.code yX4_line cX4_line 6 (some .int), Cond.methodLink RX4 47 yX1_hasPosts, Cond.instanceMethod yX1_hasPosts, Cond.selects RX1 yX1_hasPosts yX1_hasPosts, Cond.code yX1_hasPosts cX1_hasPosts 3 (some .boolean), Cond.methodLink RX1 35 yX1_hasPost, Cond.instanceMethod yX1_hasPost, Cond.selects RX1 yX1_hasPost yX1_hasPost, Cond.code yX1_hasPost cX1_hasPost 2 (some .boolean), Cond.methodLink RX4 51 yX4_mayCost, Cond.static yX4_mayCost, Cond.code yX4_mayCost cX4_mayCost 2 (some .boolean), Cond.methodLink RX4 55 yX3_wouldSink, Cond.instanceMethod yX3_wouldSink, Cond.selects RX3 yX3_wouldSink yX3_wouldSink, Cond.code yX3_wouldSink cX3_wouldSink 6 (some .boolean), Cond.methodLink RX3 73 yX3_leastAvoiding, Cond.instanceMethod yX3_leastAvoiding, Cond.selects RX3 yX3_leastAvoiding yX3_leastAvoiding, Cond.code yX3_leastAvoiding cX3_leastAvoiding 5 (some .int), Cond.methodLink RX3 80 yX3_closesBelow, Cond.static yX3_closesBelow, Cond.code yX3_closesBelow cX3_closesBelow 2 (some .boolean)]
def wsL_law_r10 : List Cond := [Cond.methodLink RX4 62 yX2_isFull, Cond.methodLink RX4 66 yX1_add, Cond.instanceMethod yX1_add, Cond.selects RX1 yX1_add yX1_add, Cond.code yX1_add cX1_add 6 (some .int), Cond.methodLink RL 22 yX5_line, Cond.instanceMethod yX5_line, Cond.selects RX5 yX5_line yX5_line, Cond.code yX5_line cX5_line 6 (some .int), Cond.constantLong RX5 76 (-50), Cond.constantLong RX5 78 (99), Cond.methodLink RX5 72 yX5_noPost, Cond.instanceMethod yX5_noPost, Cond.selects RX5 yX5_noPost yX5_noPost, Cond.code yX5_noPost cX5_noPost 2 (some .boolean), Cond.methodLink RX5 80 yX5_farOf, Cond.instanceMethod yX5_farOf, Cond.selects RX5 yX5_farOf yX5_farOf, Cond.code yX5_farOf cX5_farOf 3 (some .int), Cond.methodLink RX5 84 yX5_did, Cond.instanceMethod yX5_did, Cond.selects RX5 yX5_did yX5_did, Cond.code yX5_did cX5_did 1 none, Cond.methodLink RL 23 yX4_price]
def wsL_law_r11 : List Cond := [Cond.instanceMethod yX4_price, Cond.selects RX4 yX4_price yX4_price, Cond.code yX4_price cX4_price 4 (some .int), Cond.methodLink RX4 73 yX1_hasLine, Cond.instanceMethod yX1_hasLine, Cond.selects RX1 yX1_hasLine yX1_hasLine, Cond.code yX1_hasLine cX1_hasLine 2 (some .boolean), Cond.methodLink RX4 88 yX4_wouldSinkAt, Cond.instanceMethod yX4_wouldSinkAt, Cond.selects RX4 yX4_wouldSinkAt yX4_wouldSinkAt, Cond.code yX4_wouldSinkAt cX4_wouldSinkAt 3 (some .boolean), Cond.methodLink RL 27 yX5_price, Cond.instanceMethod yX5_price, Cond.selects RX5 yX5_price yX5_price, Cond.code yX5_price cX5_price 4 (some .int), Cond.methodLink RX5 87 yX5_noLine, Cond.instanceMethod yX5_noLine, Cond.selects RX5 yX5_noLine yX5_noLine, Cond.code yX5_noLine cX5_noLine 2 (some .boolean), Cond.methodLink RL 28 yX4_cut, Cond.instanceMethod yX4_cut, Cond.selects RX4 yX4_cut yX4_cut, Cond.code yX4_cut cX4_cut 2 (some .int), Cond.methodLink RX4 91 yX1_countThere]
def wsL_law_r12 : List Cond := [Cond.instanceMethod yX1_countThere, Cond.selects RX1 yX1_countThere yX1_countThere, Cond.code yX1_countThere cX1_countThere 3 (some .int), Cond.methodLink RL 31 yX5_cut, Cond.instanceMethod yX5_cut, Cond.selects RX5 yX5_cut yX5_cut, Cond.code yX5_cut cX5_cut 2 (some .int), Cond.methodLink RX5 90 yX5_there, Cond.instanceMethod yX5_there, Cond.selects RX5 yX5_there yX5_there, Cond.code yX5_there cX5_there 3 (some .int), Cond.methodLink RL 32 yX4_back, Cond.instanceMethod yX4_back, Cond.selects RX4 yX4_back yX4_back, Cond.code yX4_back cX4_back 2 (some .int), Cond.methodLink RL 35 yX5_back, Cond.instanceMethod yX5_back, Cond.selects RX5 yX5_back yX5_back, Cond.code yX5_back cX5_back 3 (some .int), Cond.methodLink RL 36 yX4_told, Cond.instanceMethod yX4_told, Cond.selects RX4 yX4_told yX4_told, Cond.code yX4_told cX4_told 3 (some .int), Cond.methodLink RX4 101 yX4_asNumber]
def wsL_law_r13 : List Cond := [Cond.static yX4_asNumber, Cond.code yX4_asNumber cX4_asNumber 1 (some .int), Cond.methodLink RX4 105 yX3_lifted, Cond.instanceMethod yX3_lifted, Cond.selects RX3 yX3_lifted yX3_lifted, Cond.code yX3_lifted cX3_lifted 4 (some .int), Cond.methodLink RX3 93 Lib.Math.min.name, Cond.methodLink RX3 102 yX3_heightOf, Cond.instanceMethod yX3_heightOf, Cond.selects RX3 yX3_heightOf yX3_heightOf, Cond.code yX3_heightOf cX3_heightOf 4 (some .int), Cond.methodLink RX3 90 yX3_leads, Cond.instanceMethod yX3_leads, Cond.selects RX3 yX3_leads yX3_leads, Cond.code yX3_leads cX3_leads 3 (some .boolean), Cond.methodLink RX3 77 yX3_leastPrice, Cond.methodLink RL 39 yX5_told, Cond.instanceMethod yX5_told, Cond.selects RX5 yX5_told yX5_told, Cond.code yX5_told cX5_told 4 (some .int), Cond.methodLink RX5 94 yX5_heightOf, Cond.instanceMethod yX5_heightOf, Cond.selects RX5 yX5_heightOf yX5_heightOf, Cond.code yX5_heightOf cX5_heightOf 4 (some .int)]
def wsL_law_r14 : List Cond := [Cond.methodLink RL 40 yX4_far, Cond.instanceMethod yX4_far, Cond.selects RX4 yX4_far yX4_far, Cond.code yX4_far cX4_far 3 (some .int), Cond.methodLink RX4 109 yX3_leastPrice, Cond.methodLink RL 43 yX5_far, Cond.instanceMethod yX5_far, Cond.selects RX5 yX5_far yX5_far, Cond.code yX5_far cX5_far 3 (some .int), Cond.methodLink RL 44 yX4_steps, Cond.instanceMethod yX4_steps, Cond.selects RX4 yX4_steps yX4_steps, Cond.code yX4_steps cX4_steps 3 (some .int), Cond.methodLink RX4 113 yX3_length, Cond.instanceMethod yX3_length, Cond.selects RX3 yX3_length yX3_length, Cond.code yX3_length cX3_length 4 (some .int), Cond.methodLink RX3 55 yJ9_floorMod_7cf53, Cond.static yJ9_floorMod_7cf53, Cond.code yJ9_floorMod_7cf53 cJ9_floorMod_7cf53 3 (some .int), Cond.methodLink RL 47 yX5_steps, Cond.instanceMethod yX5_steps, Cond.selects RX5 yX5_steps yX5_steps, Cond.code yX5_steps cX5_steps 4 (some .int)]
def wsL_law_r15 : List Cond := [Cond.methodLink RL 48 yX4_way, Cond.instanceMethod yX4_way, Cond.selects RX4 yX4_way yX4_way, Cond.code yX4_way cX4_way 4 (some .int), Cond.methodLink RX4 116 yX3_lineAt, Cond.instanceMethod yX3_lineAt, Cond.selects RX3 yX3_lineAt yX3_lineAt, Cond.code yX3_lineAt cX3_lineAt 6 (some .int), Cond.methodLink RX3 60 yX3_length, Cond.methodLink RX3 63 yX3_lineToward, Cond.instanceMethod yX3_lineToward, Cond.selects RX3 yX3_lineToward yX3_lineToward, Cond.code yX3_lineToward cX3_lineToward 6 (some .int), Cond.methodLink RX3 128 yX1_hasPost, Cond.methodLink RX3 66 yX1_target, Cond.instanceMethod yX1_target, Cond.selects RX1 yX1_target yX1_target, Cond.code yX1_target cX1_target 3 (some .int), Cond.methodLink RX1 39 yX1_hasLine, Cond.methodLink RL 52 yX5_way, Cond.instanceMethod yX5_way, Cond.selects RX5 yX5_way yX5_way, Cond.code yX5_way cX5_way 8 (some .int), Cond.methodLink RX5 97 yX5_nextOf]
def wsL_law_r16 : List Cond := [Cond.instanceMethod yX5_nextOf, Cond.selects RX5 yX5_nextOf yX5_nextOf, Cond.code yX5_nextOf cX5_nextOf 5 (some .int), Cond.methodLink RX5 100 yX5_other, Cond.instanceMethod yX5_other, Cond.selects RX5 yX5_other yX5_other, Cond.code yX5_other cX5_other 3 (some .int), Cond.methodLink RL 53 yX4_without, Cond.instanceMethod yX4_without, Cond.selects RX4 yX4_without yX4_without, Cond.code yX4_without cX4_without 4 (some .int), Cond.methodLink RX4 120 yX3_leastAvoiding, Cond.methodLink RL 56 yX5_without, Cond.instanceMethod yX5_without, Cond.selects RX5 yX5_without yX5_without, Cond.code yX5_without cX5_without 4 (some .int), Cond.methodLink RL 57 yX4_vital, Cond.instanceMethod yX4_vital, Cond.selects RX4 yX4_vital yX4_vital, Cond.code yX4_vital cX4_vital 6 (some .int), Cond.methodLink RX4 124 yX3_isVital, Cond.instanceMethod yX3_isVital, Cond.selects RX3 yX3_isVital yX3_isVital, Cond.code yX3_isVital cX3_isVital 4 (some .boolean)]
def wsL_law_r17 : List Cond := [Cond.methodLink RX3 69 yX3_isOnWay, Cond.instanceMethod yX3_isOnWay, Cond.selects RX3 yX3_isOnWay yX3_isOnWay, Cond.code yX3_isOnWay cX3_isOnWay 5 (some .boolean), Cond.methodLink RX3 131 yX3_lineAt, Cond.methodLink RL 60 yX5_vital, Cond.instanceMethod yX5_vital, Cond.selects RX5 yX5_vital yX5_vital, Cond.code yX5_vital cX5_vital 7 (some .int), Cond.methodLink RL 61 yX4_about, Cond.instanceMethod yX4_about, Cond.selects RX4 yX4_about yX4_about, Cond.code yX4_about cX4_about 4 (some .int), Cond.methodLink RX4 128 yX1_hasPost, Cond.methodLink RL 64 yX5_about, Cond.instanceMethod yX5_about, Cond.selects RX5 yX5_about yX5_about, Cond.code yX5_about cX5_about 4 (some .int), Cond.methodLink RL 65 yX4_ring, Cond.instanceMethod yX4_ring, Cond.selects RX4 yX4_ring yX4_ring, Cond.code yX4_ring cX4_ring 1 (some .int), Cond.methodLink RX4 131 yX3_leastRing, Cond.instanceMethod yX3_leastRing]
def wsL_law_r18 : List Cond := [Cond.selects RX3 yX3_leastRing yX3_leastRing, Cond.code yX3_leastRing cX3_leastRing 4 (some .int), Cond.methodLink RX3 87 yX3_ringOver, Cond.instanceMethod yX3_ringOver, Cond.selects RX3 yX3_ringOver yX3_ringOver, Cond.code yX3_ringOver cX3_ringOver 4 (some .int), Cond.methodLink RL 69 yX5_ring, Cond.instanceMethod yX5_ring, Cond.selects RX5 yX5_ring yX5_ring, Cond.code yX5_ring cX5_ring 5 (some .int), Cond.methodLink RL 70 yX4_height, Cond.instanceMethod yX4_height, Cond.selects RX4 yX4_height yX4_height, Cond.code yX4_height cX4_height 2 (some .int), Cond.methodLink RX4 134 yX3_heightOf, Cond.methodLink RL 73 yX5_height, Cond.instanceMethod yX5_height, Cond.selects RX5 yX5_height yX5_height, Cond.code yX5_height cX5_height 2 (some .int), Cond.methodLink RL 74 yX4_acts, Cond.instanceMethod yX4_acts, Cond.selects RX4 yX4_acts yX4_acts, Cond.code yX4_acts cX4_acts 1 (some .int), Cond.methodLink RX4 137 yX2_countActs]
def wsL_law_r19 : List Cond := [Cond.instanceMethod yX2_countActs, Cond.selects RX2 yX2_countActs yX2_countActs, Cond.code yX2_countActs cX2_countActs 1 (some .int), Cond.methodLink RL 77 yX5_acts, Cond.instanceMethod yX5_acts, Cond.selects RX5 yX5_acts yX5_acts, Cond.code yX5_acts cX5_acts 1 (some .int), Cond.methodLink RL 78 yX4_moved, Cond.instanceMethod yX4_moved, Cond.selects RX4 yX4_moved yX4_moved, Cond.code yX4_moved cX4_moved 2 (some .int), Cond.methodLink RX4 140 yX2_hasAct, Cond.instanceMethod yX2_hasAct, Cond.selects RX2 yX2_hasAct yX2_hasAct, Cond.code yX2_hasAct cX2_hasAct 2 (some .boolean), Cond.methodLink RX4 143 yX2_countMoved, Cond.instanceMethod yX2_countMoved, Cond.selects RX2 yX2_countMoved yX2_countMoved, Cond.code yX2_countMoved cX2_countMoved 4 (some .int), Cond.methodLink RX2 32 yX2_isMoved, Cond.instanceMethod yX2_isMoved, Cond.selects RX2 yX2_isMoved yX2_isMoved, Cond.code yX2_isMoved cX2_isMoved 3 (some .boolean), Cond.methodLink RX2 36 yX2_leastAsOf]
def wsL_law_r20 : List Cond := [Cond.instanceMethod yX2_leastAsOf, Cond.selects RX2 yX2_leastAsOf yX2_leastAsOf, Cond.code yX2_leastAsOf cX2_leastAsOf 3 (some .int), Cond.methodLink RL 81 yX5_moved, Cond.instanceMethod yX5_moved, Cond.selects RX5 yX5_moved yX5_moved, Cond.code yX5_moved cX5_moved 4 (some .int), Cond.methodLink RX5 103 yX5_isMoved, Cond.instanceMethod yX5_isMoved, Cond.selects RX5 yX5_isMoved yX5_isMoved, Cond.code yX5_isMoved cX5_isMoved 3 (some .boolean), Cond.methodLink RL 82 yX4_pair, Cond.instanceMethod yX4_pair, Cond.selects RX4 yX4_pair yX4_pair, Cond.code yX4_pair cX4_pair 3 (some .int), Cond.methodLink RX4 146 yX2_movedPair, Cond.instanceMethod yX2_movedPair, Cond.selects RX2 yX2_movedPair yX2_movedPair, Cond.code yX2_movedPair cX2_movedPair 5 (some .int), Cond.methodLink RL 85 yX5_pair, Cond.instanceMethod yX5_pair, Cond.selects RX5 yX5_pair yX5_pair, Cond.code yX5_pair cX5_pair 5 (some .int), Cond.methodLink RL 86 yX4_then]
def wsL_law_r21 : List Cond := [Cond.instanceMethod yX4_then, Cond.selects RX4 yX4_then yX4_then, Cond.code yX4_then cX4_then 4 (some .int), Cond.methodLink RX4 149 yX4_pairOf, Cond.methodLink RX4 152 yX2_leastAsOf, Cond.methodLink RL 89 yX5_then, Cond.instanceMethod yX5_then, Cond.selects RX5 yX5_then yX5_then, Cond.code yX5_then cX5_then 4 (some .int), Cond.methodLink RL 90 yX4_since, Cond.instanceMethod yX4_since, Cond.selects RX4 yX4_since yX4_since, Cond.code yX4_since cX4_since 5 (some .int), Cond.methodLink RX4 155 yX2_firstWithin, Cond.instanceMethod yX2_firstWithin, Cond.selects RX2 yX2_firstWithin yX2_firstWithin, Cond.code yX2_firstWithin cX2_firstWithin 6 (some .int), Cond.methodLink RL 94 yX5_since, Cond.instanceMethod yX5_since, Cond.selects RX5 yX5_since yX5_since, Cond.code yX5_since cX5_since 7 (some .int), Cond.constantLong RX5 106 (-500), Cond.constantLong RX5 108 (1000), Cond.methodLink RL 95 yX4_marks]
def wsL_law_r22 : List Cond := [Cond.instanceMethod yX4_marks, Cond.selects RX4 yX4_marks yX4_marks, Cond.code yX4_marks cX4_marks 3 (some .int), Cond.methodLink RL 98 yX5_marks, Cond.instanceMethod yX5_marks, Cond.selects RX5 yX5_marks yX5_marks, Cond.code yX5_marks cX5_marks 3 (some .int), Cond.methodLink RL 99 yX4_near, Cond.instanceMethod yX4_near, Cond.selects RX4 yX4_near yX4_near, Cond.code yX4_near cX4_near 3 (some .int), Cond.methodLink RX4 161 yX3_leastThrough, Cond.instanceMethod yX3_leastThrough, Cond.selects RX3 yX3_leastThrough yX3_leastThrough, Cond.code yX3_leastThrough cX3_leastThrough 7 (some .int), Cond.methodLink RL 102 yX5_near, Cond.instanceMethod yX5_near, Cond.selects RX5 yX5_near yX5_near, Cond.code yX5_near cX5_near 3 (some .int), Cond.methodLink RX5 110 yX5_nearOf, Cond.instanceMethod yX5_nearOf, Cond.selects RX5 yX5_nearOf yX5_nearOf, Cond.code yX5_nearOf cX5_nearOf 6 (some .int), Cond.methodLink RL 103 yX4_worst]
def wsL_law_r23 : List Cond := [Cond.instanceMethod yX4_worst, Cond.selects RX4 yX4_worst yX4_worst, Cond.code yX4_worst cX4_worst 5 (some .int), Cond.methodLink RX4 167 Lib.Math.max.name, Cond.static Lib.Math.max.name, Cond.code Lib.Math.max.name Lib.Math.max.code 2 (some .int), Cond.methodLink RX4 164 yX3_leads, Cond.methodLink RL 106 yX5_worst, Cond.instanceMethod yX5_worst, Cond.selects RX5 yX5_worst yX5_worst, Cond.code yX5_worst cX5_worst 4 (some .int), Cond.methodLink RL 107 yX4_hits, Cond.instanceMethod yX4_hits, Cond.selects RX4 yX4_hits yX4_hits, Cond.code yX4_hits cX4_hits 2 (some .int), Cond.methodLink RX4 172 yX0_askFor, Cond.instanceMethod yX0_askFor, Cond.selects RX0 yX0_askFor yX0_askFor, Cond.code yX0_askFor cX0_askFor 6 none, Cond.fieldLink RX0 15 "WaysKept$Hitting" "size" "I", Cond.methodLink RX0 19 yX3_length, Cond.methodLink RX0 25 yX3_between, Cond.instanceMethod yX3_between, Cond.selects RX3 yX3_between yX3_between]
def wsL_law_r24 : List Cond := [Cond.code yX3_between cX3_between 6 (some .int), Cond.methodLink RX4 176 yX0_fewest, Cond.instanceMethod yX0_fewest, Cond.selects RX0 yX0_fewest yX0_fewest, Cond.code yX0_fewest cX0_fewest 6 (some .int), Cond.methodLink RX0 28 yJ6_bitCount_0f7a4, Cond.static yJ6_bitCount_0f7a4, Cond.initialized RJ6, Cond.code yJ6_bitCount_0f7a4 cJ6_bitCount_0f7a4 1 (some .int), Cond.constant RJ6 265 (1431655765), Cond.constant RJ6 266 (858993459), Cond.constant RJ6 267 (252645135), Cond.methodLink RX0 34 yX0_meetsAll, Cond.instanceMethod yX0_meetsAll, Cond.selects RX0 yX0_meetsAll yX0_meetsAll, Cond.code yX0_meetsAll cX0_meetsAll 3 (some .boolean), Cond.methodLink RL 110 yX5_hits, Cond.instanceMethod yX5_hits, Cond.selects RX5 yX5_hits yX5_hits, Cond.code yX5_hits cX5_hits 9 (some .int), Cond.constantLong RX5 113 (9), Cond.methodLink RX5 115 yX5_bits, Cond.static yX5_bits, Cond.code yX5_bits cX5_bits 3 (some .int)]
def wsL_law_r25 : List Cond := [Cond.methodLink RL 111 yX4_count, Cond.instanceMethod yX4_count, Cond.selects RX4 yX4_count yX4_count, Cond.code yX4_count cX4_count 2 (some .int), Cond.methodLink RX4 179 yX3_countLinked, Cond.instanceMethod yX3_countLinked, Cond.selects RX3 yX3_countLinked yX3_countLinked, Cond.code yX3_countLinked cX3_countLinked 4 (some .int), Cond.methodLink RX4 182 yJ6_bitCount_0f7a4, Cond.methodLink RL 114 yX5_count, Cond.instanceMethod yX5_count, Cond.selects RX5 yX5_count yX5_count, Cond.code yX5_count cX5_count 5 (some .int)]
def wsL_law : List Cond := (wsL_law_r1 ++ (wsL_law_r2 ++ (wsL_law_r3 ++ (wsL_law_r4 ++ (wsL_law_r5 ++ (wsL_law_r6 ++ (wsL_law_r7 ++ (wsL_law_r8 ++ (wsL_law_r9 ++ (wsL_law_r10 ++ (wsL_law_r11 ++ (wsL_law_r12 ++ (wsL_law_r13 ++ (wsL_law_r14 ++ (wsL_law_r15 ++ (wsL_law_r16 ++ (wsL_law_r17 ++ (wsL_law_r18 ++ (wsL_law_r19 ++ (wsL_law_r20 ++ (wsL_law_r21 ++ (wsL_law_r22 ++ (wsL_law_r23 ++ (wsL_law_r24 ++ wsL_law_r25)))))))))))))))))))))))) ++ wsX40 ++ wsX50 ++ wsX10 ++ wsX30 ++ wsX20 ++ wsX00 ++ ([] : List Cond)
set_option maxRecDepth 100000 in
theorem wsLi_1 : ∀ w ∈ wsL_law_r1, w ∈ lw_tbl := by
  have h : wsL_law_r1 = [36, 37, 26, 495, 496, 34, 38, 39, 40, 41, 42, 43, 44, 45, 27, 218, 88, 89, 28, 219, 104, 105, 29, 220].filterMap (fun i => lw_tbl[i]?) := rfl
  intro w hw
  rw [h] at hw
  obtain ⟨i, -, hi⟩ := List.mem_filterMap.mp hw
  exact List.mem_of_getElem? hi
set_option maxRecDepth 100000 in
theorem wsLi_2 : ∀ w ∈ wsL_law_r2, w ∈ lw_tbl := by
  have h : wsL_law_r2 = [117, 118, 30, 221, 47, 48, 49, 86, 50, 53, 56, 87, 59, 62, 90, 91, 92, 93, 95, 96, 94, 107, 108, 109].filterMap (fun i => lw_tbl[i]?) := rfl
  intro w hw
  rw [h] at hw
  obtain ⟨i, -, hi⟩ := List.mem_filterMap.mp hw
  exact List.mem_of_getElem? hi
set_option maxRecDepth 100000 in
theorem wsLi_3 : ∀ w ∈ wsL_law_r3, w ∈ lw_tbl := by
  have h : wsL_law_r3 = [110, 120, 121, 122, 123, 130, 132, 0, 133, 222, 134, 135, 136, 137, 65, 68, 138, 139, 140, 141, 111, 142, 144, 1].filterMap (fun i => lw_tbl[i]?) := rfl
  intro w hw
  rw [h] at hw
  obtain ⟨i, -, hi⟩ := List.mem_filterMap.mp hw
  exact List.mem_of_getElem? hi
set_option maxRecDepth 100000 in
theorem wsLi_4 : ∀ w ∈ wsL_law_r4, w ∈ lw_tbl := by
  have h : wsL_law_r4 = [145, 146, 147, 148, 149, 150, 177, 179, 178, 32, 151, 152, 31, 153, 154, 156, 2, 157, 158, 159, 160, 161, 162, 164].filterMap (fun i => lw_tbl[i]?) := rfl
  intro w hw
  rw [h] at hw
  obtain ⟨i, -, hi⟩ := List.mem_filterMap.mp hw
  exact List.mem_of_getElem? hi
set_option maxRecDepth 100000 in
theorem wsLi_5 : ∀ w ∈ wsL_law_r5, w ∈ lw_tbl := by
  have h : wsL_law_r5 = [3, 165, 166, 168, 4, 169, 170, 172, 5, 173, 175, 176, 180, 181, 182, 183, 184, 185, 186, 187, 188, 190, 6, 191].filterMap (fun i => lw_tbl[i]?) := rfl
  intro w hw
  rw [h] at hw
  obtain ⟨i, -, hi⟩ := List.mem_filterMap.mp hw
  exact List.mem_of_getElem? hi
set_option maxRecDepth 100000 in
theorem wsLi_6 : ∀ w ∈ wsL_law_r6, w ∈ lw_tbl := by
  have h : wsL_law_r6 = [192, 193, 194, 33, 195, 196, 197, 198, 199, 200, 201, 202, 203, 205, 206, 207, 208, 209, 210, 211, 212, 213, 214, 215].filterMap (fun i => lw_tbl[i]?) := rfl
  intro w hw
  rw [h] at hw
  obtain ⟨i, -, hi⟩ := List.mem_filterMap.mp hw
  exact List.mem_of_getElem? hi
set_option maxRecDepth 100000 in
theorem wsLi_7 : ∀ w ∈ wsL_law_r7, w ∈ lw_tbl := by
  have h : wsL_law_r7 = [216, 33, 217, 497, 498, 499, 500, 515, 517, 518, 519, 520, 521, 522, 501, 523, 526, 502, 504, 13, 505, 506, 516, 507].filterMap (fun i => lw_tbl[i]?) := rfl
  intro w hw
  rw [h] at hw
  obtain ⟨i, -, hi⟩ := List.mem_filterMap.mp hw
  exact List.mem_of_getElem? hi
set_option maxRecDepth 100000 in
theorem wsLi_8 : ∀ w ∈ wsL_law_r8, w ∈ lw_tbl := by
  have h : wsL_law_r8 = [509, 14, 510, 524, 511, 512, 513, 234, 235, 236, 237, 554, 555, 556, 557, 514, 558, 559, 525, 560, 561, 562, 238, 239].filterMap (fun i => lw_tbl[i]?) := rfl
  intro w hw
  rw [h] at hw
  obtain ⟨i, -, hi⟩ := List.mem_filterMap.mp hw
  exact List.mem_of_getElem? hi
set_option maxRecDepth 100000 in
theorem wsLi_9 : ∀ w ∈ wsL_law_r9, w ∈ lw_tbl := by
  have h : wsL_law_r9 = [240, 241, 242, 243, 244, 245, 246, 247, 248, 249, 250, 251, 252, 253, 254, 255, 256, 257, 258, 259, 260, 261, 262, 263].filterMap (fun i => lw_tbl[i]?) := rfl
  intro w hw
  rw [h] at hw
  obtain ⟨i, -, hi⟩ := List.mem_filterMap.mp hw
  exact List.mem_of_getElem? hi
set_option maxRecDepth 100000 in
theorem wsLi_10 : ∀ w ∈ wsL_law_r10, w ∈ lw_tbl := by
  have h : wsL_law_r10 = [264, 265, 266, 267, 268, 563, 564, 565, 566, 571, 572, 567, 569, 15, 570, 573, 575, 16, 576, 577, 579, 17, 580, 269].filterMap (fun i => lw_tbl[i]?) := rfl
  intro w hw
  rw [h] at hw
  obtain ⟨i, -, hi⟩ := List.mem_filterMap.mp hw
  exact List.mem_of_getElem? hi
set_option maxRecDepth 100000 in
theorem wsLi_11 : ∀ w ∈ wsL_law_r11, w ∈ lw_tbl := by
  have h : wsL_law_r11 = [270, 271, 272, 273, 274, 275, 276, 277, 279, 7, 280, 581, 582, 583, 584, 585, 587, 18, 588, 281, 282, 283, 284, 285].filterMap (fun i => lw_tbl[i]?) := rfl
  intro w hw
  rw [h] at hw
  obtain ⟨i, -, hi⟩ := List.mem_filterMap.mp hw
  exact List.mem_of_getElem? hi
set_option maxRecDepth 100000 in
theorem wsLi_12 : ∀ w ∈ wsL_law_r12, w ∈ lw_tbl := by
  have h : wsL_law_r12 = [286, 287, 288, 589, 590, 591, 592, 593, 595, 19, 596, 289, 290, 291, 292, 597, 598, 599, 600, 293, 294, 295, 296, 297].filterMap (fun i => lw_tbl[i]?) := rfl
  intro w hw
  rw [h] at hw
  obtain ⟨i, -, hi⟩ := List.mem_filterMap.mp hw
  exact List.mem_of_getElem? hi
set_option maxRecDepth 100000 in
theorem wsLi_13 : ∀ w ∈ wsL_law_r13, w ∈ lw_tbl := by
  have h : wsL_law_r13 = [298, 299, 300, 301, 302, 303, 313, 304, 305, 306, 307, 308, 309, 310, 311, 312, 601, 602, 603, 604, 605, 607, 20, 608].filterMap (fun i => lw_tbl[i]?) := rfl
  intro w hw
  rw [h] at hw
  obtain ⟨i, -, hi⟩ := List.mem_filterMap.mp hw
  exact List.mem_of_getElem? hi
set_option maxRecDepth 100000 in
theorem wsLi_14 : ∀ w ∈ wsL_law_r14, w ∈ lw_tbl := by
  have h : wsL_law_r14 = [314, 315, 316, 317, 318, 609, 610, 611, 612, 319, 320, 321, 322, 323, 324, 325, 326, 327, 328, 329, 613, 614, 615, 616].filterMap (fun i => lw_tbl[i]?) := rfl
  intro w hw
  rw [h] at hw
  obtain ⟨i, -, hi⟩ := List.mem_filterMap.mp hw
  exact List.mem_of_getElem? hi
set_option maxRecDepth 100000 in
theorem wsLi_15 : ∀ w ∈ wsL_law_r15, w ∈ lw_tbl := by
  have h : wsL_law_r15 = [330, 331, 332, 333, 334, 335, 336, 337, 338, 339, 341, 8, 342, 343, 344, 345, 346, 347, 348, 617, 618, 619, 620, 621].filterMap (fun i => lw_tbl[i]?) := rfl
  intro w hw
  rw [h] at hw
  obtain ⟨i, -, hi⟩ := List.mem_filterMap.mp hw
  exact List.mem_of_getElem? hi
set_option maxRecDepth 100000 in
theorem wsLi_16 : ∀ w ∈ wsL_law_r16, w ∈ lw_tbl := by
  have h : wsL_law_r16 = [623, 21, 624, 625, 627, 22, 628, 349, 350, 351, 352, 353, 629, 630, 631, 632, 354, 355, 356, 357, 358, 359, 360, 361].filterMap (fun i => lw_tbl[i]?) := rfl
  intro w hw
  rw [h] at hw
  obtain ⟨i, -, hi⟩ := List.mem_filterMap.mp hw
  exact List.mem_of_getElem? hi
set_option maxRecDepth 100000 in
theorem wsLi_17 : ∀ w ∈ wsL_law_r17, w ∈ lw_tbl := by
  have h : wsL_law_r17 = [362, 364, 9, 365, 366, 633, 634, 635, 636, 367, 368, 369, 370, 371, 637, 638, 639, 640, 372, 373, 374, 375, 376, 377].filterMap (fun i => lw_tbl[i]?) := rfl
  intro w hw
  rw [h] at hw
  obtain ⟨i, -, hi⟩ := List.mem_filterMap.mp hw
  exact List.mem_of_getElem? hi
set_option maxRecDepth 100000 in
theorem wsLi_18 : ∀ w ∈ wsL_law_r18, w ∈ lw_tbl := by
  have h : wsL_law_r18 = [378, 379, 380, 382, 10, 383, 641, 642, 643, 644, 384, 385, 386, 387, 388, 645, 646, 647, 648, 389, 390, 391, 392, 393].filterMap (fun i => lw_tbl[i]?) := rfl
  intro w hw
  rw [h] at hw
  obtain ⟨i, -, hi⟩ := List.mem_filterMap.mp hw
  exact List.mem_of_getElem? hi
set_option maxRecDepth 100000 in
theorem wsLi_19 : ∀ w ∈ wsL_law_r19, w ∈ lw_tbl := by
  have h : wsL_law_r19 = [394, 395, 396, 649, 650, 651, 652, 397, 398, 399, 400, 401, 402, 403, 404, 405, 406, 407, 408, 409, 411, 11, 412, 413].filterMap (fun i => lw_tbl[i]?) := rfl
  intro w hw
  rw [h] at hw
  obtain ⟨i, -, hi⟩ := List.mem_filterMap.mp hw
  exact List.mem_of_getElem? hi
set_option maxRecDepth 100000 in
theorem wsLi_20 : ∀ w ∈ wsL_law_r20, w ∈ lw_tbl := by
  have h : wsL_law_r20 = [414, 415, 416, 653, 654, 655, 656, 657, 659, 23, 660, 417, 418, 419, 420, 421, 422, 423, 424, 661, 662, 663, 664, 425].filterMap (fun i => lw_tbl[i]?) := rfl
  intro w hw
  rw [h] at hw
  obtain ⟨i, -, hi⟩ := List.mem_filterMap.mp hw
  exact List.mem_of_getElem? hi
set_option maxRecDepth 100000 in
theorem wsLi_21 : ∀ w ∈ wsL_law_r21, w ∈ lw_tbl := by
  have h : wsL_law_r21 = [426, 427, 428, 429, 430, 665, 666, 667, 668, 431, 432, 433, 434, 435, 436, 437, 438, 669, 670, 671, 672, 673, 674, 439].filterMap (fun i => lw_tbl[i]?) := rfl
  intro w hw
  rw [h] at hw
  obtain ⟨i, -, hi⟩ := List.mem_filterMap.mp hw
  exact List.mem_of_getElem? hi
set_option maxRecDepth 100000 in
theorem wsLi_22 : ∀ w ∈ wsL_law_r22, w ∈ lw_tbl := by
  have h : wsL_law_r22 = [440, 441, 442, 675, 676, 677, 678, 443, 444, 445, 446, 447, 448, 449, 450, 679, 680, 681, 682, 683, 685, 24, 686, 451].filterMap (fun i => lw_tbl[i]?) := rfl
  intro w hw
  rw [h] at hw
  obtain ⟨i, -, hi⟩ := List.mem_filterMap.mp hw
  exact List.mem_of_getElem? hi
set_option maxRecDepth 100000 in
theorem wsLi_23 : ∀ w ∈ wsL_law_r23, w ∈ lw_tbl := by
  have h : wsL_law_r23 = [452, 453, 454, 456, 457, 458, 455, 687, 688, 689, 690, 459, 460, 461, 462, 463, 464, 465, 466, 124, 467, 468, 469, 470].filterMap (fun i => lw_tbl[i]?) := rfl
  intro w hw
  rw [h] at hw
  obtain ⟨i, -, hi⟩ := List.mem_filterMap.mp hw
  exact List.mem_of_getElem? hi
set_option maxRecDepth 100000 in
theorem wsLi_24 : ∀ w ∈ wsL_law_r24, w ∈ lw_tbl := by
  have h : wsL_law_r24 = [471, 472, 473, 474, 475, 476, 477, 35, 478, 479, 480, 481, 482, 484, 12, 485, 691, 692, 693, 694, 695, 696, 697, 698].filterMap (fun i => lw_tbl[i]?) := rfl
  intro w hw
  rw [h] at hw
  obtain ⟨i, -, hi⟩ := List.mem_filterMap.mp hw
  exact List.mem_of_getElem? hi
set_option maxRecDepth 100000 in
theorem wsLi_25 : ∀ w ∈ wsL_law_r25, w ∈ lw_tbl := by
  have h : wsL_law_r25 = [486, 487, 488, 489, 490, 491, 492, 493, 494, 699, 700, 701, 702].filterMap (fun i => lw_tbl[i]?) := rfl
  intro w hw
  rw [h] at hw
  obtain ⟨i, -, hi⟩ := List.mem_filterMap.mp hw
  exact List.mem_of_getElem? hi
theorem wsLu_wsX40 : ∀ w ∈ wsX40, w ∈ lw_tbl := by decide +kernel
theorem wsLu_wsX50 : ∀ w ∈ wsX50, w ∈ lw_tbl := by decide +kernel
theorem wsLu_wsX10 : ∀ w ∈ wsX10, w ∈ lw_tbl := by decide +kernel
theorem wsLu_wsX30 : ∀ w ∈ wsX30, w ∈ lw_tbl := by decide +kernel
theorem wsLu_wsX20 : ∀ w ∈ wsX20, w ∈ lw_tbl := by decide +kernel
theorem wsLu_wsX00 : ∀ w ∈ wsX00, w ∈ lw_tbl := by decide +kernel
theorem wsL_law_in : ∀ w ∈ wsL_law, w ∈ lw_tbl := List.forall_mem_append.mpr ⟨List.forall_mem_append.mpr ⟨List.forall_mem_append.mpr ⟨List.forall_mem_append.mpr ⟨List.forall_mem_append.mpr ⟨List.forall_mem_append.mpr ⟨List.forall_mem_append.mpr ⟨List.forall_mem_append.mpr ⟨wsLi_1, List.forall_mem_append.mpr ⟨wsLi_2, List.forall_mem_append.mpr ⟨wsLi_3, List.forall_mem_append.mpr ⟨wsLi_4, List.forall_mem_append.mpr ⟨wsLi_5, List.forall_mem_append.mpr ⟨wsLi_6, List.forall_mem_append.mpr ⟨wsLi_7, List.forall_mem_append.mpr ⟨wsLi_8, List.forall_mem_append.mpr ⟨wsLi_9, List.forall_mem_append.mpr ⟨wsLi_10, List.forall_mem_append.mpr ⟨wsLi_11, List.forall_mem_append.mpr ⟨wsLi_12, List.forall_mem_append.mpr ⟨wsLi_13, List.forall_mem_append.mpr ⟨wsLi_14, List.forall_mem_append.mpr ⟨wsLi_15, List.forall_mem_append.mpr ⟨wsLi_16, List.forall_mem_append.mpr ⟨wsLi_17, List.forall_mem_append.mpr ⟨wsLi_18, List.forall_mem_append.mpr ⟨wsLi_19, List.forall_mem_append.mpr ⟨wsLi_20, List.forall_mem_append.mpr ⟨wsLi_21, List.forall_mem_append.mpr ⟨wsLi_22, List.forall_mem_append.mpr ⟨wsLi_23, List.forall_mem_append.mpr ⟨wsLi_24, wsLi_25⟩⟩⟩⟩⟩⟩⟩⟩⟩⟩⟩⟩⟩⟩⟩⟩⟩⟩⟩⟩⟩⟩⟩⟩, wsLu_wsX40⟩, wsLu_wsX50⟩, wsLu_wsX10⟩, wsLu_wsX30⟩, wsLu_wsX20⟩, wsLu_wsX00⟩, fun _ h => absurd h List.not_mem_nil⟩
theorem inlX0 : ∀ w ∈ wsX00, w ∈ wsL_law := fun _ h => List.mem_append_left _ (List.mem_append_right _ h)
theorem inX0 : ∀ w ∈ wsX00, w ∈ lw_tbl := fun w h => wsL_law_in w (inlX0 w h)
theorem inlX1 : ∀ w ∈ wsX10, w ∈ wsL_law := fun _ h => List.mem_append_left _ (List.mem_append_left _ (List.mem_append_left _ (List.mem_append_left _ (List.mem_append_right _ h))))
theorem inX1 : ∀ w ∈ wsX10, w ∈ lw_tbl := fun w h => wsL_law_in w (inlX1 w h)
theorem inlX2 : ∀ w ∈ wsX20, w ∈ wsL_law := fun _ h => List.mem_append_left _ (List.mem_append_left _ (List.mem_append_right _ h))
theorem inX2 : ∀ w ∈ wsX20, w ∈ lw_tbl := fun w h => wsL_law_in w (inlX2 w h)
theorem inlX3 : ∀ w ∈ wsX30, w ∈ wsL_law := fun _ h => List.mem_append_left _ (List.mem_append_left _ (List.mem_append_left _ (List.mem_append_right _ h)))
theorem inX3 : ∀ w ∈ wsX30, w ∈ lw_tbl := fun w h => wsL_law_in w (inlX3 w h)
theorem inlX4 : ∀ w ∈ wsX40, w ∈ wsL_law := fun _ h => List.mem_append_left _ (List.mem_append_left _ (List.mem_append_left _ (List.mem_append_left _ (List.mem_append_left _ (List.mem_append_left _ (List.mem_append_right _ h))))))
theorem inX4 : ∀ w ∈ wsX40, w ∈ lw_tbl := fun w h => wsL_law_in w (inlX4 w h)
theorem inlX5 : ∀ w ∈ wsX50, w ∈ wsL_law := fun _ h => List.mem_append_left _ (List.mem_append_left _ (List.mem_append_left _ (List.mem_append_left _ (List.mem_append_left _ (List.mem_append_right _ h)))))
theorem inX5 : ∀ w ∈ wsX50, w ∈ lw_tbl := fun w h => wsL_law_in w (inlX5 w h)
theorem inJx8e188 : ∀ w ∈ wsJx8e1880, w ∈ lw_tbl := by decide +kernel
theorem inJ6 : ∀ w ∈ wsJ60, w ∈ lw_tbl := by decide +kernel
theorem inJ9 : ∀ w ∈ wsJ90, w ∈ lw_tbl := by decide +kernel
theorem inJ10 : ∀ w ∈ wsJ100, w ∈ lw_tbl := by decide +kernel
theorem inJ7 : ∀ w ∈ wsJ70, w ∈ lw_tbl := by decide +kernel
abbrev vwCl : List vw_C := [(RX0, TX0, 2), (RX1, TX1, 7), (RX2, TX2, 2), (RX3, TX3, 3), (RX4, TX4, 5), (RX5, TX5, 13)]
end
section
set_option maxRecDepth 200000 in
theorem ggX0_askFor_X3_length : GoodIn wsX0_askFor wsX3_length := goodIn_r _ [7, 8, 9, 10, 11, 12, 13, 14, 15, 16, 56, 57, 58] rfl rfl
set_option maxRecDepth 200000 in
theorem gX0_askFor_X3_length : GoodIn wsX0_askFor (wsV RX0 19 RX3 yX3_length wsX3_length) := goodIn_app (goodIn_r _ [3, 4, 5, 6] rfl rfl) ggX0_askFor_X3_length
set_option maxRecDepth 200000 in
theorem ggX0_askFor_X3_between : GoodIn wsX0_askFor wsX3_between := goodIn_r _ [20, 21, 22, 4, 5, 6, 7, 8, 9, 10, 11, 12, 13, 14, 15, 16, 23, 24, 25, 26, 27, 28, 29, 30, 31, 32, 33, 34, 35, 36, 37, 38, 39, 40, 41, 42, 43, 44, 45, 46, 47, 48, 49, 50, 51, 52, 53, 56, 57, 58, 59, 60, 61, 62, 63, 64, 65] rfl rfl
set_option maxRecDepth 200000 in
theorem gX0_askFor_X3_between : GoodIn wsX0_askFor (wsV RX0 25 RX3 yX3_between wsX3_between) := goodIn_app (goodIn_r _ [17, 18, 19, 6] rfl rfl) ggX0_askFor_X3_between
set_option maxRecDepth 200000 in
theorem ggX0_fewest_J6_bitCount_0f7a4 : GoodIn wsX0_fewest wsJ6_bitCount_0f7a4 := goodIn_r _ [4, 5, 6, 7] rfl rfl
set_option maxRecDepth 200000 in
theorem gX0_fewest_J6_bitCount_0f7a4 : GoodIn wsX0_fewest (va_wsS RX0 28 yJ6_bitCount_0f7a4 wsJ6_bitCount_0f7a4) := goodIn_app (goodIn_r _ [1, 2, 3] rfl rfl) ggX0_fewest_J6_bitCount_0f7a4
set_option maxRecDepth 200000 in
theorem ggX0_fewest_X0_meetsAll : GoodIn wsX0_fewest wsX0_meetsAll := goodIn_r _ [12, 13, 14, 15, 16] rfl rfl
set_option maxRecDepth 200000 in
theorem gX0_fewest_X0_meetsAll : GoodIn wsX0_fewest (wsV RX0 34 RX0 yX0_meetsAll wsX0_meetsAll) := goodIn_app (goodIn_r _ [8, 9, 10, 11] rfl rfl) ggX0_fewest_X0_meetsAll
set_option maxRecDepth 200000 in
theorem ggX1_hasPosts_X1_hasPost : GoodIn wsX1_hasPosts wsX1_hasPost := goodIn_r _ [5, 6, 7, 8, 9, 10, 11, 12, 13] rfl rfl
set_option maxRecDepth 200000 in
theorem gX1_hasPosts_X1_hasPost : GoodIn wsX1_hasPosts (wsV RX1 35 RX1 yX1_hasPost wsX1_hasPost) := goodIn_app (goodIn_r _ [1, 2, 3, 4] rfl rfl) ggX1_hasPosts_X1_hasPost
set_option maxRecDepth 200000 in
theorem ggX1_target_X1_hasLine : GoodIn wsX1_target wsX1_hasLine := goodIn_r _ [9, 10, 11, 12, 13, 14, 15, 16, 17] rfl rfl
set_option maxRecDepth 200000 in
theorem gX1_target_X1_hasLine : GoodIn wsX1_target (wsV RX1 39 RX1 yX1_hasLine wsX1_hasLine) := goodIn_app (goodIn_r _ [5, 6, 7, 8] rfl rfl) ggX1_target_X1_hasLine
set_option maxRecDepth 200000 in
theorem ggX2_keep_X2_isFull : GoodIn wsX2_keep wsX2_isFull := goodIn_r _ [7, 2, 50, 51] rfl rfl
set_option maxRecDepth 200000 in
theorem gX2_keep_X2_isFull : GoodIn wsX2_keep (wsV RX2 19 RX2 yX2_isFull wsX2_isFull) := goodIn_app (goodIn_r _ [3, 4, 5, 6] rfl rfl) ggX2_keep_X2_isFull
set_option maxRecDepth 200000 in
theorem ggX2_keep_X2_makeRoom : GoodIn wsX2_keep wsX2_makeRoom := goodIn_r _ [11, 2, 1, 12, 13, 14, 15, 16, 17, 18, 19, 20, 21, 22, 23, 24, 25, 26, 27, 28, 29, 30, 31, 32, 50, 51] rfl rfl
set_option maxRecDepth 200000 in
theorem gX2_keep_X2_makeRoom : GoodIn wsX2_keep (wsV RX2 23 RX2 yX2_makeRoom wsX2_makeRoom) := goodIn_app (goodIn_r _ [8, 9, 10, 6] rfl rfl) ggX2_keep_X2_makeRoom
set_option maxRecDepth 200000 in
theorem ggX2_keep_X3_leastPrice : GoodIn wsX2_keep wsX3_leastPrice := goodIn_r _ [37, 38, 39, 40, 41, 42, 43, 36, 44, 45, 46, 47, 48, 49, 52, 53, 54] rfl rfl
set_option maxRecDepth 200000 in
theorem gX2_keep_X3_leastPrice : GoodIn wsX2_keep (wsV RX2 26 RX3 yX3_leastPrice wsX3_leastPrice) := goodIn_app (goodIn_r _ [33, 34, 35, 36] rfl rfl) ggX2_keep_X3_leastPrice
set_option maxRecDepth 200000 in
theorem ggX2_countMoved_X2_isMoved : GoodIn wsX2_countMoved wsX2_isMoved := goodIn_r _ [5, 6, 7, 8, 4, 9, 10, 11, 12] rfl rfl
set_option maxRecDepth 200000 in
theorem gX2_countMoved_X2_isMoved : GoodIn wsX2_countMoved (wsV RX2 32 RX2 yX2_isMoved wsX2_isMoved) := goodIn_app (goodIn_r _ [1, 2, 3, 4] rfl rfl) ggX2_countMoved_X2_isMoved
set_option maxRecDepth 200000 in
theorem ggX2_movedPair_X2_isMoved : GoodIn wsX2_movedPair wsX2_isMoved := goodIn_r _ [5, 6, 7, 8, 4, 9, 10, 11, 12] rfl rfl
set_option maxRecDepth 200000 in
theorem gX2_movedPair_X2_isMoved : GoodIn wsX2_movedPair (wsV RX2 32 RX2 yX2_isMoved wsX2_isMoved) := goodIn_app (goodIn_r _ [1, 2, 3, 4] rfl rfl) ggX2_movedPair_X2_isMoved
set_option maxRecDepth 200000 in
theorem ggX2_firstWithin_X2_leastAsOf : GoodIn wsX2_firstWithin wsX2_leastAsOf := goodIn_r _ [6, 7, 8, 9] rfl rfl
set_option maxRecDepth 200000 in
theorem gX2_firstWithin_X2_leastAsOf : GoodIn wsX2_firstWithin (wsV RX2 36 RX2 yX2_leastAsOf wsX2_leastAsOf) := goodIn_app (goodIn_r _ [2, 3, 4, 5] rfl rfl) ggX2_firstWithin_X2_leastAsOf
set_option maxRecDepth 200000 in
theorem ggX2_isMoved_X2_leastAsOf : GoodIn wsX2_isMoved wsX2_leastAsOf := goodIn_r _ [5, 6, 7, 8] rfl rfl
set_option maxRecDepth 200000 in
theorem gX2_isMoved_X2_leastAsOf : GoodIn wsX2_isMoved (wsV RX2 36 RX2 yX2_leastAsOf wsX2_leastAsOf) := goodIn_app (goodIn_r _ [1, 2, 3, 4] rfl rfl) ggX2_isMoved_X2_leastAsOf
set_option maxRecDepth 200000 in
theorem ggX2_makeRoom_J7_copyOf_59c91 : GoodIn wsX2_makeRoom wsJ7_copyOf_59c91 := goodIn_r _ [11, 12, 13, 14, 15, 16, 17, 18, 19, 5, 6, 7, 20, 21, 22, 23] rfl rfl
set_option maxRecDepth 200000 in
theorem gX2_makeRoom_J7_copyOf_59c91 : GoodIn wsX2_makeRoom (va_wsS RX2 45 yJ7_copyOf_59c91 wsJ7_copyOf_59c91) := goodIn_app (goodIn_r _ [8, 9, 10] rfl rfl) ggX2_makeRoom_J7_copyOf_59c91
set_option maxRecDepth 200000 in
theorem ggX3_measure_J7_fill_53178 : GoodIn wsX3_measure wsJ7_fill_53178 := goodIn_r _ [12] rfl rfl
set_option maxRecDepth 200000 in
theorem gX3_measure_J7_fill_53178 : GoodIn wsX3_measure (va_wsS RX3 25 yJ7_fill_53178 wsJ7_fill_53178) := goodIn_app (goodIn_r _ [9, 10, 11] rfl rfl) ggX3_measure_J7_fill_53178
set_option maxRecDepth 200000 in
theorem ggX3_measure_X3_spread : GoodIn wsX3_measure wsX3_spread := goodIn_r _ [17, 4, 2, 3, 9, 10, 11, 12, 18, 19, 20, 21, 22, 23, 24, 25, 26, 27, 16, 28, 29, 30, 31, 32, 33, 34, 35, 36, 40, 41, 42, 43, 44, 45, 46, 47, 48, 49] rfl rfl
set_option maxRecDepth 200000 in
theorem gX3_measure_X3_spread : GoodIn wsX3_measure (wsV RX3 37 RX3 yX3_spread wsX3_spread) := goodIn_app (goodIn_r _ [13, 14, 15, 16] rfl rfl) ggX3_measure_X3_spread
set_option maxRecDepth 200000 in
theorem ggX3_measure_X4_pairOf : GoodIn wsX3_measure wsX4_pairOf := goodIn_r _ [39] rfl rfl
set_option maxRecDepth 200000 in
theorem gX3_measure_X4_pairOf_n41 : GoodIn wsX3_measure (wsX4_pairOf) := ggX3_measure_X4_pairOf
set_option maxRecDepth 200000 in
theorem ggX3_leads_X4_pairOf : GoodIn wsX3_leads wsX4_pairOf := goodIn_r _ [5] rfl rfl
set_option maxRecDepth 200000 in
theorem gX3_leads_X4_pairOf_n41 : GoodIn wsX3_leads (wsX4_pairOf) := ggX3_leads_X4_pairOf
set_option maxRecDepth 200000 in
theorem ggX3_leastPrice_X4_pairOf : GoodIn wsX3_leastPrice wsX4_pairOf := goodIn_r _ [4] rfl rfl
set_option maxRecDepth 200000 in
theorem gX3_leastPrice_X4_pairOf_n41 : GoodIn wsX3_leastPrice (wsX4_pairOf) := ggX3_leastPrice_X4_pairOf
set_option maxRecDepth 200000 in
theorem ggX3_leastPrice_X3_priceIn : GoodIn wsX3_leastPrice wsX3_priceIn := goodIn_r _ [8, 9, 10, 11, 12, 13] rfl rfl
set_option maxRecDepth 200000 in
theorem gX3_leastPrice_X3_priceIn : GoodIn wsX3_leastPrice (va_wsS RX3 51 yX3_priceIn wsX3_priceIn) := goodIn_app (goodIn_r _ [5, 6, 7] rfl rfl) ggX3_leastPrice_X3_priceIn
set_option maxRecDepth 200000 in
theorem ggX3_length_X4_pairOf : GoodIn wsX3_length wsX4_pairOf := goodIn_r _ [5] rfl rfl
set_option maxRecDepth 200000 in
theorem gX3_length_X4_pairOf_n41 : GoodIn wsX3_length (wsX4_pairOf) := ggX3_length_X4_pairOf
set_option maxRecDepth 200000 in
theorem ggX3_length_J9_floorMod_7cf53 : GoodIn wsX3_length wsJ9_floorMod_7cf53 := goodIn_r _ [9] rfl rfl
set_option maxRecDepth 200000 in
theorem gX3_length_J9_floorMod_7cf53 : GoodIn wsX3_length (va_wsS RX3 55 yJ9_floorMod_7cf53 wsJ9_floorMod_7cf53) := goodIn_app (goodIn_r _ [6, 7, 8] rfl rfl) ggX3_length_J9_floorMod_7cf53
set_option maxRecDepth 200000 in
theorem ggX3_lineAt_X3_length : GoodIn wsX3_lineAt wsX3_length := goodIn_r _ [6, 7, 8, 9, 10, 11, 12, 13, 14, 15, 47, 48, 49] rfl rfl
set_option maxRecDepth 200000 in
theorem gX3_lineAt_X3_length : GoodIn wsX3_lineAt (wsV RX3 60 RX3 yX3_length wsX3_length) := goodIn_app (goodIn_r _ [2, 3, 4, 5] rfl rfl) ggX3_lineAt_X3_length
set_option maxRecDepth 200000 in
theorem ggX3_lineAt_X3_lineToward : GoodIn wsX3_lineAt wsX3_lineToward := goodIn_r _ [19, 1, 7, 20, 21, 22, 23, 24, 25, 26, 27, 28, 5, 29, 8, 9, 10, 11, 30, 31, 32, 33, 34, 35, 36, 37, 38, 39, 40, 41, 42, 43, 44, 45, 46, 47, 48, 49, 50, 51, 52, 53, 54, 55, 56] rfl rfl
set_option maxRecDepth 200000 in
theorem gX3_lineAt_X3_lineToward : GoodIn wsX3_lineAt (wsV RX3 63 RX3 yX3_lineToward wsX3_lineToward) := goodIn_app (goodIn_r _ [16, 17, 18, 5] rfl rfl) ggX3_lineAt_X3_lineToward
set_option maxRecDepth 200000 in
theorem ggX3_lineAt_X1_target : GoodIn wsX3_lineAt wsX1_target := goodIn_r _ [33, 34, 35, 36, 37, 38, 39, 40, 23, 41, 42, 50, 51, 52, 53, 54, 55, 56] rfl rfl
set_option maxRecDepth 200000 in
theorem gX3_lineAt_X1_target : GoodIn wsX3_lineAt (wsV RX3 66 RX1 yX1_target wsX1_target) := goodIn_app (goodIn_r _ [30, 31, 32, 23] rfl rfl) ggX3_lineAt_X1_target
set_option maxRecDepth 200000 in
theorem ggX3_between_X3_length : GoodIn wsX3_between wsX3_length := goodIn_r _ [6, 7, 8, 9, 10, 11, 12, 13, 14, 15, 47, 48, 49] rfl rfl
set_option maxRecDepth 200000 in
theorem gX3_between_X3_length : GoodIn wsX3_between (wsV RX3 60 RX3 yX3_length wsX3_length) := goodIn_app (goodIn_r _ [2, 3, 4, 5] rfl rfl) ggX3_between_X3_length
set_option maxRecDepth 200000 in
theorem ggX3_between_X3_lineToward : GoodIn wsX3_between wsX3_lineToward := goodIn_r _ [19, 1, 7, 20, 21, 22, 23, 24, 25, 26, 27, 28, 5, 29, 8, 9, 10, 11, 30, 31, 32, 33, 34, 35, 36, 37, 38, 39, 40, 41, 42, 43, 44, 45, 46, 47, 48, 49, 50, 51, 52, 53, 54, 55, 56] rfl rfl
set_option maxRecDepth 200000 in
theorem gX3_between_X3_lineToward : GoodIn wsX3_between (wsV RX3 63 RX3 yX3_lineToward wsX3_lineToward) := goodIn_app (goodIn_r _ [16, 17, 18, 5] rfl rfl) ggX3_between_X3_lineToward
set_option maxRecDepth 200000 in
theorem ggX3_between_X1_target : GoodIn wsX3_between wsX1_target := goodIn_r _ [33, 34, 35, 36, 37, 38, 39, 40, 23, 41, 42, 50, 51, 52, 53, 54, 55, 56] rfl rfl
set_option maxRecDepth 200000 in
theorem gX3_between_X1_target : GoodIn wsX3_between (wsV RX3 66 RX1 yX1_target wsX1_target) := goodIn_app (goodIn_r _ [30, 31, 32, 23] rfl rfl) ggX3_between_X1_target
set_option maxRecDepth 200000 in
theorem ggX3_leastAvoiding_X3_spread : GoodIn wsX3_leastAvoiding wsX3_spread := goodIn_r _ [6, 1, 7, 8, 9, 10, 11, 12, 13, 14, 15, 16, 17, 18, 19, 20, 21, 22, 5, 23, 24, 25, 26, 27, 28, 29, 30, 31, 39, 40, 41, 42, 43, 44, 45, 46, 47, 48] rfl rfl
set_option maxRecDepth 200000 in
theorem gX3_leastAvoiding_X3_spread : GoodIn wsX3_leastAvoiding (wsV RX3 37 RX3 yX3_spread wsX3_spread) := goodIn_app (goodIn_r _ [2, 3, 4, 5] rfl rfl) ggX3_leastAvoiding_X3_spread
set_option maxRecDepth 200000 in
theorem ggX3_leastAvoiding_X3_priceIn : GoodIn wsX3_leastAvoiding wsX3_priceIn := goodIn_r _ [34, 7, 35, 36, 37, 38] rfl rfl
set_option maxRecDepth 200000 in
theorem gX3_leastAvoiding_X3_priceIn : GoodIn wsX3_leastAvoiding (va_wsS RX3 51 yX3_priceIn wsX3_priceIn) := goodIn_app (goodIn_r _ [32, 33, 5] rfl rfl) ggX3_leastAvoiding_X3_priceIn
set_option maxRecDepth 200000 in
theorem ggX3_isVital_X3_isOnWay : GoodIn wsX3_isVital wsX3_isOnWay := goodIn_r _ [5, 6, 7, 8, 4, 9, 10, 11, 12, 13, 14, 15, 16, 17, 18, 19, 20, 21, 22, 23, 24, 25, 26, 27, 28, 29, 30, 31, 32, 33, 34, 35, 36, 37, 38, 39, 40, 41, 42, 43, 44, 45, 46, 47, 48, 49, 50, 51, 52, 53, 54, 90, 91, 92, 93, 94, 95, 96, 97, 98, 99] rfl rfl
set_option maxRecDepth 200000 in
theorem gX3_isVital_X3_isOnWay : GoodIn wsX3_isVital (wsV RX3 69 RX3 yX3_isOnWay wsX3_isOnWay) := goodIn_app (goodIn_r _ [1, 2, 3, 4] rfl rfl) ggX3_isVital_X3_isOnWay
set_option maxRecDepth 200000 in
theorem ggX3_isVital_X3_leastAvoiding : GoodIn wsX3_isVital wsX3_leastAvoiding := goodIn_r _ [58, 59, 60, 61, 62, 4, 63, 11, 23, 64, 65, 66, 67, 68, 69, 70, 31, 71, 43, 44, 72, 73, 74, 75, 51, 52, 53, 54, 76, 77, 78, 79, 80, 81, 82, 83, 84, 17, 85, 90, 91, 92, 93, 94, 95, 96, 97, 98, 99] rfl rfl
set_option maxRecDepth 200000 in
theorem gX3_isVital_X3_leastAvoiding : GoodIn wsX3_isVital (wsV RX3 73 RX3 yX3_leastAvoiding wsX3_leastAvoiding) := goodIn_app (goodIn_r _ [55, 56, 57, 4] rfl rfl) ggX3_isVital_X3_leastAvoiding
set_option maxRecDepth 200000 in
theorem ggX3_isVital_X3_leastPrice : GoodIn wsX3_isVital wsX3_leastPrice := goodIn_r _ [89, 10, 12, 13, 14, 80, 81, 4, 82, 11, 83, 84, 17, 85, 90, 91, 92] rfl rfl
set_option maxRecDepth 200000 in
theorem gX3_isVital_X3_leastPrice : GoodIn wsX3_isVital (wsV RX3 77 RX3 yX3_leastPrice wsX3_leastPrice) := goodIn_app (goodIn_r _ [86, 87, 88, 4] rfl rfl) ggX3_isVital_X3_leastPrice
set_option maxRecDepth 200000 in
theorem ggX3_wouldSink_X3_leastAvoiding : GoodIn wsX3_wouldSink wsX3_leastAvoiding := goodIn_r _ [5, 6, 7, 8, 9, 4, 10, 11, 12, 13, 14, 15, 16, 17, 18, 19, 20, 21, 22, 23, 24, 25, 26, 27, 28, 29, 30, 31, 32, 33, 34, 35, 36, 37, 38, 39, 40, 41, 42, 46, 47, 48, 49, 50, 51, 52, 53, 54, 55] rfl rfl
set_option maxRecDepth 200000 in
theorem gX3_wouldSink_X3_leastAvoiding : GoodIn wsX3_wouldSink (wsV RX3 73 RX3 yX3_leastAvoiding wsX3_leastAvoiding) := goodIn_app (goodIn_r _ [1, 2, 3, 4] rfl rfl) ggX3_wouldSink_X3_leastAvoiding
set_option maxRecDepth 200000 in
theorem ggX3_wouldSink_X3_closesBelow : GoodIn wsX3_wouldSink wsX3_closesBelow := goodIn_r _ [45] rfl rfl
set_option maxRecDepth 200000 in
theorem gX3_wouldSink_X3_closesBelow : GoodIn wsX3_wouldSink (va_wsS RX3 80 yX3_closesBelow wsX3_closesBelow) := goodIn_app (goodIn_r _ [43, 44, 4] rfl rfl) ggX3_wouldSink_X3_closesBelow
set_option maxRecDepth 200000 in
theorem ggX3_leastRing_X3_ringOver : GoodIn wsX3_leastRing wsX3_ringOver := goodIn_r _ [6, 1, 7, 8, 9, 10, 11, 12, 13, 5, 14, 15, 16, 17, 18, 19, 20, 21, 22, 23, 24, 25, 26, 27, 28, 29, 30, 31, 32, 33, 34, 35, 36] rfl rfl
set_option maxRecDepth 200000 in
theorem gX3_leastRing_X3_ringOver : GoodIn wsX3_leastRing (wsV RX3 87 RX3 yX3_ringOver wsX3_ringOver) := goodIn_app (goodIn_r _ [2, 3, 4, 5] rfl rfl) ggX3_leastRing_X3_ringOver
set_option maxRecDepth 200000 in
theorem ggX3_heightOf_X3_leads : GoodIn wsX3_heightOf wsX3_leads := goodIn_r _ [10, 11, 12, 13, 14, 15, 27, 28, 29] rfl rfl
set_option maxRecDepth 200000 in
theorem gX3_heightOf_X3_leads : GoodIn wsX3_heightOf (wsV RX3 90 RX3 yX3_leads wsX3_leads) := goodIn_app (goodIn_r _ [6, 7, 8, 9] rfl rfl) ggX3_heightOf_X3_leads
set_option maxRecDepth 200000 in
theorem ggX3_heightOf_X3_leastPrice : GoodIn wsX3_heightOf wsX3_leastPrice := goodIn_r _ [19, 11, 13, 14, 15, 20, 21, 9, 22, 12, 23, 24, 25, 26, 27, 28, 29] rfl rfl
set_option maxRecDepth 200000 in
theorem gX3_heightOf_X3_leastPrice : GoodIn wsX3_heightOf (wsV RX3 77 RX3 yX3_leastPrice wsX3_leastPrice) := goodIn_app (goodIn_r _ [16, 17, 18, 9] rfl rfl) ggX3_heightOf_X3_leastPrice
set_option maxRecDepth 200000 in
theorem ggX3_lifted_X3_heightOf : GoodIn wsX3_lifted wsX3_heightOf := goodIn_r _ [10, 1, 2, 3, 4, 5, 11, 12, 13, 9, 14, 15, 16, 17, 18, 19, 20, 21, 22, 23, 24, 25, 26, 27, 28, 29, 30, 31, 32, 33, 34, 35, 36, 37, 38, 39, 40] rfl rfl
set_option maxRecDepth 200000 in
theorem gX3_lifted_X3_heightOf : GoodIn wsX3_lifted (wsV RX3 102 RX3 yX3_heightOf wsX3_heightOf) := goodIn_app (goodIn_r _ [6, 7, 8, 9] rfl rfl) ggX3_lifted_X3_heightOf
set_option maxRecDepth 200000 in
theorem ggX3_leastThrough_X3_leads : GoodIn wsX3_leastThrough wsX3_leads := goodIn_r _ [10, 11, 12, 13, 14, 15, 27, 28, 29] rfl rfl
set_option maxRecDepth 200000 in
theorem gX3_leastThrough_X3_leads : GoodIn wsX3_leastThrough (wsV RX3 90 RX3 yX3_leads wsX3_leads) := goodIn_app (goodIn_r _ [6, 7, 8, 9] rfl rfl) ggX3_leastThrough_X3_leads
set_option maxRecDepth 200000 in
theorem ggX3_leastThrough_X3_leastPrice : GoodIn wsX3_leastThrough wsX3_leastPrice := goodIn_r _ [19, 11, 13, 14, 15, 20, 21, 9, 22, 12, 23, 24, 25, 26, 27, 28, 29] rfl rfl
set_option maxRecDepth 200000 in
theorem gX3_leastThrough_X3_leastPrice : GoodIn wsX3_leastThrough (wsV RX3 77 RX3 yX3_leastPrice wsX3_leastPrice) := goodIn_app (goodIn_r _ [16, 17, 18, 9] rfl rfl) ggX3_leastThrough_X3_leastPrice
set_option maxRecDepth 200000 in
theorem ggX3_countLinked_X3_leads : GoodIn wsX3_countLinked wsX3_leads := goodIn_r _ [6, 7, 8, 9, 10, 11, 12, 13, 14] rfl rfl
set_option maxRecDepth 200000 in
theorem gX3_countLinked_X3_leads : GoodIn wsX3_countLinked (wsV RX3 90 RX3 yX3_leads wsX3_leads) := goodIn_app (goodIn_r _ [2, 3, 4, 5] rfl rfl) ggX3_countLinked_X3_leads
set_option maxRecDepth 200000 in
theorem ggX3_spread_J7_fill_53178 : GoodIn wsX3_spread wsJ7_fill_53178 := goodIn_r _ [7] rfl rfl
set_option maxRecDepth 200000 in
theorem gX3_spread_J7_fill_53178 : GoodIn wsX3_spread (va_wsS RX3 25 yJ7_fill_53178 wsJ7_fill_53178) := goodIn_app (goodIn_r _ [4, 5, 6] rfl rfl) ggX3_spread_J7_fill_53178
set_option maxRecDepth 200000 in
theorem ggX3_spread_X1_touches : GoodIn wsX3_spread wsX1_touches := goodIn_r _ [12, 13, 14, 31, 32, 33, 34, 35, 36, 37] rfl rfl
set_option maxRecDepth 200000 in
theorem gX3_spread_X1_touches : GoodIn wsX3_spread (wsV RX3 115 RX1 yX1_touches wsX1_touches) := goodIn_app (goodIn_r _ [8, 9, 10, 11] rfl rfl) ggX3_spread_X1_touches
set_option maxRecDepth 200000 in
theorem ggX3_spread_X3_relax : GoodIn wsX3_spread wsX3_relax := goodIn_r _ [19, 3, 20, 21, 22, 18, 23, 24, 25, 26, 27, 1, 2, 28, 29, 30, 31, 32, 33, 34, 35, 36, 37] rfl rfl
set_option maxRecDepth 200000 in
theorem gX3_spread_X3_relax : GoodIn wsX3_spread (wsV RX3 118 RX3 yX3_relax wsX3_relax) := goodIn_app (goodIn_r _ [15, 16, 17, 18] rfl rfl) ggX3_spread_X3_relax
set_option maxRecDepth 200000 in
theorem ggX3_relax_X3_costOf : GoodIn wsX3_relax wsX3_costOf := goodIn_r _ [6, 1, 13, 14, 15, 16, 17, 18, 19, 20, 21, 22] rfl rfl
set_option maxRecDepth 200000 in
theorem gX3_relax_X3_costOf : GoodIn wsX3_relax (wsV RX3 122 RX3 yX3_costOf wsX3_costOf) := goodIn_app (goodIn_r _ [2, 3, 4, 5] rfl rfl) ggX3_relax_X3_costOf
set_option maxRecDepth 200000 in
theorem ggX3_relax_X3_lower : GoodIn wsX3_relax wsX3_lower := goodIn_r _ [10, 11, 12, 13, 14, 15] rfl rfl
set_option maxRecDepth 200000 in
theorem gX3_relax_X3_lower : GoodIn wsX3_relax (wsV RX3 125 RX3 yX3_lower wsX3_lower) := goodIn_app (goodIn_r _ [7, 8, 9, 5] rfl rfl) ggX3_relax_X3_lower
set_option maxRecDepth 200000 in
theorem ggX3_lineToward_X1_hasPost : GoodIn wsX3_lineToward wsX1_hasPost := goodIn_r _ [7, 8, 38, 39, 40, 41, 42, 43, 44] rfl rfl
set_option maxRecDepth 200000 in
theorem gX3_lineToward_X1_hasPost : GoodIn wsX3_lineToward (wsV RX3 128 RX1 yX1_hasPost wsX1_hasPost) := goodIn_app (goodIn_r _ [3, 4, 5, 6] rfl rfl) ggX3_lineToward_X1_hasPost
set_option maxRecDepth 200000 in
theorem ggX3_lineToward_X3_leads : GoodIn wsX3_lineToward wsX3_leads := goodIn_r _ [13, 2, 14, 15, 16, 17, 35, 36, 37] rfl rfl
set_option maxRecDepth 200000 in
theorem gX3_lineToward_X3_leads : GoodIn wsX3_lineToward (wsV RX3 90 RX3 yX3_leads wsX3_leads) := goodIn_app (goodIn_r _ [9, 10, 11, 12] rfl rfl) ggX3_lineToward_X3_leads
set_option maxRecDepth 200000 in
theorem ggX3_lineToward_X4_pairOf : GoodIn wsX3_lineToward wsX4_pairOf := goodIn_r _ [17] rfl rfl
set_option maxRecDepth 200000 in
theorem gX3_lineToward_X4_pairOf_n41 : GoodIn wsX3_lineToward (wsX4_pairOf) := ggX3_lineToward_X4_pairOf
set_option maxRecDepth 200000 in
theorem ggX3_lineToward_X1_target : GoodIn wsX3_lineToward wsX1_target := goodIn_r _ [21, 22, 23, 24, 25, 26, 27, 28, 6, 29, 30, 38, 39, 40, 41, 42, 43, 44] rfl rfl
set_option maxRecDepth 200000 in
theorem gX3_lineToward_X1_target : GoodIn wsX3_lineToward (wsV RX3 66 RX1 yX1_target wsX1_target) := goodIn_app (goodIn_r _ [18, 19, 20, 6] rfl rfl) ggX3_lineToward_X1_target
set_option maxRecDepth 200000 in
theorem ggX3_lineToward_X3_costOf : GoodIn wsX3_lineToward wsX3_costOf := goodIn_r _ [34, 1, 35, 36, 37, 38, 39, 40, 41, 42, 43, 44] rfl rfl
set_option maxRecDepth 200000 in
theorem gX3_lineToward_X3_costOf : GoodIn wsX3_lineToward (wsV RX3 122 RX3 yX3_costOf wsX3_costOf) := goodIn_app (goodIn_r _ [31, 32, 33, 12] rfl rfl) ggX3_lineToward_X3_costOf
set_option maxRecDepth 200000 in
theorem ggX3_isOnWay_X3_length : GoodIn wsX3_isOnWay wsX3_length := goodIn_r _ [5, 6, 7, 8, 9, 10, 11, 12, 13, 14, 51, 52, 53] rfl rfl
set_option maxRecDepth 200000 in
theorem gX3_isOnWay_X3_length : GoodIn wsX3_isOnWay (wsV RX3 60 RX3 yX3_length wsX3_length) := goodIn_app (goodIn_r _ [1, 2, 3, 4] rfl rfl) ggX3_isOnWay_X3_length
set_option maxRecDepth 200000 in
theorem ggX3_isOnWay_X3_lineAt : GoodIn wsX3_isOnWay wsX3_lineAt := goodIn_r _ [18, 19, 1, 2, 3, 4, 5, 6, 7, 8, 9, 10, 11, 12, 13, 14, 20, 21, 22, 23, 24, 25, 26, 27, 28, 29, 30, 31, 32, 33, 34, 35, 36, 37, 38, 39, 40, 41, 42, 43, 44, 45, 46, 47, 48, 49, 50, 51, 52, 53, 54, 55, 56, 57, 58, 59, 60] rfl rfl
set_option maxRecDepth 200000 in
theorem gX3_isOnWay_X3_lineAt : GoodIn wsX3_isOnWay (wsV RX3 131 RX3 yX3_lineAt wsX3_lineAt) := goodIn_app (goodIn_r _ [15, 16, 17, 4] rfl rfl) ggX3_isOnWay_X3_lineAt
set_option maxRecDepth 200000 in
theorem ggX3_ringOver_X3_leastPrice : GoodIn wsX3_ringOver wsX3_leastPrice := goodIn_r _ [10, 11, 12, 13, 14, 15, 16, 9, 17, 18, 19, 20, 21, 22, 23, 24, 25] rfl rfl
set_option maxRecDepth 200000 in
theorem gX3_ringOver_X3_leastPrice : GoodIn wsX3_ringOver (wsV RX3 77 RX3 yX3_leastPrice wsX3_leastPrice) := goodIn_app (goodIn_r _ [6, 7, 8, 9] rfl rfl) ggX3_ringOver_X3_leastPrice
set_option maxRecDepth 200000 in
theorem ggX3_priceIn_J9_floorDiv_7cf53 : GoodIn wsX3_priceIn wsJ9_floorDiv_7cf53 := goodIn_r _ [5] rfl rfl
set_option maxRecDepth 200000 in
theorem gX3_priceIn_J9_floorDiv_7cf53 : GoodIn wsX3_priceIn (va_wsS RX3 135 yJ9_floorDiv_7cf53 wsJ9_floorDiv_7cf53) := goodIn_app (goodIn_r _ [2, 3, 4] rfl rfl) ggX3_priceIn_J9_floorDiv_7cf53
set_option maxRecDepth 200000 in
theorem ggX4_init_X1_init : GoodIn wsX4_init wsX1_init := goodIn_r _ [21, 22, 2, 3, 23, 24, 25, 26, 27, 28, 29, 140, 141, 142, 143, 144, 145, 146] rfl rfl
set_option maxRecDepth 200000 in
theorem gX4_init_X1_init_n11 : GoodIn wsX4_init (wsX1_init) := ggX4_init_X1_init
set_option maxRecDepth 200000 in
theorem ggX4_init_X3_init : GoodIn wsX4_init wsX3_init := goodIn_r _ [32, 33, 2, 3, 23, 34, 35, 36, 152, 153, 154] rfl rfl
set_option maxRecDepth 200000 in
theorem gX4_init_X3_init : GoodIn wsX4_init (wsX3_init) := ggX4_init_X3_init
set_option maxRecDepth 200000 in
theorem ggX4_init_X2_init : GoodIn wsX4_init wsX2_init := goodIn_r _ [38, 39, 2, 3, 23, 40, 155, 156] rfl rfl
set_option maxRecDepth 200000 in
theorem gX4_init_X2_init_n27 : GoodIn wsX4_init (wsX2_init) := ggX4_init_X2_init
set_option maxRecDepth 200000 in
theorem ggX4_init_X0_init : GoodIn wsX4_init wsX0_init := goodIn_r _ [42, 43, 2, 3, 23, 44, 157, 158] rfl rfl
set_option maxRecDepth 200000 in
theorem gX4_init_X0_init_n34 : GoodIn wsX4_init (wsX0_init) := ggX4_init_X0_init
set_option maxRecDepth 200000 in
theorem ggX4_init_X4_restart : GoodIn wsX4_init wsX4_restart := goodIn_r _ [49, 7, 15, 50, 51, 52, 53, 6, 54, 55, 56, 57, 58, 59, 14, 60, 61, 62, 63, 64, 48, 65, 11, 66, 67, 68, 10, 69, 34, 70, 36, 35, 71, 72, 73, 74, 75, 76, 77, 78, 79, 80, 81, 82, 83, 84, 85, 86, 24, 25, 87, 88, 89, 90, 91, 92, 93, 94, 95, 96, 97, 98, 99, 100, 101, 102, 103, 104, 40, 105, 106, 107, 108, 109, 110, 111, 112, 113, 114, 115, 116, 117, 118, 119, 120, 121, 122, 123, 124, 125, 126, 23, 127, 128, 129, 130, 131, 132, 133, 134, 135, 136, 137, 138, 139, 147, 148, 149, 150, 151, 140, 141, 142, 143, 144, 145, 146, 155, 156, 152, 153, 154] rfl rfl
set_option maxRecDepth 200000 in
theorem gX4_init_X4_restart : GoodIn wsX4_init (wsV RX4 39 RX4 yX4_restart wsX4_restart) := goodIn_app (goodIn_r _ [45, 46, 47, 48] rfl rfl) ggX4_init_X4_restart
set_option maxRecDepth 200000 in
theorem ggX4_posts_X4_restart : GoodIn wsX4_posts wsX4_restart := goodIn_r _ [6, 1, 7, 8, 9, 10, 11, 12, 13, 14, 15, 16, 17, 18, 19, 20, 21, 22, 23, 24, 5, 25, 26, 27, 28, 29, 30, 31, 32, 33, 34, 35, 36, 37, 38, 39, 40, 41, 42, 43, 44, 45, 46, 47, 48, 49, 50, 51, 52, 53, 54, 55, 56, 57, 58, 59, 60, 61, 62, 63, 64, 65, 66, 67, 68, 69, 70, 71, 72, 73, 74, 75, 76, 77, 78, 79, 80, 81, 82, 83, 84, 85, 86, 87, 88, 89, 90, 91, 92, 93, 94, 95, 96, 97, 98, 99, 100, 101, 102, 103, 104, 105, 106, 107, 108, 109, 110, 111, 112, 113, 114, 115, 116, 117, 118, 119, 120, 121, 122, 123, 124, 125] rfl rfl
set_option maxRecDepth 200000 in
theorem gX4_posts_X4_restart : GoodIn wsX4_posts (wsV RX4 39 RX4 yX4_restart wsX4_restart) := goodIn_app (goodIn_r _ [2, 3, 4, 5] rfl rfl) ggX4_posts_X4_restart
set_option maxRecDepth 200000 in
theorem ggX4_line_X1_hasPosts : GoodIn wsX4_line wsX1_hasPosts := goodIn_r _ [8, 9, 10, 11, 7, 12, 13, 131, 132, 133, 134, 135, 136, 137] rfl rfl
set_option maxRecDepth 200000 in
theorem gX4_line_X1_hasPosts : GoodIn wsX4_line (wsV RX4 47 RX1 yX1_hasPosts wsX1_hasPosts) := goodIn_app (goodIn_r _ [4, 5, 6, 7] rfl rfl) ggX4_line_X1_hasPosts
set_option maxRecDepth 200000 in
theorem ggX4_line_X4_mayCost : GoodIn wsX4_line wsX4_mayCost := goodIn_r _ [17] rfl rfl
set_option maxRecDepth 200000 in
theorem gX4_line_X4_mayCost : GoodIn wsX4_line (va_wsS RX4 51 yX4_mayCost wsX4_mayCost) := goodIn_app (goodIn_r _ [14, 15, 16] rfl rfl) ggX4_line_X4_mayCost
set_option maxRecDepth 200000 in
theorem ggX4_line_X3_wouldSink : GoodIn wsX4_line wsX3_wouldSink := goodIn_r _ [22, 23, 24, 25, 21, 26, 27, 28, 29, 30, 31, 32, 33, 34, 35, 36, 37, 38, 39, 40, 7, 41, 42, 43, 44, 45, 46, 47, 48, 49, 50, 51, 52, 53, 54, 55, 56, 57, 58, 59, 60, 61, 62, 63, 64, 65, 138, 139, 140, 131, 132, 133, 134, 135, 136, 137] rfl rfl
set_option maxRecDepth 200000 in
theorem gX4_line_X3_wouldSink : GoodIn wsX4_line (wsV RX4 55 RX3 yX3_wouldSink wsX3_wouldSink) := goodIn_app (goodIn_r _ [18, 19, 20, 21] rfl rfl) ggX4_line_X3_wouldSink
set_option maxRecDepth 200000 in
theorem ggX4_line_X2_isFull : GoodIn wsX4_line wsX2_isFull := goodIn_r _ [70, 71, 141, 142] rfl rfl
set_option maxRecDepth 200000 in
theorem gX4_line_X2_isFull : GoodIn wsX4_line (wsV RX4 62 RX2 yX2_isFull wsX2_isFull) := goodIn_app (goodIn_r _ [66, 67, 68, 69] rfl rfl) ggX4_line_X2_isFull
set_option maxRecDepth 200000 in
theorem ggX4_line_X1_add : GoodIn wsX4_line wsX1_add := goodIn_r _ [75, 76, 42, 43, 77, 78, 79, 131, 132, 133, 134, 135, 136, 137] rfl rfl
set_option maxRecDepth 200000 in
theorem gX4_line_X1_add : GoodIn wsX4_line (wsV RX4 66 RX1 yX1_add wsX1_add) := goodIn_app (goodIn_r _ [72, 73, 74, 7] rfl rfl) ggX4_line_X1_add
set_option maxRecDepth 200000 in
theorem ggX4_line_X4_keepAct : GoodIn wsX4_line wsX4_keepAct := goodIn_r _ [83, 2, 3, 84, 85, 86, 21, 87, 88, 32, 33, 27, 89, 90, 91, 92, 34, 35, 36, 37, 28, 29, 30, 31, 38, 39, 40, 7, 41, 42, 43, 44, 45, 46, 47, 48, 49, 50, 51, 52, 53, 54, 55, 93, 16, 94, 95, 96, 97, 69, 98, 99, 71, 100, 67, 68, 70, 101, 102, 103, 104, 105, 106, 107, 108, 109, 110, 111, 112, 113, 114, 115, 116, 117, 118, 119, 120, 121, 122, 123, 124, 125, 56, 57, 58, 59, 60, 61, 62, 126, 127, 128, 129, 130, 138, 139, 140, 131, 132, 133, 134, 135, 136, 137, 141, 142] rfl rfl
set_option maxRecDepth 200000 in
theorem gX4_line_X4_keepAct : GoodIn wsX4_line (wsV RX4 70 RX4 yX4_keepAct wsX4_keepAct) := goodIn_app (goodIn_r _ [80, 81, 82, 16] rfl rfl) ggX4_line_X4_keepAct
set_option maxRecDepth 200000 in
theorem ggX4_price_X1_hasLine : GoodIn wsX4_price wsX1_hasLine := goodIn_r _ [7, 8, 123, 124, 125, 126, 127, 128, 129] rfl rfl
set_option maxRecDepth 200000 in
theorem gX4_price_X1_hasLine : GoodIn wsX4_price (wsV RX4 73 RX1 yX1_hasLine wsX1_hasLine) := goodIn_app (goodIn_r _ [3, 4, 5, 6] rfl rfl) ggX4_price_X1_hasLine
set_option maxRecDepth 200000 in
theorem ggX4_price_X4_mayCost : GoodIn wsX4_price wsX4_mayCost := goodIn_r _ [12] rfl rfl
set_option maxRecDepth 200000 in
theorem gX4_price_X4_mayCost : GoodIn wsX4_price (va_wsS RX4 51 yX4_mayCost wsX4_mayCost) := goodIn_app (goodIn_r _ [9, 10, 11] rfl rfl) ggX4_price_X4_mayCost
set_option maxRecDepth 200000 in
theorem ggX4_price_X4_wouldSinkAt : GoodIn wsX4_price wsX4_wouldSinkAt := goodIn_r _ [16, 17, 1, 18, 19, 20, 21, 22, 23, 24, 25, 26, 27, 28, 29, 30, 31, 32, 33, 34, 35, 36, 37, 38, 39, 40, 6, 41, 42, 43, 44, 45, 46, 47, 48, 49, 50, 51, 52, 53, 54, 55, 56, 57, 58, 59, 60, 61, 62, 63, 64, 65, 118, 119, 120, 121, 122, 123, 124, 125, 126, 127, 128, 129, 130, 131, 132] rfl rfl
set_option maxRecDepth 200000 in
theorem gX4_price_X4_wouldSinkAt : GoodIn wsX4_price (wsV RX4 88 RX4 yX4_wouldSinkAt wsX4_wouldSinkAt) := goodIn_app (goodIn_r _ [13, 14, 15, 11] rfl rfl) ggX4_price_X4_wouldSinkAt
set_option maxRecDepth 200000 in
theorem ggX4_price_X2_isFull : GoodIn wsX4_price wsX2_isFull := goodIn_r _ [70, 71, 133, 134] rfl rfl
set_option maxRecDepth 200000 in
theorem gX4_price_X2_isFull : GoodIn wsX4_price (wsV RX4 62 RX2 yX2_isFull wsX2_isFull) := goodIn_app (goodIn_r _ [66, 67, 68, 69] rfl rfl) ggX4_price_X2_isFull
set_option maxRecDepth 200000 in
theorem ggX4_price_X4_keepAct : GoodIn wsX4_price wsX4_keepAct := goodIn_r _ [75, 17, 2, 76, 77, 78, 21, 79, 80, 32, 33, 27, 81, 82, 83, 84, 34, 35, 36, 37, 28, 29, 30, 31, 38, 39, 40, 6, 41, 42, 43, 44, 45, 46, 47, 48, 49, 50, 51, 52, 53, 54, 55, 85, 11, 86, 87, 88, 89, 69, 90, 91, 71, 92, 67, 68, 70, 93, 94, 95, 96, 97, 98, 99, 100, 101, 102, 103, 104, 105, 106, 107, 108, 109, 110, 111, 112, 113, 114, 115, 116, 117, 56, 57, 58, 59, 60, 61, 62, 118, 119, 120, 121, 122, 130, 131, 132, 123, 124, 125, 126, 127, 128, 129, 133, 134] rfl rfl
set_option maxRecDepth 200000 in
theorem gX4_price_X4_keepAct : GoodIn wsX4_price (wsV RX4 70 RX4 yX4_keepAct wsX4_keepAct) := goodIn_app (goodIn_r _ [72, 73, 74, 11] rfl rfl) ggX4_price_X4_keepAct
set_option maxRecDepth 200000 in
theorem ggX4_cut_X1_hasLine : GoodIn wsX4_cut wsX1_hasLine := goodIn_r _ [7, 8, 110, 111, 112, 113, 114, 115, 116] rfl rfl
set_option maxRecDepth 200000 in
theorem gX4_cut_X1_hasLine : GoodIn wsX4_cut (wsV RX4 73 RX1 yX1_hasLine wsX1_hasLine) := goodIn_app (goodIn_r _ [3, 4, 5, 6] rfl rfl) ggX4_cut_X1_hasLine
set_option maxRecDepth 200000 in
theorem ggX4_cut_X2_isFull : GoodIn wsX4_cut wsX2_isFull := goodIn_r _ [13, 14, 117, 118] rfl rfl
set_option maxRecDepth 200000 in
theorem gX4_cut_X2_isFull : GoodIn wsX4_cut (wsV RX4 62 RX2 yX2_isFull wsX2_isFull) := goodIn_app (goodIn_r _ [9, 10, 11, 12] rfl rfl) ggX4_cut_X2_isFull
set_option maxRecDepth 200000 in
theorem ggX4_cut_X4_keepAct : GoodIn wsX4_cut wsX4_keepAct := goodIn_r _ [19, 20, 2, 21, 22, 23, 24, 25, 26, 27, 28, 29, 30, 31, 32, 33, 34, 35, 36, 37, 38, 39, 40, 41, 42, 43, 44, 6, 45, 46, 47, 48, 49, 50, 51, 52, 53, 54, 55, 56, 57, 58, 59, 60, 18, 61, 62, 63, 64, 12, 65, 66, 14, 67, 10, 11, 13, 68, 69, 70, 71, 72, 73, 74, 75, 76, 77, 78, 79, 80, 81, 82, 83, 84, 85, 86, 87, 88, 89, 90, 91, 92, 93, 94, 95, 96, 97, 98, 99, 105, 106, 107, 108, 109, 119, 120, 121, 110, 111, 112, 113, 114, 115, 116, 117, 118] rfl rfl
set_option maxRecDepth 200000 in
theorem gX4_cut_X4_keepAct : GoodIn wsX4_cut (wsV RX4 70 RX4 yX4_keepAct wsX4_keepAct) := goodIn_app (goodIn_r _ [15, 16, 17, 18] rfl rfl) ggX4_cut_X4_keepAct
set_option maxRecDepth 200000 in
theorem ggX4_cut_X1_countThere : GoodIn wsX4_cut wsX1_countThere := goodIn_r _ [103, 8, 104, 110, 111, 112, 113, 114, 115, 116] rfl rfl
set_option maxRecDepth 200000 in
theorem gX4_cut_X1_countThere : GoodIn wsX4_cut (wsV RX4 91 RX1 yX1_countThere wsX1_countThere) := goodIn_app (goodIn_r _ [100, 101, 102, 6] rfl rfl) ggX4_cut_X1_countThere
set_option maxRecDepth 200000 in
theorem ggX4_back_X1_hasLine : GoodIn wsX4_back wsX1_hasLine := goodIn_r _ [7, 8, 125, 126, 127, 128, 129, 130, 131] rfl rfl
set_option maxRecDepth 200000 in
theorem gX4_back_X1_hasLine : GoodIn wsX4_back (wsV RX4 73 RX1 yX1_hasLine wsX1_hasLine) := goodIn_app (goodIn_r _ [3, 4, 5, 6] rfl rfl) ggX4_back_X1_hasLine
set_option maxRecDepth 200000 in
theorem ggX4_back_X4_wouldSinkAt : GoodIn wsX4_back wsX4_wouldSinkAt := goodIn_r _ [13, 14, 1, 15, 16, 17, 18, 19, 20, 21, 22, 23, 24, 25, 26, 27, 28, 29, 30, 31, 32, 33, 34, 35, 36, 37, 6, 38, 39, 40, 41, 42, 43, 44, 45, 46, 47, 48, 49, 50, 51, 52, 53, 54, 55, 56, 57, 58, 59, 60, 61, 62, 120, 121, 122, 123, 124, 125, 126, 127, 128, 129, 130, 131, 132, 133, 134] rfl rfl
set_option maxRecDepth 200000 in
theorem gX4_back_X4_wouldSinkAt : GoodIn wsX4_back (wsV RX4 88 RX4 yX4_wouldSinkAt wsX4_wouldSinkAt) := goodIn_app (goodIn_r _ [9, 10, 11, 12] rfl rfl) ggX4_back_X4_wouldSinkAt
set_option maxRecDepth 200000 in
theorem ggX4_back_X2_isFull : GoodIn wsX4_back wsX2_isFull := goodIn_r _ [67, 68, 135, 136] rfl rfl
set_option maxRecDepth 200000 in
theorem gX4_back_X2_isFull : GoodIn wsX4_back (wsV RX4 62 RX2 yX2_isFull wsX2_isFull) := goodIn_app (goodIn_r _ [63, 64, 65, 66] rfl rfl) ggX4_back_X2_isFull
set_option maxRecDepth 200000 in
theorem ggX4_back_X4_keepAct : GoodIn wsX4_back wsX4_keepAct := goodIn_r _ [72, 14, 2, 73, 74, 75, 18, 76, 77, 29, 30, 24, 78, 79, 80, 81, 31, 32, 33, 34, 25, 26, 27, 28, 35, 36, 37, 6, 38, 39, 40, 41, 42, 43, 44, 45, 46, 47, 48, 49, 50, 51, 52, 82, 12, 83, 84, 85, 86, 66, 87, 88, 68, 89, 64, 65, 67, 90, 91, 92, 93, 94, 95, 96, 97, 98, 99, 100, 101, 102, 103, 104, 105, 106, 107, 108, 109, 110, 111, 112, 113, 114, 53, 54, 55, 56, 57, 58, 59, 120, 121, 122, 123, 124, 132, 133, 134, 125, 126, 127, 128, 129, 130, 131, 135, 136] rfl rfl
set_option maxRecDepth 200000 in
theorem gX4_back_X4_keepAct : GoodIn wsX4_back (wsV RX4 70 RX4 yX4_keepAct wsX4_keepAct) := goodIn_app (goodIn_r _ [69, 70, 71, 12] rfl rfl) ggX4_back_X4_keepAct
set_option maxRecDepth 200000 in
theorem ggX4_back_X1_countThere : GoodIn wsX4_back wsX1_countThere := goodIn_r _ [118, 8, 119, 125, 126, 127, 128, 129, 130, 131] rfl rfl
set_option maxRecDepth 200000 in
theorem gX4_back_X1_countThere : GoodIn wsX4_back (wsV RX4 91 RX1 yX1_countThere wsX1_countThere) := goodIn_app (goodIn_r _ [115, 116, 117, 6] rfl rfl) ggX4_back_X1_countThere
set_option maxRecDepth 200000 in
theorem ggX4_told_X1_hasLine : GoodIn wsX4_told wsX1_hasLine := goodIn_r _ [7, 8, 51, 52, 53, 54, 55, 56, 57] rfl rfl
set_option maxRecDepth 200000 in
theorem gX4_told_X1_hasLine : GoodIn wsX4_told (wsV RX4 73 RX1 yX1_hasLine wsX1_hasLine) := goodIn_app (goodIn_r _ [3, 4, 5, 6] rfl rfl) ggX4_told_X1_hasLine
set_option maxRecDepth 200000 in
theorem ggX4_told_X4_asNumber : GoodIn wsX4_told wsX4_asNumber := goodIn_r _ [12] rfl rfl
set_option maxRecDepth 200000 in
theorem gX4_told_X4_asNumber : GoodIn wsX4_told (va_wsS RX4 101 yX4_asNumber wsX4_asNumber) := goodIn_app (goodIn_r _ [9, 10, 11] rfl rfl) ggX4_told_X4_asNumber
set_option maxRecDepth 200000 in
theorem ggX4_told_X3_lifted : GoodIn wsX4_told wsX3_lifted := goodIn_r _ [17, 18, 19, 20, 21, 22, 23, 24, 25, 16, 26, 27, 28, 29, 30, 31, 32, 33, 11, 34, 35, 36, 37, 38, 39, 40, 41, 42, 43, 44, 45, 58, 59, 60, 51, 52, 53, 54, 55, 56, 57] rfl rfl
set_option maxRecDepth 200000 in
theorem gX4_told_X3_lifted : GoodIn wsX4_told (wsV RX4 105 RX3 yX3_lifted wsX3_lifted) := goodIn_app (goodIn_r _ [13, 14, 15, 16] rfl rfl) ggX4_told_X3_lifted
set_option maxRecDepth 200000 in
theorem ggX4_far_X1_hasPosts : GoodIn wsX4_far wsX1_hasPosts := goodIn_r _ [7, 8, 9, 10, 6, 11, 12, 35, 36, 37, 38, 39, 40, 41] rfl rfl
set_option maxRecDepth 200000 in
theorem gX4_far_X1_hasPosts : GoodIn wsX4_far (wsV RX4 47 RX1 yX1_hasPosts wsX1_hasPosts) := goodIn_app (goodIn_r _ [3, 4, 5, 6] rfl rfl) ggX4_far_X1_hasPosts
set_option maxRecDepth 200000 in
theorem ggX4_far_X3_leastPrice : GoodIn wsX4_far wsX3_leastPrice := goodIn_r _ [17, 18, 19, 20, 21, 22, 23, 16, 24, 25, 26, 27, 28, 29, 42, 43, 44] rfl rfl
set_option maxRecDepth 200000 in
theorem gX4_far_X3_leastPrice : GoodIn wsX4_far (wsV RX4 109 RX3 yX3_leastPrice wsX3_leastPrice) := goodIn_app (goodIn_r _ [13, 14, 15, 16] rfl rfl) ggX4_far_X3_leastPrice
set_option maxRecDepth 200000 in
theorem ggX4_steps_X1_hasPosts : GoodIn wsX4_steps wsX1_hasPosts := goodIn_r _ [7, 8, 9, 10, 6, 11, 12, 32, 33, 34, 35, 36, 37, 38] rfl rfl
set_option maxRecDepth 200000 in
theorem gX4_steps_X1_hasPosts : GoodIn wsX4_steps (wsV RX4 47 RX1 yX1_hasPosts wsX1_hasPosts) := goodIn_app (goodIn_r _ [3, 4, 5, 6] rfl rfl) ggX4_steps_X1_hasPosts
set_option maxRecDepth 200000 in
theorem ggX4_steps_X3_length : GoodIn wsX4_steps wsX3_length := goodIn_r _ [17, 18, 19, 20, 21, 22, 23, 24, 25, 26, 39, 40, 41] rfl rfl
set_option maxRecDepth 200000 in
theorem gX4_steps_X3_length : GoodIn wsX4_steps (wsV RX4 113 RX3 yX3_length wsX3_length) := goodIn_app (goodIn_r _ [13, 14, 15, 16] rfl rfl) ggX4_steps_X3_length
set_option maxRecDepth 200000 in
theorem ggX4_way_X1_hasPosts : GoodIn wsX4_way wsX1_hasPosts := goodIn_r _ [7, 8, 9, 10, 6, 11, 12, 63, 64, 65, 66, 67, 68, 69] rfl rfl
set_option maxRecDepth 200000 in
theorem gX4_way_X1_hasPosts : GoodIn wsX4_way (wsV RX4 47 RX1 yX1_hasPosts wsX1_hasPosts) := goodIn_app (goodIn_r _ [3, 4, 5, 6] rfl rfl) ggX4_way_X1_hasPosts
set_option maxRecDepth 200000 in
theorem ggX4_way_X3_lineAt : GoodIn wsX4_way wsX3_lineAt := goodIn_r _ [17, 18, 19, 20, 21, 16, 22, 23, 24, 25, 26, 27, 28, 29, 30, 31, 32, 33, 34, 35, 36, 9, 10, 6, 11, 12, 37, 38, 39, 40, 41, 42, 43, 44, 45, 46, 47, 48, 49, 50, 51, 52, 53, 54, 55, 56, 57, 70, 71, 72, 63, 64, 65, 66, 67, 68, 69] rfl rfl
set_option maxRecDepth 200000 in
theorem gX4_way_X3_lineAt : GoodIn wsX4_way (wsV RX4 116 RX3 yX3_lineAt wsX3_lineAt) := goodIn_app (goodIn_r _ [13, 14, 15, 16] rfl rfl) ggX4_way_X3_lineAt
set_option maxRecDepth 200000 in
theorem ggX4_without_X1_hasPosts : GoodIn wsX4_without wsX1_hasPosts := goodIn_r _ [7, 8, 9, 10, 6, 11, 12, 64, 65, 66, 67, 68, 69, 70] rfl rfl
set_option maxRecDepth 200000 in
theorem gX4_without_X1_hasPosts : GoodIn wsX4_without (wsV RX4 47 RX1 yX1_hasPosts wsX1_hasPosts) := goodIn_app (goodIn_r _ [3, 4, 5, 6] rfl rfl) ggX4_without_X1_hasPosts
set_option maxRecDepth 200000 in
theorem ggX4_without_X1_hasLine : GoodIn wsX4_without wsX1_hasLine := goodIn_r _ [16, 17, 64, 65, 66, 67, 68, 69, 70] rfl rfl
set_option maxRecDepth 200000 in
theorem gX4_without_X1_hasLine : GoodIn wsX4_without (wsV RX4 73 RX1 yX1_hasLine wsX1_hasLine) := goodIn_app (goodIn_r _ [13, 14, 15, 6] rfl rfl) ggX4_without_X1_hasLine
set_option maxRecDepth 200000 in
theorem ggX4_without_X3_leastAvoiding : GoodIn wsX4_without wsX3_leastAvoiding := goodIn_r _ [22, 23, 24, 25, 26, 21, 27, 28, 29, 30, 31, 32, 33, 34, 35, 36, 6, 37, 38, 39, 40, 41, 42, 43, 44, 45, 46, 47, 48, 49, 50, 51, 52, 53, 54, 55, 56, 57, 58, 71, 72, 73, 64, 65, 66, 67, 68, 69, 70] rfl rfl
set_option maxRecDepth 200000 in
theorem gX4_without_X3_leastAvoiding : GoodIn wsX4_without (wsV RX4 120 RX3 yX3_leastAvoiding wsX3_leastAvoiding) := goodIn_app (goodIn_r _ [18, 19, 20, 21] rfl rfl) ggX4_without_X3_leastAvoiding
set_option maxRecDepth 200000 in
theorem ggX4_vital_X1_hasPosts : GoodIn wsX4_vital wsX1_hasPosts := goodIn_r _ [7, 8, 9, 10, 6, 11, 12, 106, 107, 108, 109, 110, 111, 112] rfl rfl
set_option maxRecDepth 200000 in
theorem gX4_vital_X1_hasPosts : GoodIn wsX4_vital (wsV RX4 47 RX1 yX1_hasPosts wsX1_hasPosts) := goodIn_app (goodIn_r _ [3, 4, 5, 6] rfl rfl) ggX4_vital_X1_hasPosts
set_option maxRecDepth 200000 in
theorem ggX4_vital_X3_isVital : GoodIn wsX4_vital wsX3_isVital := goodIn_r _ [17, 18, 19, 20, 16, 21, 22, 23, 24, 25, 26, 27, 28, 29, 30, 31, 32, 33, 34, 35, 36, 37, 38, 39, 40, 41, 42, 43, 44, 9, 10, 6, 11, 12, 45, 46, 47, 48, 49, 50, 51, 52, 53, 54, 55, 56, 57, 58, 59, 60, 61, 62, 63, 64, 65, 66, 67, 68, 69, 70, 71, 72, 73, 74, 75, 76, 77, 78, 79, 80, 81, 82, 83, 84, 85, 86, 87, 88, 89, 90, 91, 92, 93, 94, 95, 96, 97, 98, 99, 100, 113, 114, 115, 106, 107, 108, 109, 110, 111, 112] rfl rfl
set_option maxRecDepth 200000 in
theorem gX4_vital_X3_isVital : GoodIn wsX4_vital (wsV RX4 124 RX3 yX3_isVital wsX3_isVital) := goodIn_app (goodIn_r _ [13, 14, 15, 16] rfl rfl) ggX4_vital_X3_isVital
set_option maxRecDepth 200000 in
theorem ggX4_about_X1_hasPosts : GoodIn wsX4_about wsX1_hasPosts := goodIn_r _ [7, 8, 9, 10, 6, 11, 12, 60, 61, 62, 63, 64, 65, 66] rfl rfl
set_option maxRecDepth 200000 in
theorem gX4_about_X1_hasPosts : GoodIn wsX4_about (wsV RX4 47 RX1 yX1_hasPosts wsX1_hasPosts) := goodIn_app (goodIn_r _ [3, 4, 5, 6] rfl rfl) ggX4_about_X1_hasPosts
set_option maxRecDepth 200000 in
theorem ggX4_about_X1_hasPost : GoodIn wsX4_about wsX1_hasPost := goodIn_r _ [11, 12, 60, 61, 62, 63, 64, 65, 66] rfl rfl
set_option maxRecDepth 200000 in
theorem gX4_about_X1_hasPost : GoodIn wsX4_about (wsV RX4 128 RX1 yX1_hasPost wsX1_hasPost) := goodIn_app (goodIn_r _ [13, 9, 10, 6] rfl rfl) ggX4_about_X1_hasPost
set_option maxRecDepth 200000 in
theorem ggX4_about_X3_leastAvoiding : GoodIn wsX4_about wsX3_leastAvoiding := goodIn_r _ [18, 19, 20, 21, 22, 17, 23, 24, 25, 26, 27, 28, 29, 30, 31, 32, 6, 33, 34, 35, 36, 37, 38, 39, 40, 41, 42, 43, 44, 45, 46, 47, 48, 49, 50, 51, 52, 53, 54, 67, 68, 69, 60, 61, 62, 63, 64, 65, 66] rfl rfl
set_option maxRecDepth 200000 in
theorem gX4_about_X3_leastAvoiding : GoodIn wsX4_about (wsV RX4 120 RX3 yX3_leastAvoiding wsX3_leastAvoiding) := goodIn_app (goodIn_r _ [14, 15, 16, 17] rfl rfl) ggX4_about_X3_leastAvoiding
set_option maxRecDepth 200000 in
theorem ggX4_ring_X3_leastRing : GoodIn wsX4_ring wsX3_leastRing := goodIn_r _ [6, 7, 8, 9, 10, 5, 11, 12, 13, 14, 15, 16, 17, 18, 19, 20, 21, 22, 23, 24, 25, 26, 27, 28, 29, 30, 31, 37, 38, 39, 40, 41, 42, 43, 44, 45, 46] rfl rfl
set_option maxRecDepth 200000 in
theorem gX4_ring_X3_leastRing : GoodIn wsX4_ring (wsV RX4 131 RX3 yX3_leastRing wsX3_leastRing) := goodIn_app (goodIn_r _ [2, 3, 4, 5] rfl rfl) ggX4_ring_X3_leastRing
set_option maxRecDepth 200000 in
theorem ggX4_height_X1_hasPost : GoodIn wsX4_height wsX1_hasPost := goodIn_r _ [7, 8, 44, 45, 46, 47, 48, 49, 50] rfl rfl
set_option maxRecDepth 200000 in
theorem gX4_height_X1_hasPost : GoodIn wsX4_height (wsV RX4 128 RX1 yX1_hasPost wsX1_hasPost) := goodIn_app (goodIn_r _ [3, 4, 5, 6] rfl rfl) ggX4_height_X1_hasPost
set_option maxRecDepth 200000 in
theorem ggX4_height_X3_heightOf : GoodIn wsX4_height wsX3_heightOf := goodIn_r _ [13, 14, 15, 16, 17, 18, 19, 20, 21, 12, 22, 23, 24, 25, 26, 27, 28, 29, 30, 31, 32, 33, 34, 35, 36, 37, 38, 51, 52, 53, 44, 45, 46, 47, 48, 49, 50] rfl rfl
set_option maxRecDepth 200000 in
theorem gX4_height_X3_heightOf : GoodIn wsX4_height (wsV RX4 134 RX3 yX3_heightOf wsX3_heightOf) := goodIn_app (goodIn_r _ [9, 10, 11, 12] rfl rfl) ggX4_height_X3_heightOf
set_option maxRecDepth 200000 in
theorem ggX4_acts_X2_countActs : GoodIn wsX4_acts wsX2_countActs := goodIn_r _ [6, 7, 13, 14] rfl rfl
set_option maxRecDepth 200000 in
theorem gX4_acts_X2_countActs : GoodIn wsX4_acts (wsV RX4 137 RX2 yX2_countActs wsX2_countActs) := goodIn_app (goodIn_r _ [2, 3, 4, 5] rfl rfl) ggX4_acts_X2_countActs
set_option maxRecDepth 200000 in
theorem ggX4_moved_X2_hasAct : GoodIn wsX4_moved wsX2_hasAct := goodIn_r _ [6, 7, 26, 27] rfl rfl
set_option maxRecDepth 200000 in
theorem gX4_moved_X2_hasAct : GoodIn wsX4_moved (wsV RX4 140 RX2 yX2_hasAct wsX2_hasAct) := goodIn_app (goodIn_r _ [2, 3, 4, 5] rfl rfl) ggX4_moved_X2_hasAct
set_option maxRecDepth 200000 in
theorem ggX4_moved_X2_countMoved : GoodIn wsX4_moved wsX2_countMoved := goodIn_r _ [11, 12, 13, 14, 5, 15, 16, 17, 18, 19, 20, 26, 27] rfl rfl
set_option maxRecDepth 200000 in
theorem gX4_moved_X2_countMoved : GoodIn wsX4_moved (wsV RX4 143 RX2 yX2_countMoved wsX2_countMoved) := goodIn_app (goodIn_r _ [8, 9, 10, 5] rfl rfl) ggX4_moved_X2_countMoved
set_option maxRecDepth 200000 in
theorem ggX4_pair_X2_hasAct : GoodIn wsX4_pair wsX2_hasAct := goodIn_r _ [6, 7, 26, 27] rfl rfl
set_option maxRecDepth 200000 in
theorem gX4_pair_X2_hasAct : GoodIn wsX4_pair (wsV RX4 140 RX2 yX2_hasAct wsX2_hasAct) := goodIn_app (goodIn_r _ [2, 3, 4, 5] rfl rfl) ggX4_pair_X2_hasAct
set_option maxRecDepth 200000 in
theorem ggX4_pair_X2_movedPair : GoodIn wsX4_pair wsX2_movedPair := goodIn_r _ [11, 12, 13, 14, 5, 15, 16, 17, 18, 19, 20, 26, 27] rfl rfl
set_option maxRecDepth 200000 in
theorem gX4_pair_X2_movedPair : GoodIn wsX4_pair (wsV RX4 146 RX2 yX2_movedPair wsX2_movedPair) := goodIn_app (goodIn_r _ [8, 9, 10, 5] rfl rfl) ggX4_pair_X2_movedPair
set_option maxRecDepth 200000 in
theorem ggX4_then_X1_hasPosts : GoodIn wsX4_then wsX1_hasPosts := goodIn_r _ [7, 8, 9, 10, 6, 11, 12, 33, 34, 35, 36, 37, 38, 39] rfl rfl
set_option maxRecDepth 200000 in
theorem gX4_then_X1_hasPosts : GoodIn wsX4_then (wsV RX4 47 RX1 yX1_hasPosts wsX1_hasPosts) := goodIn_app (goodIn_r _ [3, 4, 5, 6] rfl rfl) ggX4_then_X1_hasPosts
set_option maxRecDepth 200000 in
theorem ggX4_then_X2_hasAct : GoodIn wsX4_then wsX2_hasAct := goodIn_r _ [17, 18, 40, 41] rfl rfl
set_option maxRecDepth 200000 in
theorem gX4_then_X2_hasAct : GoodIn wsX4_then (wsV RX4 140 RX2 yX2_hasAct wsX2_hasAct) := goodIn_app (goodIn_r _ [13, 14, 15, 16] rfl rfl) ggX4_then_X2_hasAct
set_option maxRecDepth 200000 in
theorem ggX4_then_X4_pairOf : GoodIn wsX4_then wsX4_pairOf := goodIn_r _ [22] rfl rfl
set_option maxRecDepth 200000 in
theorem gX4_then_X4_pairOf : GoodIn wsX4_then (va_wsS RX4 149 yX4_pairOf wsX4_pairOf) := goodIn_app (goodIn_r _ [19, 20, 21] rfl rfl) ggX4_then_X4_pairOf
set_option maxRecDepth 200000 in
theorem ggX4_then_X2_leastAsOf : GoodIn wsX4_then wsX2_leastAsOf := goodIn_r _ [26, 27, 40, 41] rfl rfl
set_option maxRecDepth 200000 in
theorem gX4_then_X2_leastAsOf : GoodIn wsX4_then (wsV RX4 152 RX2 yX2_leastAsOf wsX2_leastAsOf) := goodIn_app (goodIn_r _ [23, 24, 25, 16] rfl rfl) ggX4_then_X2_leastAsOf
set_option maxRecDepth 200000 in
theorem ggX4_since_X1_hasPosts : GoodIn wsX4_since wsX1_hasPosts := goodIn_r _ [7, 8, 9, 10, 6, 11, 12, 37, 38, 39, 40, 41, 42, 43] rfl rfl
set_option maxRecDepth 200000 in
theorem gX4_since_X1_hasPosts : GoodIn wsX4_since (wsV RX4 47 RX1 yX1_hasPosts wsX1_hasPosts) := goodIn_app (goodIn_r _ [3, 4, 5, 6] rfl rfl) ggX4_since_X1_hasPosts
set_option maxRecDepth 200000 in
theorem ggX4_since_X2_hasAct : GoodIn wsX4_since wsX2_hasAct := goodIn_r _ [17, 18, 44, 45] rfl rfl
set_option maxRecDepth 200000 in
theorem gX4_since_X2_hasAct : GoodIn wsX4_since (wsV RX4 140 RX2 yX2_hasAct wsX2_hasAct) := goodIn_app (goodIn_r _ [13, 14, 15, 16] rfl rfl) ggX4_since_X2_hasAct
set_option maxRecDepth 200000 in
theorem ggX4_since_X4_pairOf : GoodIn wsX4_since wsX4_pairOf := goodIn_r _ [22] rfl rfl
set_option maxRecDepth 200000 in
theorem gX4_since_X4_pairOf : GoodIn wsX4_since (va_wsS RX4 149 yX4_pairOf wsX4_pairOf) := goodIn_app (goodIn_r _ [19, 20, 21] rfl rfl) ggX4_since_X4_pairOf
set_option maxRecDepth 200000 in
theorem ggX4_since_X2_firstWithin : GoodIn wsX4_since wsX2_firstWithin := goodIn_r _ [26, 18, 27, 28, 29, 16, 30, 31, 44, 45] rfl rfl
set_option maxRecDepth 200000 in
theorem gX4_since_X2_firstWithin : GoodIn wsX4_since (wsV RX4 155 RX2 yX2_firstWithin wsX2_firstWithin) := goodIn_app (goodIn_r _ [23, 24, 25, 16] rfl rfl) ggX4_since_X2_firstWithin
set_option maxRecDepth 200000 in
theorem ggX4_near_X1_hasPosts : GoodIn wsX4_near wsX1_hasPosts := goodIn_r _ [8, 9, 10, 11, 7, 12, 13, 49, 50, 51, 52, 53, 54, 55] rfl rfl
set_option maxRecDepth 200000 in
theorem gX4_near_X1_hasPosts : GoodIn wsX4_near (wsV RX4 47 RX1 yX1_hasPosts wsX1_hasPosts) := goodIn_app (goodIn_r _ [4, 5, 6, 7] rfl rfl) ggX4_near_X1_hasPosts
set_option maxRecDepth 200000 in
theorem ggX4_near_X3_leastThrough : GoodIn wsX4_near wsX3_leastThrough := goodIn_r _ [18, 19, 20, 21, 22, 23, 24, 25, 26, 17, 27, 28, 29, 30, 31, 32, 33, 34, 35, 36, 37, 38, 39, 40, 41, 42, 43, 56, 57, 58, 49, 50, 51, 52, 53, 54, 55] rfl rfl
set_option maxRecDepth 200000 in
theorem gX4_near_X3_leastThrough : GoodIn wsX4_near (wsV RX4 161 RX3 yX3_leastThrough wsX3_leastThrough) := goodIn_app (goodIn_r _ [14, 15, 16, 17] rfl rfl) ggX4_near_X3_leastThrough
set_option maxRecDepth 200000 in
theorem ggX4_worst_X3_leads : GoodIn wsX4_worst wsX3_leads := goodIn_r _ [12, 13, 14, 15, 16, 17, 51, 52, 53] rfl rfl
set_option maxRecDepth 200000 in
theorem gX4_worst_X3_leads : GoodIn wsX4_worst (wsV RX4 164 RX3 yX3_leads wsX3_leads) := goodIn_app (goodIn_r _ [8, 9, 10, 11] rfl rfl) ggX4_worst_X3_leads
set_option maxRecDepth 200000 in
theorem ggX4_worst_X3_leastThrough : GoodIn wsX4_worst wsX3_leastThrough := goodIn_r _ [21, 22, 23, 24, 6, 25, 26, 9, 10, 11, 12, 13, 14, 15, 16, 17, 27, 28, 29, 30, 31, 32, 33, 34, 35, 36, 37, 51, 52, 53, 44, 45, 46, 47, 48, 49, 50] rfl rfl
set_option maxRecDepth 200000 in
theorem gX4_worst_X3_leastThrough : GoodIn wsX4_worst (wsV RX4 161 RX3 yX3_leastThrough wsX3_leastThrough) := goodIn_app (goodIn_r _ [18, 19, 20, 11] rfl rfl) ggX4_worst_X3_leastThrough
set_option maxRecDepth 200000 in
theorem ggX4_worst_X3_leastPrice : GoodIn wsX4_worst wsX3_leastPrice := goodIn_r _ [30, 13, 15, 16, 17, 31, 32, 11, 33, 14, 34, 35, 36, 37, 51, 52, 53] rfl rfl
set_option maxRecDepth 200000 in
theorem gX4_worst_X3_leastPrice : GoodIn wsX4_worst (wsV RX4 109 RX3 yX3_leastPrice wsX3_leastPrice) := goodIn_app (goodIn_r _ [38, 28, 29, 11] rfl rfl) ggX4_worst_X3_leastPrice
set_option maxRecDepth 200000 in
theorem ggX4_hits_X0_askFor : GoodIn wsX4_hits wsX0_askFor := goodIn_r _ [8, 9, 10, 11, 12, 13, 14, 15, 16, 17, 18, 19, 20, 21, 22, 23, 24, 25, 26, 27, 28, 29, 30, 31, 32, 33, 34, 35, 36, 37, 38, 39, 40, 41, 42, 43, 44, 45, 46, 47, 48, 49, 50, 51, 52, 53, 54, 55, 56, 57, 58, 59, 60, 61, 89, 90, 91, 92, 93, 82, 83, 84, 85, 86, 87, 88] rfl rfl
set_option maxRecDepth 200000 in
theorem gX4_hits_X0_askFor : GoodIn wsX4_hits (wsV RX4 172 RX0 yX0_askFor wsX0_askFor) := goodIn_app (goodIn_r _ [4, 5, 6, 7] rfl rfl) ggX4_hits_X0_askFor
set_option maxRecDepth 200000 in
theorem ggX4_hits_X0_fewest : GoodIn wsX4_hits wsX0_fewest := goodIn_r _ [65, 66, 67, 68, 69, 70, 71, 72, 73, 74, 75, 7, 76, 9, 10, 89, 90] rfl rfl
set_option maxRecDepth 200000 in
theorem gX4_hits_X0_fewest : GoodIn wsX4_hits (wsV RX4 176 RX0 yX0_fewest wsX0_fewest) := goodIn_app (goodIn_r _ [62, 63, 64, 7] rfl rfl) ggX4_hits_X0_fewest
set_option maxRecDepth 200000 in
theorem ggX4_count_X1_countThere : GoodIn wsX4_count wsX1_countThere := goodIn_r _ [8, 9, 10, 38, 39, 40, 41, 42, 43, 44] rfl rfl
set_option maxRecDepth 200000 in
theorem gX4_count_X1_countThere : GoodIn wsX4_count (wsV RX4 91 RX1 yX1_countThere wsX1_countThere) := goodIn_app (goodIn_r _ [4, 5, 6, 7] rfl rfl) ggX4_count_X1_countThere
set_option maxRecDepth 200000 in
theorem ggX4_count_X3_countLinked : GoodIn wsX4_count wsX3_countLinked := goodIn_r _ [15, 16, 17, 18, 19, 14, 20, 21, 22, 23, 24, 25, 45, 46, 47, 38, 39, 40, 41, 42, 43, 44] rfl rfl
set_option maxRecDepth 200000 in
theorem gX4_count_X3_countLinked : GoodIn wsX4_count (wsV RX4 179 RX3 yX3_countLinked wsX3_countLinked) := goodIn_app (goodIn_r _ [11, 12, 13, 14] rfl rfl) ggX4_count_X3_countLinked
set_option maxRecDepth 200000 in
theorem ggX4_count_J6_bitCount_0f7a4 : GoodIn wsX4_count wsJ6_bitCount_0f7a4 := goodIn_r _ [29, 30, 31, 32] rfl rfl
set_option maxRecDepth 200000 in
theorem gX4_count_J6_bitCount_0f7a4 : GoodIn wsX4_count (va_wsS RX4 182 yJ6_bitCount_0f7a4 wsJ6_bitCount_0f7a4) := goodIn_app (goodIn_r _ [26, 27, 28] rfl rfl) ggX4_count_J6_bitCount_0f7a4
set_option maxRecDepth 200000 in
theorem ggX4_restart_X1_clear : GoodIn wsX4_restart wsX1_clear := goodIn_r _ [8, 9, 10, 110, 111, 112, 113, 114, 115, 116] rfl rfl
set_option maxRecDepth 200000 in
theorem gX4_restart_X1_clear : GoodIn wsX4_restart (wsV RX4 187 RX1 yX1_clear wsX1_clear) := goodIn_app (goodIn_r _ [4, 5, 6, 7] rfl rfl) ggX4_restart_X1_clear
set_option maxRecDepth 200000 in
theorem ggX4_restart_X2_clear : GoodIn wsX4_restart wsX2_clear := goodIn_r _ [15, 16, 117, 118] rfl rfl
set_option maxRecDepth 200000 in
theorem gX4_restart_X2_clear : GoodIn wsX4_restart (wsV RX4 190 RX2 yX2_clear wsX2_clear) := goodIn_app (goodIn_r _ [11, 12, 13, 14] rfl rfl) ggX4_restart_X2_clear
set_option maxRecDepth 200000 in
theorem ggX4_restart_X4_keepAct : GoodIn wsX4_restart wsX4_keepAct := goodIn_r _ [21, 22, 2, 23, 24, 25, 26, 27, 28, 29, 30, 31, 32, 33, 34, 35, 36, 37, 38, 39, 40, 41, 42, 43, 44, 45, 46, 7, 47, 48, 49, 50, 51, 52, 53, 54, 55, 56, 57, 58, 59, 60, 61, 62, 20, 63, 64, 65, 66, 14, 67, 68, 16, 69, 70, 71, 72, 73, 74, 75, 76, 77, 78, 79, 80, 81, 82, 83, 84, 85, 86, 87, 88, 89, 90, 91, 92, 93, 94, 95, 96, 97, 98, 99, 100, 101, 102, 103, 104, 105, 106, 107, 108, 109, 119, 120, 121, 110, 111, 112, 113, 114, 115, 116, 117, 118] rfl rfl
set_option maxRecDepth 200000 in
theorem gX4_restart_X4_keepAct : GoodIn wsX4_restart (wsV RX4 70 RX4 yX4_keepAct wsX4_keepAct) := goodIn_app (goodIn_r _ [17, 18, 19, 20] rfl rfl) ggX4_restart_X4_keepAct
set_option maxRecDepth 200000 in
theorem ggX4_keepAct_X3_measure : GoodIn wsX4_keepAct wsX3_measure := goodIn_r _ [7, 8, 9, 10, 11, 12, 13, 14, 15, 16, 17, 18, 19, 20, 21, 22, 6, 23, 24, 25, 26, 27, 28, 29, 30, 31, 32, 33, 34, 35, 36, 37, 38, 39, 40, 41, 42, 43, 44, 45, 94, 95, 96, 97, 98, 99, 100, 101, 102, 103] rfl rfl
set_option maxRecDepth 200000 in
theorem gX4_keepAct_X3_measure : GoodIn wsX4_keepAct (wsV RX4 192 RX3 yX3_measure wsX3_measure) := goodIn_app (goodIn_r _ [3, 4, 5, 6] rfl rfl) ggX4_keepAct_X3_measure
set_option maxRecDepth 200000 in
theorem ggX4_keepAct_X2_keep : GoodIn wsX4_keepAct wsX2_keep := goodIn_r _ [50, 51, 52, 53, 54, 55, 49, 56, 57, 58, 59, 60, 61, 62, 63, 64, 65, 66, 67, 18, 68, 69, 70, 71, 72, 73, 74, 75, 76, 77, 13, 14, 15, 78, 79, 80, 6, 81, 8, 43, 44, 45, 82, 83, 84, 9, 85, 86, 87, 88, 104, 105, 94, 95, 96] rfl rfl
set_option maxRecDepth 200000 in
theorem gX4_keepAct_X2_keep : GoodIn wsX4_keepAct (wsV RX4 195 RX2 yX2_keep wsX2_keep) := goodIn_app (goodIn_r _ [46, 47, 48, 49] rfl rfl) ggX4_keepAct_X2_keep
set_option maxRecDepth 200000 in
theorem ggX4_wouldSinkAt_X3_wouldSink : GoodIn wsX4_wouldSinkAt wsX3_wouldSink := goodIn_r _ [7, 8, 9, 10, 6, 11, 12, 13, 14, 15, 16, 17, 18, 19, 20, 21, 22, 23, 24, 25, 26, 27, 28, 29, 30, 31, 32, 33, 34, 35, 36, 37, 38, 39, 40, 41, 42, 43, 44, 45, 46, 47, 48, 49, 50, 51, 64, 65, 66, 57, 58, 59, 60, 61, 62, 63] rfl rfl
set_option maxRecDepth 200000 in
theorem gX4_wouldSinkAt_X3_wouldSink : GoodIn wsX4_wouldSinkAt (wsV RX4 55 RX3 yX3_wouldSink wsX3_wouldSink) := goodIn_app (goodIn_r _ [3, 4, 5, 6] rfl rfl) ggX4_wouldSinkAt_X3_wouldSink
set_option maxRecDepth 200000 in
theorem ggX5_init_X5_learn : GoodIn wsX5_init wsX5_learn := goodIn_r _ [20, 12, 21, 22, 11, 6, 7, 8, 10, 4, 31, 32, 33, 34, 35, 36, 37, 38, 39, 40, 41, 42, 43] rfl rfl
set_option maxRecDepth 200000 in
theorem gX5_init_X5_learn : GoodIn wsX5_init (wsV RX5 40 RX5 yX5_learn wsX5_learn) := goodIn_app (goodIn_r _ [16, 17, 18, 19] rfl rfl) ggX5_init_X5_learn
set_option maxRecDepth 200000 in
theorem ggX5_init_X5_keep : GoodIn wsX5_init wsX5_keep := goodIn_r _ [26, 14, 27, 12, 28, 29, 19, 30, 21, 31, 32, 33, 34, 35, 36, 37, 38, 39, 40, 41, 42, 43] rfl rfl
set_option maxRecDepth 200000 in
theorem gX5_init_X5_keep : GoodIn wsX5_init (wsV RX5 44 RX5 yX5_keep wsX5_keep) := goodIn_app (goodIn_r _ [23, 24, 25, 19] rfl rfl) ggX5_init_X5_keep
set_option maxRecDepth 200000 in
theorem ggX5_noPost_X5_in : GoodIn wsX5_noPost wsX5_in := goodIn_r _ [5] rfl rfl
set_option maxRecDepth 200000 in
theorem gX5_noPost_X5_in : GoodIn wsX5_noPost (va_wsS RX5 50 yX5_in wsX5_in) := goodIn_app (goodIn_r _ [2, 3, 4] rfl rfl) ggX5_noPost_X5_in
set_option maxRecDepth 200000 in
theorem ggX5_noLine_X5_in : GoodIn wsX5_noLine wsX5_in := goodIn_r _ [5] rfl rfl
set_option maxRecDepth 200000 in
theorem gX5_noLine_X5_in : GoodIn wsX5_noLine (va_wsS RX5 50 yX5_in wsX5_in) := goodIn_app (goodIn_r _ [2, 3, 4] rfl rfl) ggX5_noLine_X5_in
set_option maxRecDepth 200000 in
theorem ggX5_farOf_X5_coarse : GoodIn wsX5_farOf wsX5_coarse := goodIn_r _ [5, 6] rfl rfl
set_option maxRecDepth 200000 in
theorem gX5_farOf_X5_coarse : GoodIn wsX5_farOf (va_wsS RX5 58 yX5_coarse wsX5_coarse) := goodIn_app (goodIn_r _ [2, 3, 4] rfl rfl) ggX5_farOf_X5_coarse
set_option maxRecDepth 200000 in
theorem ggX5_keep_X5_coarse : GoodIn wsX5_keep wsX5_coarse := goodIn_r _ [7, 8] rfl rfl
set_option maxRecDepth 200000 in
theorem gX5_keep_X5_coarse : GoodIn wsX5_keep (va_wsS RX5 58 yX5_coarse wsX5_coarse) := goodIn_app (goodIn_r _ [4, 5, 6] rfl rfl) ggX5_keep_X5_coarse
set_option maxRecDepth 200000 in
theorem ggX5_did_X5_learn : GoodIn wsX5_did wsX5_learn := goodIn_r _ [6, 7, 8, 9, 10, 11, 12, 13, 14, 15, 24, 25, 26, 27, 28, 29, 30, 31, 32, 33, 34, 35, 36] rfl rfl
set_option maxRecDepth 200000 in
theorem gX5_did_X5_learn : GoodIn wsX5_did (wsV RX5 40 RX5 yX5_learn wsX5_learn) := goodIn_app (goodIn_r _ [2, 3, 4, 5] rfl rfl) ggX5_did_X5_learn
set_option maxRecDepth 200000 in
theorem ggX5_did_X5_keep : GoodIn wsX5_did wsX5_keep := goodIn_r _ [19, 20, 1, 7, 21, 22, 5, 23, 8, 24, 25, 26, 27, 28, 29, 30, 31, 32, 33, 34, 35, 36] rfl rfl
set_option maxRecDepth 200000 in
theorem gX5_did_X5_keep : GoodIn wsX5_did (wsV RX5 44 RX5 yX5_keep wsX5_keep) := goodIn_app (goodIn_r _ [16, 17, 18, 5] rfl rfl) ggX5_did_X5_keep
set_option maxRecDepth 200000 in
theorem ggX5_posts_X5_in : GoodIn wsX5_posts wsX5_in := goodIn_r _ [11] rfl rfl
set_option maxRecDepth 200000 in
theorem gX5_posts_X5_in : GoodIn wsX5_posts (va_wsS RX5 50 yX5_in wsX5_in) := goodIn_app (goodIn_r _ [8, 9, 10] rfl rfl) ggX5_posts_X5_in
set_option maxRecDepth 200000 in
theorem ggX5_posts_X5_learn : GoodIn wsX5_posts wsX5_learn := goodIn_r _ [15, 16, 17, 5, 18, 19, 20, 21, 22, 4, 31, 32, 33, 34, 35, 36, 37, 38, 39, 40, 41, 42, 43] rfl rfl
set_option maxRecDepth 200000 in
theorem gX5_posts_X5_learn : GoodIn wsX5_posts (wsV RX5 40 RX5 yX5_learn wsX5_learn) := goodIn_app (goodIn_r _ [12, 13, 14, 10] rfl rfl) ggX5_posts_X5_learn
set_option maxRecDepth 200000 in
theorem ggX5_posts_X5_keep : GoodIn wsX5_posts wsX5_keep := goodIn_r _ [26, 27, 6, 16, 28, 29, 10, 30, 17, 31, 32, 33, 34, 35, 36, 37, 38, 39, 40, 41, 42, 43] rfl rfl
set_option maxRecDepth 200000 in
theorem gX5_posts_X5_keep : GoodIn wsX5_posts (wsV RX5 44 RX5 yX5_keep wsX5_keep) := goodIn_app (goodIn_r _ [23, 24, 25, 10] rfl rfl) ggX5_posts_X5_keep
set_option maxRecDepth 200000 in
theorem ggX5_line_X5_noPost : GoodIn wsX5_line wsX5_noPost := goodIn_r _ [15, 16, 17, 18, 14, 19, 42, 43, 44, 45, 46, 47, 48, 49, 50, 51, 52, 53, 54] rfl rfl
set_option maxRecDepth 200000 in
theorem gX5_line_X5_noPost : GoodIn wsX5_line (wsV RX5 72 RX5 yX5_noPost wsX5_noPost) := goodIn_app (goodIn_r _ [11, 12, 13, 14] rfl rfl) ggX5_line_X5_noPost
set_option maxRecDepth 200000 in
theorem ggX5_line_X5_in : GoodIn wsX5_line wsX5_in := goodIn_r _ [19] rfl rfl
set_option maxRecDepth 200000 in
theorem gX5_line_X5_in : GoodIn wsX5_line (va_wsS RX5 50 yX5_in wsX5_in) := goodIn_app (goodIn_r _ [17, 18, 14] rfl rfl) ggX5_line_X5_in
set_option maxRecDepth 200000 in
theorem ggX5_line_X5_learn : GoodIn wsX5_line wsX5_learn := goodIn_r _ [23, 24, 25, 4, 10, 6, 7, 8, 9, 16, 42, 43, 44, 45, 46, 47, 48, 49, 50, 51, 52, 53, 54] rfl rfl
set_option maxRecDepth 200000 in
theorem gX5_line_X5_learn : GoodIn wsX5_line (wsV RX5 40 RX5 yX5_learn wsX5_learn) := goodIn_app (goodIn_r _ [20, 21, 22, 14] rfl rfl) ggX5_line_X5_learn
set_option maxRecDepth 200000 in
theorem ggX5_line_X5_farOf : GoodIn wsX5_line wsX5_farOf := goodIn_r _ [29, 24, 30, 31, 14, 32, 25, 42, 43, 44, 45, 46, 47, 48, 49, 50, 51, 52, 53, 54] rfl rfl
set_option maxRecDepth 200000 in
theorem gX5_line_X5_farOf : GoodIn wsX5_line (wsV RX5 80 RX5 yX5_farOf wsX5_farOf) := goodIn_app (goodIn_r _ [26, 27, 28, 14] rfl rfl) ggX5_line_X5_farOf
set_option maxRecDepth 200000 in
theorem ggX5_line_X5_did : GoodIn wsX5_line wsX5_did := goodIn_r _ [36, 5, 20, 21, 22, 14, 23, 24, 25, 4, 10, 6, 7, 8, 9, 16, 37, 38, 39, 40, 41, 30, 31, 32, 42, 43, 44, 45, 46, 47, 48, 49, 50, 51, 52, 53, 54] rfl rfl
set_option maxRecDepth 200000 in
theorem gX5_line_X5_did : GoodIn wsX5_line (wsV RX5 84 RX5 yX5_did wsX5_did) := goodIn_app (goodIn_r _ [33, 34, 35, 14] rfl rfl) ggX5_line_X5_did
set_option maxRecDepth 200000 in
theorem ggX5_price_X5_noLine : GoodIn wsX5_price wsX5_noLine := goodIn_r _ [11, 12, 13, 14, 10, 15, 38, 39, 40, 41, 42, 43, 44, 45, 46, 47, 48, 49, 50] rfl rfl
set_option maxRecDepth 200000 in
theorem gX5_price_X5_noLine : GoodIn wsX5_price (wsV RX5 87 RX5 yX5_noLine wsX5_noLine) := goodIn_app (goodIn_r _ [7, 8, 9, 10] rfl rfl) ggX5_price_X5_noLine
set_option maxRecDepth 200000 in
theorem ggX5_price_X5_in : GoodIn wsX5_price wsX5_in := goodIn_r _ [15] rfl rfl
set_option maxRecDepth 200000 in
theorem gX5_price_X5_in : GoodIn wsX5_price (va_wsS RX5 50 yX5_in wsX5_in) := goodIn_app (goodIn_r _ [13, 14, 10] rfl rfl) ggX5_price_X5_in
set_option maxRecDepth 200000 in
theorem ggX5_price_X5_learn : GoodIn wsX5_price wsX5_learn := goodIn_r _ [19, 20, 21, 12, 22, 23, 24, 5, 2, 25, 38, 39, 40, 41, 42, 43, 44, 45, 46, 47, 48, 49, 50] rfl rfl
set_option maxRecDepth 200000 in
theorem gX5_price_X5_learn : GoodIn wsX5_price (wsV RX5 40 RX5 yX5_learn wsX5_learn) := goodIn_app (goodIn_r _ [16, 17, 18, 10] rfl rfl) ggX5_price_X5_learn
set_option maxRecDepth 200000 in
theorem ggX5_price_X5_did : GoodIn wsX5_price wsX5_did := goodIn_r _ [29, 6, 16, 17, 18, 10, 19, 20, 21, 12, 22, 23, 24, 5, 2, 25, 30, 31, 32, 33, 34, 35, 36, 37, 38, 39, 40, 41, 42, 43, 44, 45, 46, 47, 48, 49, 50] rfl rfl
set_option maxRecDepth 200000 in
theorem gX5_price_X5_did : GoodIn wsX5_price (wsV RX5 84 RX5 yX5_did wsX5_did) := goodIn_app (goodIn_r _ [26, 27, 28, 10] rfl rfl) ggX5_price_X5_did
set_option maxRecDepth 200000 in
theorem ggX5_cut_X5_noLine : GoodIn wsX5_cut wsX5_noLine := goodIn_r _ [8, 9, 10, 11, 7, 12, 40, 41, 42, 43, 44, 45, 46, 47, 48, 49, 50, 51, 52] rfl rfl
set_option maxRecDepth 200000 in
theorem gX5_cut_X5_noLine : GoodIn wsX5_cut (wsV RX5 87 RX5 yX5_noLine wsX5_noLine) := goodIn_app (goodIn_r _ [4, 5, 6, 7] rfl rfl) ggX5_cut_X5_noLine
set_option maxRecDepth 200000 in
theorem ggX5_cut_X5_did : GoodIn wsX5_cut wsX5_did := goodIn_r _ [16, 3, 17, 18, 19, 7, 20, 21, 22, 9, 2, 23, 24, 25, 26, 27, 28, 29, 30, 31, 32, 33, 34, 35, 40, 41, 42, 43, 44, 45, 46, 47, 48, 49, 50, 51, 52] rfl rfl
set_option maxRecDepth 200000 in
theorem gX5_cut_X5_did : GoodIn wsX5_cut (wsV RX5 84 RX5 yX5_did wsX5_did) := goodIn_app (goodIn_r _ [13, 14, 15, 7] rfl rfl) ggX5_cut_X5_did
set_option maxRecDepth 200000 in
theorem ggX5_cut_X5_there : GoodIn wsX5_cut wsX5_there := goodIn_r _ [39, 9, 2, 40, 41, 42, 43, 44, 45, 46, 47, 48, 49, 50, 51, 52] rfl rfl
set_option maxRecDepth 200000 in
theorem gX5_cut_X5_there : GoodIn wsX5_cut (wsV RX5 90 RX5 yX5_there wsX5_there) := goodIn_app (goodIn_r _ [36, 37, 38, 7] rfl rfl) ggX5_cut_X5_there
set_option maxRecDepth 200000 in
theorem ggX5_back_X5_noLine : GoodIn wsX5_back wsX5_noLine := goodIn_r _ [8, 9, 10, 11, 7, 12, 40, 41, 42, 43, 44, 45, 46, 47, 48, 49, 50, 51, 52] rfl rfl
set_option maxRecDepth 200000 in
theorem gX5_back_X5_noLine : GoodIn wsX5_back (wsV RX5 87 RX5 yX5_noLine wsX5_noLine) := goodIn_app (goodIn_r _ [4, 5, 6, 7] rfl rfl) ggX5_back_X5_noLine
set_option maxRecDepth 200000 in
theorem ggX5_back_X5_learn : GoodIn wsX5_back wsX5_learn := goodIn_r _ [16, 17, 18, 9, 2, 19, 20, 21, 22, 23, 40, 41, 42, 43, 44, 45, 46, 47, 48, 49, 50, 51, 52] rfl rfl
set_option maxRecDepth 200000 in
theorem gX5_back_X5_learn : GoodIn wsX5_back (wsV RX5 40 RX5 yX5_learn wsX5_learn) := goodIn_app (goodIn_r _ [13, 14, 15, 7] rfl rfl) ggX5_back_X5_learn
set_option maxRecDepth 200000 in
theorem ggX5_back_X5_did : GoodIn wsX5_back wsX5_did := goodIn_r _ [27, 3, 13, 14, 15, 7, 16, 17, 18, 9, 2, 19, 20, 21, 22, 23, 28, 29, 30, 31, 32, 33, 34, 35, 40, 41, 42, 43, 44, 45, 46, 47, 48, 49, 50, 51, 52] rfl rfl
set_option maxRecDepth 200000 in
theorem gX5_back_X5_did : GoodIn wsX5_back (wsV RX5 84 RX5 yX5_did wsX5_did) := goodIn_app (goodIn_r _ [24, 25, 26, 7] rfl rfl) ggX5_back_X5_did
set_option maxRecDepth 200000 in
theorem ggX5_back_X5_there : GoodIn wsX5_back wsX5_there := goodIn_r _ [39, 9, 2, 40, 41, 42, 43, 44, 45, 46, 47, 48, 49, 50, 51, 52] rfl rfl
set_option maxRecDepth 200000 in
theorem gX5_back_X5_there : GoodIn wsX5_back (wsV RX5 90 RX5 yX5_there wsX5_there) := goodIn_app (goodIn_r _ [36, 37, 38, 7] rfl rfl) ggX5_back_X5_there
set_option maxRecDepth 200000 in
theorem ggX5_heightOf_X5_farOf : GoodIn wsX5_heightOf wsX5_farOf := goodIn_r _ [6, 7, 8, 9, 5, 10, 11, 12, 13, 14, 15, 16, 17, 18, 19, 20, 21, 22, 23, 24] rfl rfl
set_option maxRecDepth 200000 in
theorem gX5_heightOf_X5_farOf : GoodIn wsX5_heightOf (wsV RX5 80 RX5 yX5_farOf wsX5_farOf) := goodIn_app (goodIn_r _ [2, 3, 4, 5] rfl rfl) ggX5_heightOf_X5_farOf
set_option maxRecDepth 200000 in
theorem ggX5_told_X5_noLine : GoodIn wsX5_told wsX5_noLine := goodIn_r _ [11, 12, 13, 14, 10, 15, 34, 35, 36, 37, 38, 39, 40, 41, 42, 43, 44, 45, 46] rfl rfl
set_option maxRecDepth 200000 in
theorem gX5_told_X5_noLine : GoodIn wsX5_told (wsV RX5 87 RX5 yX5_noLine wsX5_noLine) := goodIn_app (goodIn_r _ [7, 8, 9, 10] rfl rfl) ggX5_told_X5_noLine
set_option maxRecDepth 200000 in
theorem ggX5_told_X5_learn : GoodIn wsX5_told wsX5_learn := goodIn_r _ [19, 20, 21, 12, 6, 2, 3, 4, 5, 22, 34, 35, 36, 37, 38, 39, 40, 41, 42, 43, 44, 45, 46] rfl rfl
set_option maxRecDepth 200000 in
theorem gX5_told_X5_learn : GoodIn wsX5_told (wsV RX5 40 RX5 yX5_learn wsX5_learn) := goodIn_app (goodIn_r _ [16, 17, 18, 10] rfl rfl) ggX5_told_X5_learn
set_option maxRecDepth 200000 in
theorem ggX5_told_X5_heightOf : GoodIn wsX5_told wsX5_heightOf := goodIn_r _ [26, 22, 27, 28, 29, 10, 30, 20, 31, 32, 33, 21, 34, 35, 36, 37, 38, 39, 40, 41, 42, 43, 44, 45, 46] rfl rfl
set_option maxRecDepth 200000 in
theorem gX5_told_X5_heightOf : GoodIn wsX5_told (wsV RX5 94 RX5 yX5_heightOf wsX5_heightOf) := goodIn_app (goodIn_r _ [23, 24, 25, 10] rfl rfl) ggX5_told_X5_heightOf
set_option maxRecDepth 200000 in
theorem ggX5_far_X5_noPost : GoodIn wsX5_far wsX5_noPost := goodIn_r _ [6, 7, 8, 9, 5, 10, 30, 31, 32, 33, 34, 35, 36, 37, 38, 39, 40, 41, 42] rfl rfl
set_option maxRecDepth 200000 in
theorem gX5_far_X5_noPost : GoodIn wsX5_far (wsV RX5 72 RX5 yX5_noPost wsX5_noPost) := goodIn_app (goodIn_r _ [2, 3, 4, 5] rfl rfl) ggX5_far_X5_noPost
set_option maxRecDepth 200000 in
theorem ggX5_far_X5_learn : GoodIn wsX5_far wsX5_learn := goodIn_r _ [14, 15, 16, 17, 18, 19, 20, 21, 22, 7, 30, 31, 32, 33, 34, 35, 36, 37, 38, 39, 40, 41, 42] rfl rfl
set_option maxRecDepth 200000 in
theorem gX5_far_X5_learn : GoodIn wsX5_far (wsV RX5 40 RX5 yX5_learn wsX5_learn) := goodIn_app (goodIn_r _ [11, 12, 13, 5] rfl rfl) ggX5_far_X5_learn
set_option maxRecDepth 200000 in
theorem ggX5_far_X5_farOf : GoodIn wsX5_far wsX5_farOf := goodIn_r _ [26, 15, 27, 28, 5, 29, 16, 30, 31, 32, 33, 34, 35, 36, 37, 38, 39, 40, 41, 42] rfl rfl
set_option maxRecDepth 200000 in
theorem gX5_far_X5_farOf : GoodIn wsX5_far (wsV RX5 80 RX5 yX5_farOf wsX5_farOf) := goodIn_app (goodIn_r _ [23, 24, 25, 5] rfl rfl) ggX5_far_X5_farOf
set_option maxRecDepth 200000 in
theorem ggX5_steps_X5_noPost : GoodIn wsX5_steps wsX5_noPost := goodIn_r _ [8, 9, 10, 11, 7, 12, 26, 27, 28, 29, 30, 31, 32, 33, 34, 35, 36, 37, 38] rfl rfl
set_option maxRecDepth 200000 in
theorem gX5_steps_X5_noPost : GoodIn wsX5_steps (wsV RX5 72 RX5 yX5_noPost wsX5_noPost) := goodIn_app (goodIn_r _ [4, 5, 6, 7] rfl rfl) ggX5_steps_X5_noPost
set_option maxRecDepth 200000 in
theorem ggX5_steps_X5_learn : GoodIn wsX5_steps wsX5_learn := goodIn_r _ [16, 2, 3, 17, 18, 19, 20, 21, 22, 9, 26, 27, 28, 29, 30, 31, 32, 33, 34, 35, 36, 37, 38] rfl rfl
set_option maxRecDepth 200000 in
theorem gX5_steps_X5_learn : GoodIn wsX5_steps (wsV RX5 40 RX5 yX5_learn wsX5_learn) := goodIn_app (goodIn_r _ [13, 14, 15, 7] rfl rfl) ggX5_steps_X5_learn
set_option maxRecDepth 200000 in
theorem ggX5_steps_X5_coarse : GoodIn wsX5_steps wsX5_coarse := goodIn_r _ [25, 3] rfl rfl
set_option maxRecDepth 200000 in
theorem gX5_steps_X5_coarse : GoodIn wsX5_steps (va_wsS RX5 58 yX5_coarse wsX5_coarse) := goodIn_app (goodIn_r _ [23, 24, 7] rfl rfl) ggX5_steps_X5_coarse
set_option maxRecDepth 200000 in
theorem ggX5_way_X5_noPost : GoodIn wsX5_way wsX5_noPost := goodIn_r _ [8, 9, 10, 11, 7, 12, 34, 35, 36, 37, 38, 39, 40, 41, 42, 43, 44, 45, 46] rfl rfl
set_option maxRecDepth 200000 in
theorem gX5_way_X5_noPost : GoodIn wsX5_way (wsV RX5 72 RX5 yX5_noPost wsX5_noPost) := goodIn_app (goodIn_r _ [4, 5, 6, 7] rfl rfl) ggX5_way_X5_noPost
set_option maxRecDepth 200000 in
theorem ggX5_way_X5_learn : GoodIn wsX5_way wsX5_learn := goodIn_r _ [16, 2, 3, 17, 18, 19, 20, 21, 22, 9, 34, 35, 36, 37, 38, 39, 40, 41, 42, 43, 44, 45, 46] rfl rfl
set_option maxRecDepth 200000 in
theorem gX5_way_X5_learn : GoodIn wsX5_way (wsV RX5 40 RX5 yX5_learn wsX5_learn) := goodIn_app (goodIn_r _ [13, 14, 15, 7] rfl rfl) ggX5_way_X5_learn
set_option maxRecDepth 200000 in
theorem ggX5_way_X5_coarse : GoodIn wsX5_way wsX5_coarse := goodIn_r _ [25, 3] rfl rfl
set_option maxRecDepth 200000 in
theorem gX5_way_X5_coarse : GoodIn wsX5_way (va_wsS RX5 58 yX5_coarse wsX5_coarse) := goodIn_app (goodIn_r _ [23, 24, 7] rfl rfl) ggX5_way_X5_coarse
set_option maxRecDepth 200000 in
theorem ggX5_way_X5_in : GoodIn wsX5_way wsX5_in := goodIn_r _ [12] rfl rfl
set_option maxRecDepth 200000 in
theorem gX5_way_X5_in : GoodIn wsX5_way (va_wsS RX5 50 yX5_in wsX5_in) := goodIn_app (goodIn_r _ [10, 11, 7] rfl rfl) ggX5_way_X5_in
set_option maxRecDepth 200000 in
theorem ggX5_way_X5_nextOf : GoodIn wsX5_way wsX5_nextOf := goodIn_r _ [29, 17, 19, 20, 22, 18, 2, 3, 21, 34, 35, 36, 37, 38, 39, 40, 41, 42, 43, 44, 45, 46] rfl rfl
set_option maxRecDepth 200000 in
theorem gX5_way_X5_nextOf : GoodIn wsX5_way (wsV RX5 97 RX5 yX5_nextOf wsX5_nextOf) := goodIn_app (goodIn_r _ [26, 27, 28, 7] rfl rfl) ggX5_way_X5_nextOf
set_option maxRecDepth 200000 in
theorem ggX5_way_X5_other : GoodIn wsX5_way wsX5_other := goodIn_r _ [33, 19, 20, 34, 35, 36, 37, 38, 39, 40, 41, 42, 43, 44, 45, 46] rfl rfl
set_option maxRecDepth 200000 in
theorem gX5_way_X5_other : GoodIn wsX5_way (wsV RX5 100 RX5 yX5_other wsX5_other) := goodIn_app (goodIn_r _ [30, 31, 32, 7] rfl rfl) ggX5_way_X5_other
set_option maxRecDepth 200000 in
theorem ggX5_without_X5_noPost : GoodIn wsX5_without wsX5_noPost := goodIn_r _ [6, 7, 8, 9, 5, 10, 34, 35, 36, 37, 38, 39, 40, 41, 42, 43, 44, 45, 46] rfl rfl
set_option maxRecDepth 200000 in
theorem gX5_without_X5_noPost : GoodIn wsX5_without (wsV RX5 72 RX5 yX5_noPost wsX5_noPost) := goodIn_app (goodIn_r _ [2, 3, 4, 5] rfl rfl) ggX5_without_X5_noPost
set_option maxRecDepth 200000 in
theorem ggX5_without_X5_noLine : GoodIn wsX5_without wsX5_noLine := goodIn_r _ [14, 15, 8, 9, 5, 10, 34, 35, 36, 37, 38, 39, 40, 41, 42, 43, 44, 45, 46] rfl rfl
set_option maxRecDepth 200000 in
theorem gX5_without_X5_noLine : GoodIn wsX5_without (wsV RX5 87 RX5 yX5_noLine wsX5_noLine) := goodIn_app (goodIn_r _ [11, 12, 13, 5] rfl rfl) ggX5_without_X5_noLine
set_option maxRecDepth 200000 in
theorem ggX5_without_X5_learn : GoodIn wsX5_without wsX5_learn := goodIn_r _ [19, 20, 21, 15, 22, 23, 24, 25, 26, 7, 34, 35, 36, 37, 38, 39, 40, 41, 42, 43, 44, 45, 46] rfl rfl
set_option maxRecDepth 200000 in
theorem gX5_without_X5_learn : GoodIn wsX5_without (wsV RX5 40 RX5 yX5_learn wsX5_learn) := goodIn_app (goodIn_r _ [16, 17, 18, 5] rfl rfl) ggX5_without_X5_learn
set_option maxRecDepth 200000 in
theorem ggX5_without_X5_farOf : GoodIn wsX5_without wsX5_farOf := goodIn_r _ [30, 20, 31, 32, 5, 33, 21, 34, 35, 36, 37, 38, 39, 40, 41, 42, 43, 44, 45, 46] rfl rfl
set_option maxRecDepth 200000 in
theorem gX5_without_X5_farOf : GoodIn wsX5_without (wsV RX5 80 RX5 yX5_farOf wsX5_farOf) := goodIn_app (goodIn_r _ [27, 28, 29, 5] rfl rfl) ggX5_without_X5_farOf
set_option maxRecDepth 200000 in
theorem ggX5_vital_X5_noPost : GoodIn wsX5_vital wsX5_noPost := goodIn_r _ [7, 8, 9, 10, 6, 11, 30, 31, 32, 33, 34, 35, 36, 37, 38, 39, 40, 41, 42] rfl rfl
set_option maxRecDepth 200000 in
theorem gX5_vital_X5_noPost : GoodIn wsX5_vital (wsV RX5 72 RX5 yX5_noPost wsX5_noPost) := goodIn_app (goodIn_r _ [3, 4, 5, 6] rfl rfl) ggX5_vital_X5_noPost
set_option maxRecDepth 200000 in
theorem ggX5_vital_X5_learn : GoodIn wsX5_vital wsX5_learn := goodIn_r _ [15, 16, 17, 2, 18, 19, 20, 21, 22, 8, 30, 31, 32, 33, 34, 35, 36, 37, 38, 39, 40, 41, 42] rfl rfl
set_option maxRecDepth 200000 in
theorem gX5_vital_X5_learn : GoodIn wsX5_vital (wsV RX5 40 RX5 yX5_learn wsX5_learn) := goodIn_app (goodIn_r _ [12, 13, 14, 6] rfl rfl) ggX5_vital_X5_learn
set_option maxRecDepth 200000 in
theorem ggX5_vital_X5_farOf : GoodIn wsX5_vital wsX5_farOf := goodIn_r _ [26, 16, 27, 28, 6, 29, 17, 30, 31, 32, 33, 34, 35, 36, 37, 38, 39, 40, 41, 42] rfl rfl
set_option maxRecDepth 200000 in
theorem gX5_vital_X5_farOf : GoodIn wsX5_vital (wsV RX5 80 RX5 yX5_farOf wsX5_farOf) := goodIn_app (goodIn_r _ [23, 24, 25, 6] rfl rfl) ggX5_vital_X5_farOf
set_option maxRecDepth 200000 in
theorem ggX5_about_X5_noPost : GoodIn wsX5_about wsX5_noPost := goodIn_r _ [6, 7, 8, 9, 5, 10, 30, 31, 32, 33, 34, 35, 36, 37, 38, 39, 40, 41, 42] rfl rfl
set_option maxRecDepth 200000 in
theorem gX5_about_X5_noPost : GoodIn wsX5_about (wsV RX5 72 RX5 yX5_noPost wsX5_noPost) := goodIn_app (goodIn_r _ [2, 3, 4, 5] rfl rfl) ggX5_about_X5_noPost
set_option maxRecDepth 200000 in
theorem ggX5_about_X5_learn : GoodIn wsX5_about wsX5_learn := goodIn_r _ [14, 15, 16, 17, 18, 19, 20, 21, 22, 7, 30, 31, 32, 33, 34, 35, 36, 37, 38, 39, 40, 41, 42] rfl rfl
set_option maxRecDepth 200000 in
theorem gX5_about_X5_learn : GoodIn wsX5_about (wsV RX5 40 RX5 yX5_learn wsX5_learn) := goodIn_app (goodIn_r _ [11, 12, 13, 5] rfl rfl) ggX5_about_X5_learn
set_option maxRecDepth 200000 in
theorem ggX5_about_X5_farOf : GoodIn wsX5_about wsX5_farOf := goodIn_r _ [26, 15, 27, 28, 5, 29, 16, 30, 31, 32, 33, 34, 35, 36, 37, 38, 39, 40, 41, 42] rfl rfl
set_option maxRecDepth 200000 in
theorem gX5_about_X5_farOf : GoodIn wsX5_about (wsV RX5 80 RX5 yX5_farOf wsX5_farOf) := goodIn_app (goodIn_r _ [23, 24, 25, 5] rfl rfl) ggX5_about_X5_farOf
set_option maxRecDepth 200000 in
theorem ggX5_ring_X5_learn : GoodIn wsX5_ring wsX5_learn := goodIn_r _ [12, 13, 14, 2, 6, 5, 4, 7, 3, 15, 23, 24, 25, 26, 27, 28, 29, 30, 31, 32, 33, 34, 35] rfl rfl
set_option maxRecDepth 200000 in
theorem gX5_ring_X5_learn : GoodIn wsX5_ring (wsV RX5 40 RX5 yX5_learn wsX5_learn) := goodIn_app (goodIn_r _ [8, 9, 10, 11] rfl rfl) ggX5_ring_X5_learn
set_option maxRecDepth 200000 in
theorem ggX5_ring_X5_farOf : GoodIn wsX5_ring wsX5_farOf := goodIn_r _ [19, 13, 20, 21, 11, 22, 14, 23, 24, 25, 26, 27, 28, 29, 30, 31, 32, 33, 34, 35] rfl rfl
set_option maxRecDepth 200000 in
theorem gX5_ring_X5_farOf : GoodIn wsX5_ring (wsV RX5 80 RX5 yX5_farOf wsX5_farOf) := goodIn_app (goodIn_r _ [16, 17, 18, 11] rfl rfl) ggX5_ring_X5_farOf
set_option maxRecDepth 200000 in
theorem ggX5_height_X5_noPost : GoodIn wsX5_height wsX5_noPost := goodIn_r _ [6, 7, 8, 9, 5, 10, 34, 35, 36, 37, 38, 39, 40, 41, 42, 43, 44, 45, 46] rfl rfl
set_option maxRecDepth 200000 in
theorem gX5_height_X5_noPost : GoodIn wsX5_height (wsV RX5 72 RX5 yX5_noPost wsX5_noPost) := goodIn_app (goodIn_r _ [2, 3, 4, 5] rfl rfl) ggX5_height_X5_noPost
set_option maxRecDepth 200000 in
theorem ggX5_height_X5_learn : GoodIn wsX5_height wsX5_learn := goodIn_r _ [14, 15, 16, 17, 18, 19, 20, 21, 22, 7, 34, 35, 36, 37, 38, 39, 40, 41, 42, 43, 44, 45, 46] rfl rfl
set_option maxRecDepth 200000 in
theorem gX5_height_X5_learn : GoodIn wsX5_height (wsV RX5 40 RX5 yX5_learn wsX5_learn) := goodIn_app (goodIn_r _ [11, 12, 13, 5] rfl rfl) ggX5_height_X5_learn
set_option maxRecDepth 200000 in
theorem ggX5_height_X5_heightOf : GoodIn wsX5_height wsX5_heightOf := goodIn_r _ [26, 7, 27, 28, 29, 5, 30, 15, 31, 32, 33, 16, 34, 35, 36, 37, 38, 39, 40, 41, 42, 43, 44, 45, 46] rfl rfl
set_option maxRecDepth 200000 in
theorem gX5_height_X5_heightOf : GoodIn wsX5_height (wsV RX5 94 RX5 yX5_heightOf wsX5_heightOf) := goodIn_app (goodIn_r _ [23, 24, 25, 5] rfl rfl) ggX5_height_X5_heightOf
set_option maxRecDepth 200000 in
theorem ggX5_moved_X5_in : GoodIn wsX5_moved wsX5_in := goodIn_r _ [6] rfl rfl
set_option maxRecDepth 200000 in
theorem gX5_moved_X5_in : GoodIn wsX5_moved (va_wsS RX5 50 yX5_in wsX5_in) := goodIn_app (goodIn_r _ [3, 4, 5] rfl rfl) ggX5_moved_X5_in
set_option maxRecDepth 200000 in
theorem ggX5_moved_X5_isMoved : GoodIn wsX5_moved wsX5_isMoved := goodIn_r _ [10, 11, 12, 13, 14, 15, 16, 17, 18, 19, 20, 21, 22, 23, 24, 25] rfl rfl
set_option maxRecDepth 200000 in
theorem gX5_moved_X5_isMoved : GoodIn wsX5_moved (wsV RX5 103 RX5 yX5_isMoved wsX5_isMoved) := goodIn_app (goodIn_r _ [7, 8, 9, 5] rfl rfl) ggX5_moved_X5_isMoved
set_option maxRecDepth 200000 in
theorem ggX5_pair_X5_in : GoodIn wsX5_pair wsX5_in := goodIn_r _ [6] rfl rfl
set_option maxRecDepth 200000 in
theorem gX5_pair_X5_in : GoodIn wsX5_pair (va_wsS RX5 50 yX5_in wsX5_in) := goodIn_app (goodIn_r _ [3, 4, 5] rfl rfl) ggX5_pair_X5_in
set_option maxRecDepth 200000 in
theorem ggX5_pair_X5_isMoved : GoodIn wsX5_pair wsX5_isMoved := goodIn_r _ [10, 11, 12, 13, 14, 15, 16, 17, 18, 19, 20, 21, 22, 23, 24, 25] rfl rfl
set_option maxRecDepth 200000 in
theorem gX5_pair_X5_isMoved : GoodIn wsX5_pair (wsV RX5 103 RX5 yX5_isMoved wsX5_isMoved) := goodIn_app (goodIn_r _ [7, 8, 9, 5] rfl rfl) ggX5_pair_X5_isMoved
set_option maxRecDepth 200000 in
theorem ggX5_then_X5_noPost : GoodIn wsX5_then wsX5_noPost := goodIn_r _ [8, 9, 10, 11, 7, 12, 13, 14, 15, 16, 17, 18, 19, 20, 21, 22, 23, 24, 25] rfl rfl
set_option maxRecDepth 200000 in
theorem gX5_then_X5_noPost : GoodIn wsX5_then (wsV RX5 72 RX5 yX5_noPost wsX5_noPost) := goodIn_app (goodIn_r _ [4, 5, 6, 7] rfl rfl) ggX5_then_X5_noPost
set_option maxRecDepth 200000 in
theorem ggX5_then_X5_in : GoodIn wsX5_then wsX5_in := goodIn_r _ [12] rfl rfl
set_option maxRecDepth 200000 in
theorem gX5_then_X5_in : GoodIn wsX5_then (va_wsS RX5 50 yX5_in wsX5_in) := goodIn_app (goodIn_r _ [10, 11, 7] rfl rfl) ggX5_then_X5_in
set_option maxRecDepth 200000 in
theorem ggX5_since_X5_noPost : GoodIn wsX5_since wsX5_noPost := goodIn_r _ [10, 11, 12, 13, 9, 14, 15, 16, 17, 18, 19, 20, 21, 22, 23, 24, 25, 26, 27] rfl rfl
set_option maxRecDepth 200000 in
theorem gX5_since_X5_noPost : GoodIn wsX5_since (wsV RX5 72 RX5 yX5_noPost wsX5_noPost) := goodIn_app (goodIn_r _ [6, 7, 8, 9] rfl rfl) ggX5_since_X5_noPost
set_option maxRecDepth 200000 in
theorem ggX5_since_X5_in : GoodIn wsX5_since wsX5_in := goodIn_r _ [14] rfl rfl
set_option maxRecDepth 200000 in
theorem gX5_since_X5_in : GoodIn wsX5_since (va_wsS RX5 50 yX5_in wsX5_in) := goodIn_app (goodIn_r _ [12, 13, 9] rfl rfl) ggX5_since_X5_in
set_option maxRecDepth 200000 in
theorem ggX5_nearOf_X5_farOf : GoodIn wsX5_nearOf wsX5_farOf := goodIn_r _ [7, 8, 9, 10, 6, 11, 12, 13, 14, 15, 16, 17, 18, 19, 20, 21, 22, 23, 24, 25] rfl rfl
set_option maxRecDepth 200000 in
theorem gX5_nearOf_X5_farOf : GoodIn wsX5_nearOf (wsV RX5 80 RX5 yX5_farOf wsX5_farOf) := goodIn_app (goodIn_r _ [3, 4, 5, 6] rfl rfl) ggX5_nearOf_X5_farOf
set_option maxRecDepth 200000 in
theorem ggX5_near_X5_noPost : GoodIn wsX5_near wsX5_noPost := goodIn_r _ [6, 7, 8, 9, 5, 10, 35, 36, 37, 38, 39, 40, 41, 42, 43, 44, 45, 46, 47] rfl rfl
set_option maxRecDepth 200000 in
theorem gX5_near_X5_noPost : GoodIn wsX5_near (wsV RX5 72 RX5 yX5_noPost wsX5_noPost) := goodIn_app (goodIn_r _ [2, 3, 4, 5] rfl rfl) ggX5_near_X5_noPost
set_option maxRecDepth 200000 in
theorem ggX5_near_X5_learn : GoodIn wsX5_near wsX5_learn := goodIn_r _ [14, 15, 16, 17, 18, 19, 20, 21, 22, 7, 35, 36, 37, 38, 39, 40, 41, 42, 43, 44, 45, 46, 47] rfl rfl
set_option maxRecDepth 200000 in
theorem gX5_near_X5_learn : GoodIn wsX5_near (wsV RX5 40 RX5 yX5_learn wsX5_learn) := goodIn_app (goodIn_r _ [11, 12, 13, 5] rfl rfl) ggX5_near_X5_learn
set_option maxRecDepth 200000 in
theorem ggX5_near_X5_nearOf : GoodIn wsX5_near wsX5_nearOf := goodIn_r _ [26, 7, 27, 28, 29, 30, 5, 31, 15, 32, 33, 34, 16, 35, 36, 37, 38, 39, 40, 41, 42, 43, 44, 45, 46, 47] rfl rfl
set_option maxRecDepth 200000 in
theorem gX5_near_X5_nearOf : GoodIn wsX5_near (wsV RX5 110 RX5 yX5_nearOf wsX5_nearOf) := goodIn_app (goodIn_r _ [23, 24, 25, 5] rfl rfl) ggX5_near_X5_nearOf
set_option maxRecDepth 200000 in
theorem ggX5_worst_X5_learn : GoodIn wsX5_worst wsX5_learn := goodIn_r _ [7, 8, 9, 10, 11, 12, 13, 14, 15, 2, 28, 29, 30, 31, 32, 33, 34, 35, 36, 37, 38, 39, 40] rfl rfl
set_option maxRecDepth 200000 in
theorem gX5_worst_X5_learn : GoodIn wsX5_worst (wsV RX5 40 RX5 yX5_learn wsX5_learn) := goodIn_app (goodIn_r _ [3, 4, 5, 6] rfl rfl) ggX5_worst_X5_learn
set_option maxRecDepth 200000 in
theorem ggX5_worst_X5_farOf : GoodIn wsX5_worst wsX5_farOf := goodIn_r _ [19, 8, 20, 21, 6, 22, 9, 28, 29, 30, 31, 32, 33, 34, 35, 36, 37, 38, 39, 40] rfl rfl
set_option maxRecDepth 200000 in
theorem gX5_worst_X5_farOf : GoodIn wsX5_worst (wsV RX5 80 RX5 yX5_farOf wsX5_farOf) := goodIn_app (goodIn_r _ [16, 17, 18, 6] rfl rfl) ggX5_worst_X5_farOf
set_option maxRecDepth 200000 in
theorem ggX5_worst_X5_nearOf : GoodIn wsX5_worst wsX5_nearOf := goodIn_r _ [26, 2, 27, 16, 17, 18, 6, 19, 8, 20, 21, 22, 9, 28, 29, 30, 31, 32, 33, 34, 35, 36, 37, 38, 39, 40] rfl rfl
set_option maxRecDepth 200000 in
theorem gX5_worst_X5_nearOf : GoodIn wsX5_worst (wsV RX5 110 RX5 yX5_nearOf wsX5_nearOf) := goodIn_app (goodIn_r _ [23, 24, 25, 6] rfl rfl) ggX5_worst_X5_nearOf
set_option maxRecDepth 200000 in
theorem ggX5_hits_X5_in : GoodIn wsX5_hits wsX5_in := goodIn_r _ [10] rfl rfl
set_option maxRecDepth 200000 in
theorem gX5_hits_X5_in : GoodIn wsX5_hits (va_wsS RX5 50 yX5_in wsX5_in) := goodIn_app (goodIn_r _ [7, 8, 9] rfl rfl) ggX5_hits_X5_in
set_option maxRecDepth 200000 in
theorem ggX5_hits_X5_learn : GoodIn wsX5_hits wsX5_learn := goodIn_r _ [14, 4, 5, 15, 16, 17, 18, 19, 20, 3, 35, 36, 37, 38, 39, 40, 41, 42, 43, 44, 45, 46, 47] rfl rfl
set_option maxRecDepth 200000 in
theorem gX5_hits_X5_learn : GoodIn wsX5_hits (wsV RX5 40 RX5 yX5_learn wsX5_learn) := goodIn_app (goodIn_r _ [11, 12, 13, 9] rfl rfl) ggX5_hits_X5_learn
set_option maxRecDepth 200000 in
theorem ggX5_hits_X5_coarse : GoodIn wsX5_hits wsX5_coarse := goodIn_r _ [23, 5] rfl rfl
set_option maxRecDepth 200000 in
theorem gX5_hits_X5_coarse : GoodIn wsX5_hits (va_wsS RX5 58 yX5_coarse wsX5_coarse) := goodIn_app (goodIn_r _ [21, 22, 9] rfl rfl) ggX5_hits_X5_coarse
set_option maxRecDepth 200000 in
theorem ggX5_hits_X5_nextOf : GoodIn wsX5_hits wsX5_nextOf := goodIn_r _ [27, 15, 17, 18, 20, 16, 4, 5, 19, 35, 36, 37, 38, 39, 40, 41, 42, 43, 44, 45, 46, 47] rfl rfl
set_option maxRecDepth 200000 in
theorem gX5_hits_X5_nextOf : GoodIn wsX5_hits (wsV RX5 97 RX5 yX5_nextOf wsX5_nextOf) := goodIn_app (goodIn_r _ [24, 25, 26, 9] rfl rfl) ggX5_hits_X5_nextOf
set_option maxRecDepth 200000 in
theorem ggX5_hits_X5_other : GoodIn wsX5_hits wsX5_other := goodIn_r _ [31, 17, 18, 35, 36, 37, 38, 39, 40, 41, 42, 43, 44, 45, 46, 47] rfl rfl
set_option maxRecDepth 200000 in
theorem gX5_hits_X5_other : GoodIn wsX5_hits (wsV RX5 100 RX5 yX5_other wsX5_other) := goodIn_app (goodIn_r _ [28, 29, 30, 9] rfl rfl) ggX5_hits_X5_other
set_option maxRecDepth 200000 in
theorem ggX5_hits_X5_bits : GoodIn wsX5_hits wsX5_bits := goodIn_r _ [34] rfl rfl
set_option maxRecDepth 200000 in
theorem gX5_hits_X5_bits : GoodIn wsX5_hits (va_wsS RX5 115 yX5_bits wsX5_bits) := goodIn_app (goodIn_r _ [32, 33, 9] rfl rfl) ggX5_hits_X5_bits
set_option maxRecDepth 200000 in
theorem ggX5_count_X5_learn : GoodIn wsX5_count wsX5_learn := goodIn_r _ [9, 10, 11, 3, 12, 13, 14, 15, 16, 2, 31, 32, 33, 34, 35, 36, 37, 38, 39, 40, 41, 42, 43] rfl rfl
set_option maxRecDepth 200000 in
theorem gX5_count_X5_learn : GoodIn wsX5_count (wsV RX5 40 RX5 yX5_learn wsX5_learn) := goodIn_app (goodIn_r _ [5, 6, 7, 8] rfl rfl) ggX5_count_X5_learn
set_option maxRecDepth 200000 in
theorem ggX5_count_X5_farOf : GoodIn wsX5_count wsX5_farOf := goodIn_r _ [20, 10, 21, 22, 8, 23, 11, 31, 32, 33, 34, 35, 36, 37, 38, 39, 40, 41, 42, 43] rfl rfl
set_option maxRecDepth 200000 in
theorem gX5_count_X5_farOf : GoodIn wsX5_count (wsV RX5 80 RX5 yX5_farOf wsX5_farOf) := goodIn_app (goodIn_r _ [17, 18, 19, 8] rfl rfl) ggX5_count_X5_farOf
set_option maxRecDepth 200000 in
theorem ggX5_count_X5_there : GoodIn wsX5_count wsX5_there := goodIn_r _ [27, 3, 12, 31, 32, 33, 34, 35, 36, 37, 38, 39, 40, 41, 42, 43] rfl rfl
set_option maxRecDepth 200000 in
theorem gX5_count_X5_there : GoodIn wsX5_count (wsV RX5 90 RX5 yX5_there wsX5_there) := goodIn_app (goodIn_r _ [24, 25, 26, 8] rfl rfl) ggX5_count_X5_there
set_option maxRecDepth 200000 in
theorem ggX5_count_X5_bits : GoodIn wsX5_count wsX5_bits := goodIn_r _ [30] rfl rfl
set_option maxRecDepth 200000 in
theorem gX5_count_X5_bits : GoodIn wsX5_count (va_wsS RX5 115 yX5_bits wsX5_bits) := goodIn_app (goodIn_r _ [28, 29, 8] rfl rfl) ggX5_count_X5_bits
set_option maxRecDepth 200000 in
theorem ggL_law_X4_init : GoodIn wsL_law wsX4_init := goodIn_r _ [8, 9, 10, 11, 12, 13, 14, 15, 16, 17, 18, 19, 20, 21, 22, 23, 24, 25, 26, 27, 28, 29, 30, 31, 32, 33, 34, 35, 36, 37, 38, 39, 40, 41, 42, 43, 44, 45, 46, 47, 48, 49, 50, 51, 52, 53, 54, 55, 2, 56, 57, 58, 59, 60, 61, 62, 63, 64, 65, 66, 67, 68, 69, 70, 71, 72, 73, 74, 75, 76, 77, 78, 79, 80, 81, 82, 83, 84, 85, 86, 87, 88, 89, 90, 91, 92, 93, 94, 95, 96, 97, 98, 99, 100, 101, 102, 103, 104, 105, 106, 107, 108, 109, 110, 111, 112, 113, 114, 115, 116, 117, 118, 119, 120, 121, 122, 123, 124, 125, 126, 127, 128, 129, 130, 131, 132, 133, 134, 135, 136, 137, 138, 139, 140, 141, 142, 143, 144, 145, 146, 607, 608, 609, 610, 611, 612, 613, 589, 590, 591, 592, 593, 614, 615, 616, 617, 618, 619, 620] rfl rfl
set_option maxRecDepth 200000 in
theorem gL_law_X4_init : GoodIn wsL_law (wsX4_init) := ggL_law_X4_init
set_option maxRecDepth 200000 in
theorem ggL_law_X5_init : GoodIn wsL_law wsX5_init := goodIn_r _ [149, 150, 10, 11, 151, 31, 152, 153, 154, 35, 155, 156, 157, 158, 159, 160, 161, 162, 163, 5, 164, 165, 166, 167, 168, 169, 170, 171, 172, 173, 174, 594, 595, 596, 597, 598, 599, 600, 601, 602, 603, 604, 605, 606] rfl rfl
set_option maxRecDepth 200000 in
theorem gL_law_X5_init : GoodIn wsL_law (wsX5_init) := ggL_law_X5_init
set_option maxRecDepth 200000 in
theorem ggL_law_X4_posts : GoodIn wsL_law wsX4_posts := goodIn_r _ [178, 15, 53, 54, 55, 2, 56, 23, 57, 58, 59, 60, 14, 61, 62, 63, 64, 65, 66, 22, 67, 68, 69, 70, 71, 72, 19, 73, 74, 75, 18, 76, 42, 77, 44, 43, 78, 79, 80, 81, 82, 83, 84, 85, 86, 87, 88, 89, 90, 91, 92, 93, 32, 33, 94, 95, 96, 97, 98, 99, 100, 101, 102, 103, 104, 105, 106, 107, 108, 109, 110, 111, 48, 112, 113, 114, 115, 116, 117, 118, 119, 120, 121, 122, 123, 124, 125, 126, 127, 128, 129, 130, 131, 132, 133, 31, 134, 135, 136, 137, 138, 139, 140, 141, 142, 143, 144, 145, 146, 589, 590, 591, 592, 593, 607, 608, 609, 610, 611, 612, 613, 617, 618, 614, 615, 616] rfl rfl
set_option maxRecDepth 200000 in
theorem gL_law_X4_posts : GoodIn wsL_law (wsV RL 13 RX4 yX4_posts wsX4_posts) := goodIn_app (goodIn_r _ [175, 176, 177, 2] rfl rfl) ggL_law_X4_posts
set_option maxRecDepth 200000 in
theorem ggL_law_X5_posts : GoodIn wsL_law wsX5_posts := goodIn_r _ [182, 183, 184, 185, 151, 166, 171, 186, 187, 188, 5, 189, 161, 162, 163, 164, 157, 165, 156, 152, 153, 154, 155, 167, 168, 169, 170, 159, 172, 173, 174, 594, 595, 596, 597, 598, 599, 600, 601, 602, 603, 604, 605, 606] rfl rfl
set_option maxRecDepth 200000 in
theorem gL_law_X5_posts : GoodIn wsL_law (wsV RL 17 RX5 yX5_posts wsX5_posts) := goodIn_app (goodIn_r _ [179, 180, 181, 5] rfl rfl) ggL_law_X5_posts
set_option maxRecDepth 200000 in
theorem ggL_law_X4_line : GoodIn wsL_law wsX4_line := goodIn_r _ [193, 15, 19, 23, 194, 195, 196, 14, 197, 198, 199, 200, 201, 62, 202, 203, 2, 204, 205, 206, 207, 18, 208, 209, 210, 211, 212, 43, 86, 87, 88, 89, 77, 44, 82, 83, 84, 85, 90, 91, 92, 93, 32, 33, 94, 95, 96, 97, 98, 99, 100, 101, 102, 103, 104, 105, 140, 141, 142, 143, 144, 145, 146, 213, 214, 215, 216, 113, 114, 22, 115, 68, 217, 218, 219, 220, 63, 34, 36, 37, 69, 70, 71, 72, 73, 74, 75, 76, 42, 78, 79, 80, 81, 106, 107, 108, 109, 110, 111, 48, 112, 116, 117, 118, 119, 120, 121, 122, 123, 124, 125, 126, 127, 128, 129, 130, 131, 132, 133, 31, 134, 135, 136, 137, 138, 139, 589, 590, 591, 592, 593, 607, 608, 609, 610, 611, 612, 613, 614, 615, 616, 617, 618] rfl rfl
set_option maxRecDepth 200000 in
theorem gL_law_X4_line : GoodIn wsL_law (wsV RL 18 RX4 yX4_line wsX4_line) := goodIn_app (goodIn_r _ [190, 191, 192, 2] rfl rfl) ggL_law_X4_line
set_option maxRecDepth 200000 in
theorem ggL_law_X5_line : GoodIn wsL_law wsX5_line := goodIn_r _ [224, 183, 225, 226, 166, 171, 152, 153, 154, 155, 156, 227, 228, 229, 5, 230, 151, 187, 188, 189, 161, 162, 163, 164, 157, 165, 231, 232, 233, 234, 172, 173, 174, 235, 236, 237, 238, 167, 168, 169, 170, 159, 594, 595, 596, 597, 598, 599, 600, 601, 602, 603, 604, 605, 606] rfl rfl
set_option maxRecDepth 200000 in
theorem gL_law_X5_line : GoodIn wsL_law (wsV RL 22 RX5 yX5_line wsX5_line) := goodIn_app (goodIn_r _ [221, 222, 223, 5] rfl rfl) ggL_law_X5_line
set_option maxRecDepth 200000 in
theorem ggL_law_X4_price : GoodIn wsL_law wsX4_price := goodIn_r _ [242, 15, 23, 243, 244, 245, 14, 246, 63, 202, 203, 2, 204, 247, 248, 249, 250, 19, 205, 206, 207, 18, 208, 209, 210, 211, 212, 43, 86, 87, 88, 89, 77, 44, 82, 83, 84, 85, 90, 91, 92, 93, 32, 33, 94, 95, 96, 97, 98, 99, 100, 101, 102, 103, 104, 105, 140, 141, 142, 143, 144, 145, 146, 213, 214, 215, 216, 113, 114, 22, 115, 68, 69, 70, 71, 72, 73, 74, 75, 76, 42, 78, 79, 80, 81, 106, 107, 108, 109, 110, 111, 48, 112, 116, 117, 118, 119, 120, 121, 122, 123, 124, 125, 126, 127, 128, 129, 130, 131, 132, 133, 31, 134, 135, 136, 137, 138, 139, 589, 590, 591, 592, 593, 607, 608, 609, 610, 611, 612, 613, 614, 615, 616, 617, 618] rfl rfl
set_option maxRecDepth 200000 in
theorem gL_law_X4_price : GoodIn wsL_law (wsV RL 23 RX4 yX4_price wsX4_price) := goodIn_app (goodIn_r _ [239, 240, 241, 2] rfl rfl) ggL_law_X4_price
set_option maxRecDepth 200000 in
theorem ggL_law_X5_price : GoodIn wsL_law wsX5_price := goodIn_r _ [254, 183, 155, 225, 226, 154, 171, 255, 256, 257, 5, 258, 166, 187, 188, 189, 161, 162, 163, 164, 157, 165, 156, 152, 153, 151, 235, 236, 237, 238, 167, 168, 169, 170, 159, 172, 173, 174, 594, 595, 596, 597, 598, 599, 600, 601, 602, 603, 604, 605, 606] rfl rfl
set_option maxRecDepth 200000 in
theorem gL_law_X5_price : GoodIn wsL_law (wsV RL 27 RX5 yX5_price wsX5_price) := goodIn_app (goodIn_r _ [251, 252, 253, 5] rfl rfl) ggL_law_X5_price
set_option maxRecDepth 200000 in
theorem ggL_law_X4_cut : GoodIn wsL_law wsX4_cut := goodIn_r _ [262, 15, 23, 243, 244, 245, 14, 246, 63, 216, 113, 114, 22, 115, 68, 69, 70, 71, 2, 72, 19, 73, 74, 75, 18, 76, 42, 77, 44, 43, 78, 79, 80, 81, 82, 83, 84, 85, 86, 87, 88, 89, 90, 91, 92, 93, 32, 33, 94, 95, 96, 97, 98, 99, 100, 101, 102, 103, 104, 105, 106, 107, 108, 109, 110, 111, 48, 112, 116, 117, 118, 119, 120, 121, 122, 123, 124, 125, 126, 127, 128, 129, 130, 131, 132, 133, 31, 134, 135, 136, 137, 138, 139, 140, 141, 142, 143, 144, 145, 146, 263, 264, 265, 266, 37, 589, 590, 591, 592, 593, 607, 608, 609, 610, 611, 612, 613, 617, 618, 614, 615, 616] rfl rfl
set_option maxRecDepth 200000 in
theorem gL_law_X4_cut : GoodIn wsL_law (wsV RL 28 RX4 yX4_cut wsX4_cut) := goodIn_app (goodIn_r _ [259, 260, 261, 2] rfl rfl) ggL_law_X4_cut
set_option maxRecDepth 200000 in
theorem ggL_law_X5_cut : GoodIn wsL_law wsX5_cut := goodIn_r _ [270, 183, 156, 171, 255, 256, 257, 5, 258, 166, 187, 188, 189, 235, 236, 237, 238, 161, 162, 163, 164, 157, 165, 152, 153, 154, 155, 151, 167, 168, 169, 170, 159, 172, 173, 174, 271, 272, 273, 274, 594, 595, 596, 597, 598, 599, 600, 601, 602, 603, 604, 605, 606] rfl rfl
set_option maxRecDepth 200000 in
theorem gL_law_X5_cut : GoodIn wsL_law (wsV RL 31 RX5 yX5_cut wsX5_cut) := goodIn_app (goodIn_r _ [267, 268, 269, 5] rfl rfl) ggL_law_X5_cut
set_option maxRecDepth 200000 in
theorem ggL_law_X4_back : GoodIn wsL_law wsX4_back := goodIn_r _ [278, 15, 23, 243, 244, 245, 14, 246, 63, 247, 248, 249, 2, 250, 19, 205, 206, 207, 18, 208, 209, 210, 211, 212, 43, 86, 87, 88, 89, 77, 44, 82, 83, 84, 85, 90, 91, 92, 93, 32, 33, 94, 95, 96, 97, 98, 99, 100, 101, 102, 103, 104, 105, 140, 141, 142, 143, 144, 145, 146, 213, 214, 215, 216, 113, 114, 22, 115, 68, 69, 70, 71, 72, 73, 74, 75, 76, 42, 78, 79, 80, 81, 106, 107, 108, 109, 110, 111, 48, 112, 116, 117, 118, 119, 120, 121, 122, 123, 124, 125, 126, 127, 128, 129, 130, 131, 132, 133, 31, 134, 135, 136, 137, 138, 139, 263, 264, 265, 266, 37, 589, 590, 591, 592, 593, 607, 608, 609, 610, 611, 612, 613, 614, 615, 616, 617, 618] rfl rfl
set_option maxRecDepth 200000 in
theorem gL_law_X4_back : GoodIn wsL_law (wsV RL 32 RX4 yX4_back wsX4_back) := goodIn_app (goodIn_r _ [275, 276, 277, 2] rfl rfl) ggL_law_X4_back
set_option maxRecDepth 200000 in
theorem ggL_law_X5_back : GoodIn wsL_law wsX5_back := goodIn_r _ [282, 183, 156, 171, 255, 256, 257, 5, 258, 166, 187, 188, 189, 161, 162, 163, 164, 157, 165, 152, 153, 154, 155, 151, 235, 236, 237, 238, 167, 168, 169, 170, 159, 172, 173, 174, 271, 272, 273, 274, 594, 595, 596, 597, 598, 599, 600, 601, 602, 603, 604, 605, 606] rfl rfl
set_option maxRecDepth 200000 in
theorem gL_law_X5_back : GoodIn wsL_law (wsV RL 35 RX5 yX5_back wsX5_back) := goodIn_app (goodIn_r _ [279, 280, 281, 5] rfl rfl) ggL_law_X5_back
set_option maxRecDepth 200000 in
theorem ggL_law_X4_told : GoodIn wsL_law wsX4_told := goodIn_r _ [286, 15, 19, 243, 244, 245, 14, 246, 63, 287, 288, 2, 289, 290, 291, 292, 18, 293, 44, 294, 122, 123, 124, 295, 296, 297, 298, 299, 300, 301, 302, 42, 77, 106, 107, 303, 137, 138, 139, 140, 141, 142, 143, 144, 145, 146, 589, 590, 591, 592, 593, 607, 608, 609, 610, 611, 612, 613, 614, 615, 616] rfl rfl
set_option maxRecDepth 200000 in
theorem gL_law_X4_told : GoodIn wsL_law (wsV RL 36 RX4 yX4_told wsX4_told) := goodIn_app (goodIn_r _ [283, 284, 285, 2] rfl rfl) ggL_law_X4_told
set_option maxRecDepth 200000 in
theorem ggL_law_X5_told : GoodIn wsL_law wsX5_told := goodIn_r _ [307, 183, 152, 153, 154, 155, 156, 255, 256, 257, 5, 258, 166, 187, 188, 189, 161, 162, 163, 164, 157, 165, 151, 308, 309, 310, 311, 231, 232, 233, 234, 172, 173, 174, 594, 595, 596, 597, 598, 599, 600, 601, 602, 603, 604, 605, 606] rfl rfl
set_option maxRecDepth 200000 in
theorem gL_law_X5_told : GoodIn wsL_law (wsV RL 39 RX5 yX5_told wsX5_told) := goodIn_app (goodIn_r _ [304, 305, 306, 5] rfl rfl) ggL_law_X5_told
set_option maxRecDepth 200000 in
theorem ggL_law_X4_far : GoodIn wsL_law wsX4_far := goodIn_r _ [315, 15, 19, 194, 195, 196, 14, 197, 198, 199, 200, 201, 62, 316, 137, 138, 18, 139, 42, 106, 2, 107, 140, 141, 142, 77, 143, 144, 145, 146, 589, 590, 591, 592, 593, 607, 608, 609, 610, 611, 612, 613, 614, 615, 616] rfl rfl
set_option maxRecDepth 200000 in
theorem gL_law_X4_far : GoodIn wsL_law (wsV RL 40 RX4 yX4_far wsX4_far) := goodIn_app (goodIn_r _ [312, 313, 314, 2] rfl rfl) ggL_law_X4_far
set_option maxRecDepth 200000 in
theorem ggL_law_X5_far : GoodIn wsL_law wsX5_far := goodIn_r _ [320, 183, 227, 228, 229, 5, 230, 151, 187, 188, 189, 161, 162, 163, 164, 157, 165, 166, 156, 152, 153, 154, 155, 231, 232, 233, 234, 172, 173, 174, 594, 595, 596, 597, 598, 599, 600, 601, 602, 603, 604, 605, 606] rfl rfl
set_option maxRecDepth 200000 in
theorem gL_law_X5_far : GoodIn wsL_law (wsV RL 43 RX5 yX5_far wsX5_far) := goodIn_app (goodIn_r _ [317, 318, 319, 5] rfl rfl) ggL_law_X5_far
set_option maxRecDepth 200000 in
theorem ggL_law_X4_steps : GoodIn wsL_law wsX4_steps := goodIn_r _ [324, 15, 19, 194, 195, 196, 14, 197, 198, 199, 200, 201, 62, 325, 326, 327, 18, 328, 42, 77, 106, 2, 107, 329, 330, 145, 331, 589, 590, 591, 592, 593, 607, 608, 609, 610, 611, 612, 613, 614, 615, 616] rfl rfl
set_option maxRecDepth 200000 in
theorem gL_law_X4_steps : GoodIn wsL_law (wsV RL 44 RX4 yX4_steps wsX4_steps) := goodIn_app (goodIn_r _ [321, 322, 323, 2] rfl rfl) ggL_law_X4_steps
set_option maxRecDepth 200000 in
theorem ggL_law_X5_steps : GoodIn wsL_law wsX5_steps := goodIn_r _ [335, 183, 157, 165, 227, 228, 229, 5, 230, 151, 187, 188, 189, 161, 162, 163, 164, 166, 156, 152, 153, 154, 155, 172, 173, 174, 594, 595, 596, 597, 598, 599, 600, 601, 602, 603, 604, 605, 606] rfl rfl
set_option maxRecDepth 200000 in
theorem gL_law_X5_steps : GoodIn wsL_law (wsV RL 47 RX5 yX5_steps wsX5_steps) := goodIn_app (goodIn_r _ [332, 333, 334, 5] rfl rfl) ggL_law_X5_steps
set_option maxRecDepth 200000 in
theorem ggL_law_X4_way : GoodIn wsL_law wsX4_way := goodIn_r _ [339, 15, 19, 194, 195, 196, 14, 197, 198, 199, 200, 201, 62, 340, 341, 342, 18, 343, 44, 344, 326, 327, 328, 42, 77, 106, 2, 107, 329, 330, 145, 331, 345, 346, 347, 348, 349, 299, 300, 301, 302, 350, 351, 352, 353, 37, 32, 33, 36, 354, 244, 245, 246, 63, 98, 99, 100, 101, 589, 590, 591, 592, 593, 607, 608, 609, 610, 611, 612, 613, 614, 615, 616] rfl rfl
set_option maxRecDepth 200000 in
theorem gL_law_X4_way : GoodIn wsL_law (wsV RL 48 RX4 yX4_way wsX4_way) := goodIn_app (goodIn_r _ [336, 337, 338, 2] rfl rfl) ggL_law_X4_way
set_option maxRecDepth 200000 in
theorem ggL_law_X5_way : GoodIn wsL_law wsX5_way := goodIn_r _ [358, 183, 157, 165, 227, 228, 229, 5, 230, 151, 187, 188, 189, 161, 162, 163, 164, 166, 156, 152, 153, 154, 155, 172, 173, 174, 359, 360, 361, 362, 363, 364, 365, 366, 594, 595, 596, 597, 598, 599, 600, 601, 602, 603, 604, 605, 606] rfl rfl
set_option maxRecDepth 200000 in
theorem gL_law_X5_way : GoodIn wsL_law (wsV RL 52 RX5 yX5_way wsX5_way) := goodIn_app (goodIn_r _ [355, 356, 357, 5] rfl rfl) ggL_law_X5_way
set_option maxRecDepth 200000 in
theorem ggL_law_X4_without : GoodIn wsL_law wsX4_without := goodIn_r _ [370, 15, 19, 194, 195, 196, 14, 197, 198, 199, 200, 201, 62, 243, 244, 245, 246, 63, 371, 210, 211, 18, 212, 43, 86, 87, 88, 89, 77, 44, 82, 83, 84, 85, 90, 91, 92, 93, 32, 33, 94, 95, 96, 97, 98, 99, 100, 101, 102, 103, 104, 105, 140, 141, 142, 143, 144, 145, 146, 589, 590, 591, 592, 593, 607, 608, 609, 610, 611, 612, 613, 614, 615, 616] rfl rfl
set_option maxRecDepth 200000 in
theorem gL_law_X4_without : GoodIn wsL_law (wsV RL 53 RX4 yX4_without wsX4_without) := goodIn_app (goodIn_r _ [367, 368, 369, 2] rfl rfl) ggL_law_X4_without
set_option maxRecDepth 200000 in
theorem ggL_law_X5_without : GoodIn wsL_law wsX5_without := goodIn_r _ [375, 183, 227, 228, 229, 5, 230, 151, 187, 188, 189, 255, 256, 257, 258, 166, 161, 162, 163, 164, 157, 165, 156, 152, 153, 154, 155, 231, 232, 233, 234, 172, 173, 174, 594, 595, 596, 597, 598, 599, 600, 601, 602, 603, 604, 605, 606] rfl rfl
set_option maxRecDepth 200000 in
theorem gL_law_X5_without : GoodIn wsL_law (wsV RL 56 RX5 yX5_without wsX5_without) := goodIn_app (goodIn_r _ [372, 373, 374, 5] rfl rfl) ggL_law_X5_without
set_option maxRecDepth 200000 in
theorem ggL_law_X4_vital : GoodIn wsL_law wsX4_vital := goodIn_r _ [379, 15, 19, 194, 195, 196, 14, 197, 198, 199, 200, 201, 62, 380, 381, 382, 18, 383, 384, 385, 386, 387, 344, 326, 327, 328, 42, 77, 106, 2, 107, 329, 330, 145, 331, 388, 341, 342, 343, 44, 345, 346, 347, 348, 349, 299, 300, 301, 302, 350, 351, 352, 353, 37, 32, 33, 36, 354, 244, 245, 246, 63, 98, 99, 100, 101, 209, 210, 211, 212, 43, 86, 87, 88, 89, 82, 83, 84, 85, 90, 91, 92, 93, 94, 95, 96, 97, 102, 103, 104, 105, 140, 141, 142, 143, 144, 146, 303, 137, 138, 139, 589, 590, 591, 592, 593, 607, 608, 609, 610, 611, 612, 613, 614, 615, 616] rfl rfl
set_option maxRecDepth 200000 in
theorem gL_law_X4_vital : GoodIn wsL_law (wsV RL 57 RX4 yX4_vital wsX4_vital) := goodIn_app (goodIn_r _ [376, 377, 378, 2] rfl rfl) ggL_law_X4_vital
set_option maxRecDepth 200000 in
theorem ggL_law_X5_vital : GoodIn wsL_law wsX5_vital := goodIn_r _ [392, 183, 166, 227, 228, 229, 5, 230, 151, 187, 188, 189, 161, 162, 163, 164, 157, 165, 156, 152, 153, 154, 155, 231, 232, 233, 234, 172, 173, 174, 594, 595, 596, 597, 598, 599, 600, 601, 602, 603, 604, 605, 606] rfl rfl
set_option maxRecDepth 200000 in
theorem gL_law_X5_vital : GoodIn wsL_law (wsV RL 60 RX5 yX5_vital wsX5_vital) := goodIn_app (goodIn_r _ [389, 390, 391, 5] rfl rfl) ggL_law_X5_vital
set_option maxRecDepth 200000 in
theorem ggL_law_X4_about : GoodIn wsL_law wsX4_about := goodIn_r _ [396, 15, 19, 194, 195, 196, 14, 197, 198, 199, 200, 201, 62, 397, 371, 210, 211, 18, 212, 43, 86, 87, 88, 89, 77, 44, 82, 83, 84, 85, 90, 91, 92, 93, 32, 33, 94, 95, 96, 97, 98, 99, 100, 101, 102, 103, 104, 105, 140, 141, 142, 143, 144, 145, 146, 589, 590, 591, 592, 593, 607, 608, 609, 610, 611, 612, 613, 614, 615, 616] rfl rfl
set_option maxRecDepth 200000 in
theorem gL_law_X4_about : GoodIn wsL_law (wsV RL 61 RX4 yX4_about wsX4_about) := goodIn_app (goodIn_r _ [393, 394, 395, 2] rfl rfl) ggL_law_X4_about
set_option maxRecDepth 200000 in
theorem ggL_law_X5_about : GoodIn wsL_law wsX5_about := goodIn_r _ [401, 183, 227, 228, 229, 5, 230, 151, 187, 188, 189, 161, 162, 163, 164, 157, 165, 166, 156, 152, 153, 154, 155, 231, 232, 233, 234, 172, 173, 174, 594, 595, 596, 597, 598, 599, 600, 601, 602, 603, 604, 605, 606] rfl rfl
set_option maxRecDepth 200000 in
theorem gL_law_X5_about : GoodIn wsL_law (wsV RL 64 RX5 yX5_about wsX5_about) := goodIn_app (goodIn_r _ [398, 399, 400, 5] rfl rfl) ggL_law_X5_about
set_option maxRecDepth 200000 in
theorem ggL_law_X4_ring : GoodIn wsL_law wsX4_ring := goodIn_r _ [405, 19, 406, 407, 408, 18, 409, 44, 410, 411, 412, 413, 294, 122, 123, 124, 303, 137, 138, 139, 42, 106, 2, 107, 140, 141, 142, 77, 143, 144, 145, 146, 589, 590, 591, 592, 593, 614, 615, 616, 607, 608, 609, 610, 611, 612, 613] rfl rfl
set_option maxRecDepth 200000 in
theorem gL_law_X4_ring : GoodIn wsL_law (wsV RL 65 RX4 yX4_ring wsX4_ring) := goodIn_app (goodIn_r _ [402, 403, 404, 2] rfl rfl) ggL_law_X4_ring
set_option maxRecDepth 200000 in
theorem ggL_law_X5_ring : GoodIn wsL_law wsX5_ring := goodIn_r _ [417, 183, 166, 155, 153, 152, 156, 154, 161, 162, 163, 5, 164, 157, 165, 151, 231, 232, 233, 234, 172, 173, 174, 594, 595, 596, 597, 598, 599, 600, 601, 602, 603, 604, 605, 606] rfl rfl
set_option maxRecDepth 200000 in
theorem gL_law_X5_ring : GoodIn wsL_law (wsV RL 69 RX5 yX5_ring wsX5_ring) := goodIn_app (goodIn_r _ [414, 415, 416, 5] rfl rfl) ggL_law_X5_ring
set_option maxRecDepth 200000 in
theorem ggL_law_X4_height : GoodIn wsL_law wsX4_height := goodIn_r _ [421, 15, 19, 397, 199, 200, 14, 201, 62, 422, 296, 297, 18, 298, 44, 294, 122, 123, 124, 299, 300, 301, 302, 42, 77, 106, 2, 107, 303, 137, 138, 139, 140, 141, 142, 143, 144, 145, 146, 589, 590, 591, 592, 593, 607, 608, 609, 610, 611, 612, 613, 614, 615, 616] rfl rfl
set_option maxRecDepth 200000 in
theorem gL_law_X4_height : GoodIn wsL_law (wsV RL 70 RX4 yX4_height wsX4_height) := goodIn_app (goodIn_r _ [418, 419, 420, 2] rfl rfl) ggL_law_X4_height
set_option maxRecDepth 200000 in
theorem ggL_law_X5_height : GoodIn wsL_law wsX5_height := goodIn_r _ [426, 183, 227, 228, 229, 5, 230, 151, 187, 188, 189, 161, 162, 163, 164, 157, 165, 166, 156, 152, 153, 154, 155, 308, 309, 310, 311, 231, 232, 233, 234, 172, 173, 174, 594, 595, 596, 597, 598, 599, 600, 601, 602, 603, 604, 605, 606] rfl rfl
set_option maxRecDepth 200000 in
theorem gL_law_X5_height : GoodIn wsL_law (wsV RL 73 RX5 yX5_height wsX5_height) := goodIn_app (goodIn_r _ [423, 424, 425, 5] rfl rfl) ggL_law_X5_height
set_option maxRecDepth 200000 in
theorem ggL_law_X4_acts : GoodIn wsL_law wsX4_acts := goodIn_r _ [430, 23, 431, 432, 433, 22, 434, 68, 589, 590, 591, 592, 593, 617, 618] rfl rfl
set_option maxRecDepth 200000 in
theorem gL_law_X4_acts : GoodIn wsL_law (wsV RL 74 RX4 yX4_acts wsX4_acts) := goodIn_app (goodIn_r _ [427, 428, 429, 2] rfl rfl) ggL_law_X4_acts
set_option maxRecDepth 200000 in
theorem ggL_law_X5_acts : GoodIn wsL_law wsX5_acts := goodIn_r _ [438, 183, 171, 594, 595, 596, 597, 598, 599, 600, 601, 602, 603, 604, 605, 606] rfl rfl
set_option maxRecDepth 200000 in
theorem gL_law_X5_acts : GoodIn wsL_law (wsV RL 77 RX5 yX5_acts wsX5_acts) := goodIn_app (goodIn_r _ [435, 436, 437, 5] rfl rfl) ggL_law_X5_acts
set_option maxRecDepth 200000 in
theorem ggL_law_X4_moved : GoodIn wsL_law wsX4_moved := goodIn_r _ [442, 23, 443, 444, 445, 22, 446, 68, 447, 448, 449, 450, 451, 452, 453, 454, 455, 456, 457, 458, 48, 589, 590, 591, 592, 593, 617, 618] rfl rfl
set_option maxRecDepth 200000 in
theorem gL_law_X4_moved : GoodIn wsL_law (wsV RL 78 RX4 yX4_moved wsX4_moved) := goodIn_app (goodIn_r _ [439, 440, 441, 2] rfl rfl) ggL_law_X4_moved
set_option maxRecDepth 200000 in
theorem ggL_law_X5_moved : GoodIn wsL_law wsX5_moved := goodIn_r _ [462, 183, 171, 187, 188, 5, 189, 463, 464, 465, 466, 151, 159, 594, 595, 596, 597, 598, 599, 600, 601, 602, 603, 604, 605, 606] rfl rfl
set_option maxRecDepth 200000 in
theorem gL_law_X5_moved : GoodIn wsL_law (wsV RL 81 RX5 yX5_moved wsX5_moved) := goodIn_app (goodIn_r _ [459, 460, 461, 5] rfl rfl) ggL_law_X5_moved
set_option maxRecDepth 200000 in
theorem ggL_law_X4_pair : GoodIn wsL_law wsX4_pair := goodIn_r _ [470, 23, 443, 444, 445, 22, 446, 68, 471, 472, 473, 474, 451, 452, 453, 454, 455, 456, 457, 458, 48, 589, 590, 591, 592, 593, 617, 618] rfl rfl
set_option maxRecDepth 200000 in
theorem gL_law_X4_pair : GoodIn wsL_law (wsV RL 82 RX4 yX4_pair wsX4_pair) := goodIn_app (goodIn_r _ [467, 468, 469, 2] rfl rfl) ggL_law_X4_pair
set_option maxRecDepth 200000 in
theorem ggL_law_X5_pair : GoodIn wsL_law wsX5_pair := goodIn_r _ [478, 183, 171, 187, 188, 5, 189, 463, 464, 465, 466, 151, 159, 594, 595, 596, 597, 598, 599, 600, 601, 602, 603, 604, 605, 606] rfl rfl
set_option maxRecDepth 200000 in
theorem gL_law_X5_pair : GoodIn wsL_law (wsV RL 85 RX5 yX5_pair wsX5_pair) := goodIn_app (goodIn_r _ [475, 476, 477, 5] rfl rfl) ggL_law_X5_pair
set_option maxRecDepth 200000 in
theorem ggL_law_X4_then : GoodIn wsL_law wsX4_then := goodIn_r _ [482, 15, 23, 194, 195, 196, 14, 197, 198, 199, 200, 201, 62, 443, 444, 445, 22, 446, 68, 483, 106, 2, 107, 484, 456, 457, 458, 48, 589, 590, 591, 592, 593, 607, 608, 609, 610, 611, 612, 613, 617, 618] rfl rfl
set_option maxRecDepth 200000 in
theorem gL_law_X4_then : GoodIn wsL_law (wsV RL 86 RX4 yX4_then wsX4_then) := goodIn_app (goodIn_r _ [479, 480, 481, 2] rfl rfl) ggL_law_X4_then
set_option maxRecDepth 200000 in
theorem ggL_law_X5_then : GoodIn wsL_law wsX5_then := goodIn_r _ [488, 183, 171, 159, 227, 228, 229, 5, 230, 151, 187, 188, 189, 594, 595, 596, 597, 598, 599, 600, 601, 602, 603, 604, 605, 606] rfl rfl
set_option maxRecDepth 200000 in
theorem gL_law_X5_then : GoodIn wsL_law (wsV RL 89 RX5 yX5_then wsX5_then) := goodIn_app (goodIn_r _ [485, 486, 487, 5] rfl rfl) ggL_law_X5_then
set_option maxRecDepth 200000 in
theorem ggL_law_X4_since : GoodIn wsL_law wsX4_since := goodIn_r _ [492, 15, 23, 194, 195, 196, 14, 197, 198, 199, 200, 201, 62, 443, 444, 445, 22, 446, 68, 483, 106, 2, 107, 493, 494, 495, 496, 455, 456, 457, 458, 48, 589, 590, 591, 592, 593, 607, 608, 609, 610, 611, 612, 613, 617, 618] rfl rfl
set_option maxRecDepth 200000 in
theorem gL_law_X4_since : GoodIn wsL_law (wsV RL 90 RX4 yX4_since wsX4_since) := goodIn_app (goodIn_r _ [489, 490, 491, 2] rfl rfl) ggL_law_X4_since
set_option maxRecDepth 200000 in
theorem ggL_law_X5_since : GoodIn wsL_law wsX5_since := goodIn_r _ [500, 183, 171, 501, 502, 159, 227, 228, 229, 5, 230, 151, 187, 188, 189, 594, 595, 596, 597, 598, 599, 600, 601, 602, 603, 604, 605, 606] rfl rfl
set_option maxRecDepth 200000 in
theorem gL_law_X5_since : GoodIn wsL_law (wsV RL 94 RX5 yX5_since wsX5_since) := goodIn_app (goodIn_r _ [497, 498, 499, 5] rfl rfl) ggL_law_X5_since
set_option maxRecDepth 200000 in
theorem ggL_law_X4_marks : GoodIn wsL_law wsX4_marks := goodIn_r _ [506, 15, 57, 589, 590, 591, 592, 593, 607, 608, 609, 610, 611, 612, 613] rfl rfl
set_option maxRecDepth 200000 in
theorem gL_law_X4_marks : GoodIn wsL_law (wsV RL 95 RX4 yX4_marks wsX4_marks) := goodIn_app (goodIn_r _ [503, 504, 505, 2] rfl rfl) ggL_law_X4_marks
set_option maxRecDepth 200000 in
theorem ggL_law_X5_marks : GoodIn wsL_law wsX5_marks := goodIn_r _ [510, 183, 151, 186, 594, 595, 596, 597, 598, 599, 600, 601, 602, 603, 604, 605, 606] rfl rfl
set_option maxRecDepth 200000 in
theorem gL_law_X5_marks : GoodIn wsL_law (wsV RL 98 RX5 yX5_marks wsX5_marks) := goodIn_app (goodIn_r _ [507, 508, 509, 5] rfl rfl) ggL_law_X5_marks
set_option maxRecDepth 200000 in
theorem ggL_law_X4_near : GoodIn wsL_law wsX4_near := goodIn_r _ [514, 15, 19, 57, 194, 195, 196, 14, 197, 198, 199, 200, 201, 62, 515, 516, 517, 18, 518, 44, 294, 122, 123, 124, 299, 300, 301, 302, 42, 77, 106, 2, 107, 303, 137, 138, 139, 140, 141, 142, 143, 144, 145, 146, 589, 590, 591, 592, 593, 607, 608, 609, 610, 611, 612, 613, 614, 615, 616] rfl rfl
set_option maxRecDepth 200000 in
theorem gL_law_X4_near : GoodIn wsL_law (wsV RL 99 RX4 yX4_near wsX4_near) := goodIn_app (goodIn_r _ [511, 512, 513, 2] rfl rfl) ggL_law_X4_near
set_option maxRecDepth 200000 in
theorem ggL_law_X5_near : GoodIn wsL_law wsX5_near := goodIn_r _ [522, 183, 227, 228, 229, 5, 230, 151, 187, 188, 189, 161, 162, 163, 164, 157, 165, 166, 156, 152, 153, 154, 155, 523, 524, 525, 526, 186, 231, 232, 233, 234, 172, 173, 174, 594, 595, 596, 597, 598, 599, 600, 601, 602, 603, 604, 605, 606] rfl rfl
set_option maxRecDepth 200000 in
theorem gL_law_X5_near : GoodIn wsL_law (wsV RL 102 RX5 yX5_near wsX5_near) := goodIn_app (goodIn_r _ [519, 520, 521, 5] rfl rfl) ggL_law_X5_near
set_option maxRecDepth 200000 in
theorem ggL_law_X4_worst : GoodIn wsL_law wsX4_worst := goodIn_r _ [530, 15, 19, 57, 531, 532, 123, 533, 534, 300, 301, 18, 302, 42, 77, 106, 2, 107, 515, 516, 517, 518, 44, 294, 122, 124, 299, 303, 137, 138, 139, 140, 141, 142, 143, 144, 145, 146, 316, 589, 590, 591, 592, 593, 607, 608, 609, 610, 611, 612, 613, 614, 615, 616] rfl rfl
set_option maxRecDepth 200000 in
theorem gL_law_X4_worst : GoodIn wsL_law (wsV RL 103 RX4 yX4_worst wsX4_worst) := goodIn_app (goodIn_r _ [527, 528, 529, 2] rfl rfl) ggL_law_X4_worst
set_option maxRecDepth 200000 in
theorem ggL_law_X5_worst : GoodIn wsL_law wsX5_worst := goodIn_r _ [538, 183, 151, 161, 162, 163, 5, 164, 157, 165, 166, 156, 152, 153, 154, 155, 231, 232, 233, 234, 172, 173, 174, 523, 524, 525, 526, 186, 594, 595, 596, 597, 598, 599, 600, 601, 602, 603, 604, 605, 606] rfl rfl
set_option maxRecDepth 200000 in
theorem gL_law_X5_worst : GoodIn wsL_law (wsV RL 106 RX5 yX5_worst wsX5_worst) := goodIn_app (goodIn_r _ [535, 536, 537, 5] rfl rfl) ggL_law_X5_worst
set_option maxRecDepth 200000 in
theorem ggL_law_X4_hits : GoodIn wsL_law wsX4_hits := goodIn_r _ [542, 27, 19, 15, 543, 544, 545, 26, 546, 547, 52, 548, 326, 327, 18, 328, 42, 77, 106, 2, 107, 329, 330, 145, 331, 549, 550, 551, 552, 44, 344, 345, 346, 347, 348, 349, 199, 200, 14, 201, 62, 299, 300, 301, 302, 350, 351, 352, 353, 37, 32, 33, 36, 354, 244, 245, 246, 63, 98, 99, 100, 101, 553, 554, 555, 556, 557, 558, 559, 560, 561, 562, 563, 564, 565, 566, 567, 589, 590, 591, 592, 593, 607, 608, 609, 610, 611, 612, 613, 619, 620, 614, 615, 616] rfl rfl
set_option maxRecDepth 200000 in
theorem gL_law_X4_hits : GoodIn wsL_law (wsV RL 107 RX4 yX4_hits wsX4_hits) := goodIn_app (goodIn_r _ [539, 540, 541, 2] rfl rfl) ggL_law_X4_hits
set_option maxRecDepth 200000 in
theorem ggL_law_X5_hits : GoodIn wsL_law wsX5_hits := goodIn_r _ [571, 183, 572, 151, 157, 165, 160, 187, 188, 5, 189, 161, 162, 163, 164, 166, 156, 152, 153, 154, 155, 172, 173, 174, 359, 360, 361, 362, 363, 364, 365, 366, 573, 574, 575, 594, 595, 596, 597, 598, 599, 600, 601, 602, 603, 604, 605, 606] rfl rfl
set_option maxRecDepth 200000 in
theorem gL_law_X5_hits : GoodIn wsL_law (wsV RL 110 RX5 yX5_hits wsX5_hits) := goodIn_app (goodIn_r _ [568, 569, 570, 5] rfl rfl) ggL_law_X5_hits
set_option maxRecDepth 200000 in
theorem ggL_law_X4_count : GoodIn wsL_law wsX4_count := goodIn_r _ [579, 15, 19, 57, 263, 264, 265, 14, 266, 63, 37, 580, 581, 582, 18, 583, 44, 299, 300, 301, 302, 42, 77, 106, 2, 107, 584, 558, 559, 560, 561, 562, 563, 589, 590, 591, 592, 593, 607, 608, 609, 610, 611, 612, 613, 614, 615, 616] rfl rfl
set_option maxRecDepth 200000 in
theorem gL_law_X4_count : GoodIn wsL_law (wsV RL 111 RX4 yX4_count wsX4_count) := goodIn_app (goodIn_r _ [576, 577, 578, 2] rfl rfl) ggL_law_X4_count
set_option maxRecDepth 200000 in
theorem ggL_law_X5_count : GoodIn wsL_law wsX5_count := goodIn_r _ [588, 183, 151, 166, 186, 161, 162, 163, 5, 164, 157, 165, 156, 152, 153, 154, 155, 231, 232, 233, 234, 172, 173, 174, 271, 272, 273, 274, 573, 574, 575, 594, 595, 596, 597, 598, 599, 600, 601, 602, 603, 604, 605, 606] rfl rfl
set_option maxRecDepth 200000 in
theorem gL_law_X5_count : GoodIn wsL_law (wsV RL 114 RX5 yX5_count wsX5_count) := goodIn_app (goodIn_r _ [585, 586, 587, 5] rfl rfl) ggL_law_X5_count
end
section
theorem dX0_init_0 : decode cX0_init 0 = .ok (.aload_n 0, 1) := by decide +kernel
theorem dX0_init_1 : decode cX0_init 1 = .ok (.invokespecial 3, 3) := by decide +kernel
theorem dX0_init_4 : decode cX0_init 4 = .ok (.aload_n 0, 1) := by decide +kernel
theorem dX0_init_5 : decode cX0_init 5 = .ok (.bipush 100, 2) := by decide +kernel
theorem dX0_init_7 : decode cX0_init 7 = .ok (.newarray .int, 2) := by decide +kernel
theorem dX0_init_9 : decode cX0_init 9 = .ok (.putfield 9, 3) := by decide +kernel
theorem dX0_init_12 : decode cX0_init 12 = .ok (.return_, 1) := by decide +kernel
theorem dX0_askFor_0 : decode cX0_askFor 0 = .ok (.aload_n 0, 1) := by decide +kernel
theorem dX0_askFor_1 : decode cX0_askFor 1 = .ok (.iconst 0, 1) := by decide +kernel
theorem dX0_askFor_2 : decode cX0_askFor 2 = .ok (.putfield 15, 3) := by decide +kernel
theorem dX0_askFor_5 : decode cX0_askFor 5 = .ok (.iconst 0, 1) := by decide +kernel
theorem dX0_askFor_6 : decode cX0_askFor 6 = .ok (.istore 4, 2) := by decide +kernel
theorem dX0_askFor_8 : decode cX0_askFor 8 = .ok (.iload 4, 2) := by decide +kernel
theorem dX0_askFor_10 : decode cX0_askFor 10 = .ok (.iload_n 2, 1) := by decide +kernel
theorem dX0_askFor_11 : decode cX0_askFor 11 = .ok (.if_icmp .ge 70, 3) := by decide +kernel
theorem dX0_askFor_14 : decode cX0_askFor 14 = .ok (.iconst 0, 1) := by decide +kernel
theorem dX0_askFor_15 : decode cX0_askFor 15 = .ok (.istore 5, 2) := by decide +kernel
theorem dX0_askFor_17 : decode cX0_askFor 17 = .ok (.iload 5, 2) := by decide +kernel
theorem dX0_askFor_19 : decode cX0_askFor 19 = .ok (.iload_n 2, 1) := by decide +kernel
theorem dX0_askFor_20 : decode cX0_askFor 20 = .ok (.if_icmp .ge 55, 3) := by decide +kernel
theorem dX0_askFor_23 : decode cX0_askFor 23 = .ok (.iload 4, 2) := by decide +kernel
theorem dX0_askFor_25 : decode cX0_askFor 25 = .ok (.iload 5, 2) := by decide +kernel
theorem dX0_askFor_27 : decode cX0_askFor 27 = .ok (.if_icmp .eq 42, 3) := by decide +kernel
theorem dX0_askFor_30 : decode cX0_askFor 30 = .ok (.aload_n 1, 1) := by decide +kernel
theorem dX0_askFor_31 : decode cX0_askFor 31 = .ok (.iload 4, 2) := by decide +kernel
theorem dX0_askFor_33 : decode cX0_askFor 33 = .ok (.iload 5, 2) := by decide +kernel
theorem dX0_askFor_35 : decode cX0_askFor 35 = .ok (.invokevirtual 19, 3) := by decide +kernel
theorem dX0_askFor_38 : decode cX0_askFor 38 = .ok (.iload_n 3, 1) := by decide +kernel
theorem dX0_askFor_39 : decode cX0_askFor 39 = .ok (.if_icmp .lt 30, 3) := by decide +kernel
theorem dX0_askFor_42 : decode cX0_askFor 42 = .ok (.aload_n 0, 1) := by decide +kernel
theorem dX0_askFor_43 : decode cX0_askFor 43 = .ok (.getfield 9, 3) := by decide +kernel
theorem dX0_askFor_46 : decode cX0_askFor 46 = .ok (.aload_n 0, 1) := by decide +kernel
theorem dX0_askFor_47 : decode cX0_askFor 47 = .ok (.getfield 15, 3) := by decide +kernel
theorem dX0_askFor_50 : decode cX0_askFor 50 = .ok (.aload_n 1, 1) := by decide +kernel
theorem dX0_askFor_51 : decode cX0_askFor 51 = .ok (.iload 4, 2) := by decide +kernel
theorem dX0_askFor_53 : decode cX0_askFor 53 = .ok (.iload 5, 2) := by decide +kernel
theorem dX0_askFor_55 : decode cX0_askFor 55 = .ok (.invokevirtual 25, 3) := by decide +kernel
theorem dX0_askFor_58 : decode cX0_askFor 58 = .ok (.iastore, 1) := by decide +kernel
theorem dX0_askFor_59 : decode cX0_askFor 59 = .ok (.aload_n 0, 1) := by decide +kernel
theorem dX0_askFor_60 : decode cX0_askFor 60 = .ok (.dup, 1) := by decide +kernel
theorem dX0_askFor_61 : decode cX0_askFor 61 = .ok (.getfield 15, 3) := by decide +kernel
theorem dX0_askFor_64 : decode cX0_askFor 64 = .ok (.iconst 1, 1) := by decide +kernel
theorem dX0_askFor_65 : decode cX0_askFor 65 = .ok (.iadd, 1) := by decide +kernel
theorem dX0_askFor_66 : decode cX0_askFor 66 = .ok (.putfield 15, 3) := by decide +kernel
theorem dX0_askFor_69 : decode cX0_askFor 69 = .ok (.iinc 5 1, 3) := by decide +kernel
theorem dX0_askFor_72 : decode cX0_askFor 72 = .ok (.goto (-55), 3) := by decide +kernel
theorem dX0_askFor_75 : decode cX0_askFor 75 = .ok (.iinc 4 1, 3) := by decide +kernel
theorem dX0_askFor_78 : decode cX0_askFor 78 = .ok (.goto (-70), 3) := by decide +kernel
theorem dX0_askFor_81 : decode cX0_askFor 81 = .ok (.return_, 1) := by decide +kernel
theorem dX0_fewest_0 : decode cX0_fewest 0 = .ok (.sipush (-1000), 3) := by decide +kernel
theorem dX0_fewest_3 : decode cX0_fewest 3 = .ok (.istore_n 2, 1) := by decide +kernel
theorem dX0_fewest_4 : decode cX0_fewest 4 = .ok (.iload_n 1, 1) := by decide +kernel
theorem dX0_fewest_5 : decode cX0_fewest 5 = .ok (.iconst 1, 1) := by decide +kernel
theorem dX0_fewest_6 : decode cX0_fewest 6 = .ok (.iadd, 1) := by decide +kernel
theorem dX0_fewest_7 : decode cX0_fewest 7 = .ok (.istore_n 3, 1) := by decide +kernel
theorem dX0_fewest_8 : decode cX0_fewest 8 = .ok (.iconst 0, 1) := by decide +kernel
theorem dX0_fewest_9 : decode cX0_fewest 9 = .ok (.istore 4, 2) := by decide +kernel
theorem dX0_fewest_11 : decode cX0_fewest 11 = .ok (.iload 4, 2) := by decide +kernel
theorem dX0_fewest_13 : decode cX0_fewest 13 = .ok (.iconst 1, 1) := by decide +kernel
theorem dX0_fewest_14 : decode cX0_fewest 14 = .ok (.iload_n 1, 1) := by decide +kernel
theorem dX0_fewest_15 : decode cX0_fewest 15 = .ok (.ishl, 1) := by decide +kernel
theorem dX0_fewest_16 : decode cX0_fewest 16 = .ok (.if_icmp .ge 37, 3) := by decide +kernel
theorem dX0_fewest_19 : decode cX0_fewest 19 = .ok (.iload 4, 2) := by decide +kernel
theorem dX0_fewest_21 : decode cX0_fewest 21 = .ok (.invokestatic 28, 3) := by decide +kernel
theorem dX0_fewest_24 : decode cX0_fewest 24 = .ok (.istore 5, 2) := by decide +kernel
theorem dX0_fewest_26 : decode cX0_fewest 26 = .ok (.iload 5, 2) := by decide +kernel
theorem dX0_fewest_28 : decode cX0_fewest 28 = .ok (.iload_n 3, 1) := by decide +kernel
theorem dX0_fewest_29 : decode cX0_fewest 29 = .ok (.if_icmp .ge 18, 3) := by decide +kernel
theorem dX0_fewest_32 : decode cX0_fewest 32 = .ok (.aload_n 0, 1) := by decide +kernel
theorem dX0_fewest_33 : decode cX0_fewest 33 = .ok (.iload 4, 2) := by decide +kernel
theorem dX0_fewest_35 : decode cX0_fewest 35 = .ok (.invokevirtual 34, 3) := by decide +kernel
theorem dX0_fewest_38 : decode cX0_fewest 38 = .ok (.ifCond .eq 9, 3) := by decide +kernel
theorem dX0_fewest_41 : decode cX0_fewest 41 = .ok (.iload 4, 2) := by decide +kernel
theorem dX0_fewest_43 : decode cX0_fewest 43 = .ok (.istore_n 2, 1) := by decide +kernel
theorem dX0_fewest_44 : decode cX0_fewest 44 = .ok (.iload 5, 2) := by decide +kernel
theorem dX0_fewest_46 : decode cX0_fewest 46 = .ok (.istore_n 3, 1) := by decide +kernel
theorem dX0_fewest_47 : decode cX0_fewest 47 = .ok (.iinc 4 1, 3) := by decide +kernel
theorem dX0_fewest_50 : decode cX0_fewest 50 = .ok (.goto (-39), 3) := by decide +kernel
theorem dX0_fewest_53 : decode cX0_fewest 53 = .ok (.iload_n 2, 1) := by decide +kernel
theorem dX0_fewest_54 : decode cX0_fewest 54 = .ok (.ireturn, 1) := by decide +kernel
theorem dX0_meetsAll_0 : decode cX0_meetsAll 0 = .ok (.iconst 0, 1) := by decide +kernel
theorem dX0_meetsAll_1 : decode cX0_meetsAll 1 = .ok (.istore_n 2, 1) := by decide +kernel
theorem dX0_meetsAll_2 : decode cX0_meetsAll 2 = .ok (.iload_n 2, 1) := by decide +kernel
theorem dX0_meetsAll_3 : decode cX0_meetsAll 3 = .ok (.aload_n 0, 1) := by decide +kernel
theorem dX0_meetsAll_4 : decode cX0_meetsAll 4 = .ok (.getfield 15, 3) := by decide +kernel
theorem dX0_meetsAll_7 : decode cX0_meetsAll 7 = .ok (.if_icmp .ge 22, 3) := by decide +kernel
theorem dX0_meetsAll_10 : decode cX0_meetsAll 10 = .ok (.aload_n 0, 1) := by decide +kernel
theorem dX0_meetsAll_11 : decode cX0_meetsAll 11 = .ok (.getfield 9, 3) := by decide +kernel
theorem dX0_meetsAll_14 : decode cX0_meetsAll 14 = .ok (.iload_n 2, 1) := by decide +kernel
theorem dX0_meetsAll_15 : decode cX0_meetsAll 15 = .ok (.iaload, 1) := by decide +kernel
theorem dX0_meetsAll_16 : decode cX0_meetsAll 16 = .ok (.iload_n 1, 1) := by decide +kernel
theorem dX0_meetsAll_17 : decode cX0_meetsAll 17 = .ok (.iand, 1) := by decide +kernel
theorem dX0_meetsAll_18 : decode cX0_meetsAll 18 = .ok (.ifCond .ne 5, 3) := by decide +kernel
theorem dX0_meetsAll_21 : decode cX0_meetsAll 21 = .ok (.iconst 0, 1) := by decide +kernel
theorem dX0_meetsAll_22 : decode cX0_meetsAll 22 = .ok (.ireturn, 1) := by decide +kernel
theorem dX0_meetsAll_23 : decode cX0_meetsAll 23 = .ok (.iinc 2 1, 3) := by decide +kernel
theorem dX0_meetsAll_26 : decode cX0_meetsAll 26 = .ok (.goto (-24), 3) := by decide +kernel
theorem dX0_meetsAll_29 : decode cX0_meetsAll 29 = .ok (.iconst 1, 1) := by decide +kernel
theorem dX0_meetsAll_30 : decode cX0_meetsAll 30 = .ok (.ireturn, 1) := by decide +kernel
theorem dX1_init_0 : decode cX1_init 0 = .ok (.aload_n 0, 1) := by decide +kernel
theorem dX1_init_1 : decode cX1_init 1 = .ok (.invokespecial 3, 3) := by decide +kernel
theorem dX1_init_4 : decode cX1_init 4 = .ok (.aload_n 0, 1) := by decide +kernel
theorem dX1_init_5 : decode cX1_init 5 = .ok (.bipush 40, 2) := by decide +kernel
theorem dX1_init_7 : decode cX1_init 7 = .ok (.newarray .int, 2) := by decide +kernel
theorem dX1_init_9 : decode cX1_init 9 = .ok (.putfield 9, 3) := by decide +kernel
theorem dX1_init_12 : decode cX1_init 12 = .ok (.aload_n 0, 1) := by decide +kernel
theorem dX1_init_13 : decode cX1_init 13 = .ok (.bipush 40, 2) := by decide +kernel
theorem dX1_init_15 : decode cX1_init 15 = .ok (.newarray .int, 2) := by decide +kernel
theorem dX1_init_17 : decode cX1_init 17 = .ok (.putfield 15, 3) := by decide +kernel
theorem dX1_init_20 : decode cX1_init 20 = .ok (.aload_n 0, 1) := by decide +kernel
theorem dX1_init_21 : decode cX1_init 21 = .ok (.bipush 40, 2) := by decide +kernel
theorem dX1_init_23 : decode cX1_init 23 = .ok (.newarray .int, 2) := by decide +kernel
theorem dX1_init_25 : decode cX1_init 25 = .ok (.putfield 18, 3) := by decide +kernel
theorem dX1_init_28 : decode cX1_init 28 = .ok (.aload_n 0, 1) := by decide +kernel
theorem dX1_init_29 : decode cX1_init 29 = .ok (.bipush 40, 2) := by decide +kernel
theorem dX1_init_31 : decode cX1_init 31 = .ok (.newarray .boolean, 2) := by decide +kernel
theorem dX1_init_33 : decode cX1_init 33 = .ok (.putfield 21, 3) := by decide +kernel
theorem dX1_init_36 : decode cX1_init 36 = .ok (.aload_n 0, 1) := by decide +kernel
theorem dX1_init_37 : decode cX1_init 37 = .ok (.bipush 40, 2) := by decide +kernel
theorem dX1_init_39 : decode cX1_init 39 = .ok (.newarray .boolean, 2) := by decide +kernel
theorem dX1_init_41 : decode cX1_init 41 = .ok (.putfield 25, 3) := by decide +kernel
theorem dX1_init_44 : decode cX1_init 44 = .ok (.return_, 1) := by decide +kernel
theorem dX1_clear_0 : decode cX1_clear 0 = .ok (.aload_n 0, 1) := by decide +kernel
theorem dX1_clear_1 : decode cX1_clear 1 = .ok (.iload_n 1, 1) := by decide +kernel
theorem dX1_clear_2 : decode cX1_clear 2 = .ok (.putfield 28, 3) := by decide +kernel
theorem dX1_clear_5 : decode cX1_clear 5 = .ok (.aload_n 0, 1) := by decide +kernel
theorem dX1_clear_6 : decode cX1_clear 6 = .ok (.iconst 0, 1) := by decide +kernel
theorem dX1_clear_7 : decode cX1_clear 7 = .ok (.putfield 32, 3) := by decide +kernel
theorem dX1_clear_10 : decode cX1_clear 10 = .ok (.return_, 1) := by decide +kernel
theorem dX1_hasPost_0 : decode cX1_hasPost 0 = .ok (.iload_n 1, 1) := by decide +kernel
theorem dX1_hasPost_1 : decode cX1_hasPost 1 = .ok (.ifCond .lt 15, 3) := by decide +kernel
theorem dX1_hasPost_4 : decode cX1_hasPost 4 = .ok (.iload_n 1, 1) := by decide +kernel
theorem dX1_hasPost_5 : decode cX1_hasPost 5 = .ok (.aload_n 0, 1) := by decide +kernel
theorem dX1_hasPost_6 : decode cX1_hasPost 6 = .ok (.getfield 28, 3) := by decide +kernel
theorem dX1_hasPost_9 : decode cX1_hasPost 9 = .ok (.if_icmp .ge 7, 3) := by decide +kernel
theorem dX1_hasPost_12 : decode cX1_hasPost 12 = .ok (.iconst 1, 1) := by decide +kernel
theorem dX1_hasPost_13 : decode cX1_hasPost 13 = .ok (.goto 4, 3) := by decide +kernel
theorem dX1_hasPost_16 : decode cX1_hasPost 16 = .ok (.iconst 0, 1) := by decide +kernel
theorem dX1_hasPost_17 : decode cX1_hasPost 17 = .ok (.ireturn, 1) := by decide +kernel
theorem dX1_hasPosts_0 : decode cX1_hasPosts 0 = .ok (.aload_n 0, 1) := by decide +kernel
theorem dX1_hasPosts_1 : decode cX1_hasPosts 1 = .ok (.iload_n 1, 1) := by decide +kernel
theorem dX1_hasPosts_2 : decode cX1_hasPosts 2 = .ok (.invokevirtual 35, 3) := by decide +kernel
theorem dX1_hasPosts_5 : decode cX1_hasPosts 5 = .ok (.ifCond .eq 15, 3) := by decide +kernel
theorem dX1_hasPosts_8 : decode cX1_hasPosts 8 = .ok (.aload_n 0, 1) := by decide +kernel
theorem dX1_hasPosts_9 : decode cX1_hasPosts 9 = .ok (.iload_n 2, 1) := by decide +kernel
theorem dX1_hasPosts_10 : decode cX1_hasPosts 10 = .ok (.invokevirtual 35, 3) := by decide +kernel
theorem dX1_hasPosts_13 : decode cX1_hasPosts 13 = .ok (.ifCond .eq 7, 3) := by decide +kernel
theorem dX1_hasPosts_16 : decode cX1_hasPosts 16 = .ok (.iconst 1, 1) := by decide +kernel
theorem dX1_hasPosts_17 : decode cX1_hasPosts 17 = .ok (.goto 4, 3) := by decide +kernel
theorem dX1_hasPosts_20 : decode cX1_hasPosts 20 = .ok (.iconst 0, 1) := by decide +kernel
theorem dX1_hasPosts_21 : decode cX1_hasPosts 21 = .ok (.ireturn, 1) := by decide +kernel
theorem dX1_hasLine_0 : decode cX1_hasLine 0 = .ok (.iload_n 1, 1) := by decide +kernel
theorem dX1_hasLine_1 : decode cX1_hasLine 1 = .ok (.ifCond .lt 15, 3) := by decide +kernel
theorem dX1_hasLine_4 : decode cX1_hasLine 4 = .ok (.iload_n 1, 1) := by decide +kernel
theorem dX1_hasLine_5 : decode cX1_hasLine 5 = .ok (.aload_n 0, 1) := by decide +kernel
theorem dX1_hasLine_6 : decode cX1_hasLine 6 = .ok (.getfield 32, 3) := by decide +kernel
theorem dX1_hasLine_9 : decode cX1_hasLine 9 = .ok (.if_icmp .ge 7, 3) := by decide +kernel
theorem dX1_hasLine_12 : decode cX1_hasLine 12 = .ok (.iconst 1, 1) := by decide +kernel
theorem dX1_hasLine_13 : decode cX1_hasLine 13 = .ok (.goto 4, 3) := by decide +kernel
theorem dX1_hasLine_16 : decode cX1_hasLine 16 = .ok (.iconst 0, 1) := by decide +kernel
theorem dX1_hasLine_17 : decode cX1_hasLine 17 = .ok (.ireturn, 1) := by decide +kernel
theorem dX1_add_0 : decode cX1_add 0 = .ok (.aload_n 0, 1) := by decide +kernel
theorem dX1_add_1 : decode cX1_add 1 = .ok (.getfield 32, 3) := by decide +kernel
theorem dX1_add_4 : decode cX1_add 4 = .ok (.istore 5, 2) := by decide +kernel
theorem dX1_add_6 : decode cX1_add 6 = .ok (.iload 5, 2) := by decide +kernel
theorem dX1_add_8 : decode cX1_add 8 = .ok (.bipush 40, 2) := by decide +kernel
theorem dX1_add_10 : decode cX1_add 10 = .ok (.if_icmp .lt 7, 3) := by decide +kernel
theorem dX1_add_13 : decode cX1_add 13 = .ok (.sipush (-1004), 3) := by decide +kernel
theorem dX1_add_16 : decode cX1_add 16 = .ok (.ireturn, 1) := by decide +kernel
theorem dX1_add_17 : decode cX1_add 17 = .ok (.aload_n 0, 1) := by decide +kernel
theorem dX1_add_18 : decode cX1_add 18 = .ok (.getfield 9, 3) := by decide +kernel
theorem dX1_add_21 : decode cX1_add 21 = .ok (.iload 5, 2) := by decide +kernel
theorem dX1_add_23 : decode cX1_add 23 = .ok (.iload_n 1, 1) := by decide +kernel
theorem dX1_add_24 : decode cX1_add 24 = .ok (.iastore, 1) := by decide +kernel
theorem dX1_add_25 : decode cX1_add 25 = .ok (.aload_n 0, 1) := by decide +kernel
theorem dX1_add_26 : decode cX1_add 26 = .ok (.getfield 15, 3) := by decide +kernel
theorem dX1_add_29 : decode cX1_add 29 = .ok (.iload 5, 2) := by decide +kernel
theorem dX1_add_31 : decode cX1_add 31 = .ok (.iload_n 2, 1) := by decide +kernel
theorem dX1_add_32 : decode cX1_add 32 = .ok (.iastore, 1) := by decide +kernel
theorem dX1_add_33 : decode cX1_add 33 = .ok (.aload_n 0, 1) := by decide +kernel
theorem dX1_add_34 : decode cX1_add 34 = .ok (.getfield 18, 3) := by decide +kernel
theorem dX1_add_37 : decode cX1_add 37 = .ok (.iload 5, 2) := by decide +kernel
theorem dX1_add_39 : decode cX1_add 39 = .ok (.iload_n 3, 1) := by decide +kernel
theorem dX1_add_40 : decode cX1_add 40 = .ok (.iastore, 1) := by decide +kernel
theorem dX1_add_41 : decode cX1_add 41 = .ok (.aload_n 0, 1) := by decide +kernel
theorem dX1_add_42 : decode cX1_add 42 = .ok (.getfield 21, 3) := by decide +kernel
theorem dX1_add_45 : decode cX1_add 45 = .ok (.iload 5, 2) := by decide +kernel
theorem dX1_add_47 : decode cX1_add 47 = .ok (.iload 4, 2) := by decide +kernel
theorem dX1_add_49 : decode cX1_add 49 = .ok (.bastore, 1) := by decide +kernel
theorem dX1_add_50 : decode cX1_add 50 = .ok (.aload_n 0, 1) := by decide +kernel
theorem dX1_add_51 : decode cX1_add 51 = .ok (.getfield 25, 3) := by decide +kernel
theorem dX1_add_54 : decode cX1_add 54 = .ok (.iload 5, 2) := by decide +kernel
theorem dX1_add_56 : decode cX1_add 56 = .ok (.iconst 1, 1) := by decide +kernel
theorem dX1_add_57 : decode cX1_add 57 = .ok (.bastore, 1) := by decide +kernel
theorem dX1_add_58 : decode cX1_add 58 = .ok (.aload_n 0, 1) := by decide +kernel
theorem dX1_add_59 : decode cX1_add 59 = .ok (.dup, 1) := by decide +kernel
theorem dX1_add_60 : decode cX1_add 60 = .ok (.getfield 32, 3) := by decide +kernel
theorem dX1_add_63 : decode cX1_add 63 = .ok (.iconst 1, 1) := by decide +kernel
theorem dX1_add_64 : decode cX1_add 64 = .ok (.iadd, 1) := by decide +kernel
theorem dX1_add_65 : decode cX1_add 65 = .ok (.putfield 32, 3) := by decide +kernel
theorem dX1_add_68 : decode cX1_add 68 = .ok (.iload 5, 2) := by decide +kernel
theorem dX1_add_70 : decode cX1_add 70 = .ok (.ireturn, 1) := by decide +kernel
theorem dX1_countThere_0 : decode cX1_countThere 0 = .ok (.iconst 0, 1) := by decide +kernel
theorem dX1_countThere_1 : decode cX1_countThere 1 = .ok (.istore_n 1, 1) := by decide +kernel
theorem dX1_countThere_2 : decode cX1_countThere 2 = .ok (.iconst 0, 1) := by decide +kernel
theorem dX1_countThere_3 : decode cX1_countThere 3 = .ok (.istore_n 2, 1) := by decide +kernel
theorem dX1_countThere_4 : decode cX1_countThere 4 = .ok (.iload_n 2, 1) := by decide +kernel
theorem dX1_countThere_5 : decode cX1_countThere 5 = .ok (.aload_n 0, 1) := by decide +kernel
theorem dX1_countThere_6 : decode cX1_countThere 6 = .ok (.getfield 32, 3) := by decide +kernel
theorem dX1_countThere_9 : decode cX1_countThere 9 = .ok (.if_icmp .ge 21, 3) := by decide +kernel
theorem dX1_countThere_12 : decode cX1_countThere 12 = .ok (.aload_n 0, 1) := by decide +kernel
theorem dX1_countThere_13 : decode cX1_countThere 13 = .ok (.getfield 25, 3) := by decide +kernel
theorem dX1_countThere_16 : decode cX1_countThere 16 = .ok (.iload_n 2, 1) := by decide +kernel
theorem dX1_countThere_17 : decode cX1_countThere 17 = .ok (.baload, 1) := by decide +kernel
theorem dX1_countThere_18 : decode cX1_countThere 18 = .ok (.ifCond .eq 6, 3) := by decide +kernel
theorem dX1_countThere_21 : decode cX1_countThere 21 = .ok (.iinc 1 1, 3) := by decide +kernel
theorem dX1_countThere_24 : decode cX1_countThere 24 = .ok (.iinc 2 1, 3) := by decide +kernel
theorem dX1_countThere_27 : decode cX1_countThere 27 = .ok (.goto (-23), 3) := by decide +kernel
theorem dX1_countThere_30 : decode cX1_countThere 30 = .ok (.iload_n 1, 1) := by decide +kernel
theorem dX1_countThere_31 : decode cX1_countThere 31 = .ok (.ireturn, 1) := by decide +kernel
theorem dX1_target_0 : decode cX1_target 0 = .ok (.aload_n 0, 1) := by decide +kernel
theorem dX1_target_1 : decode cX1_target 1 = .ok (.iload_n 1, 1) := by decide +kernel
theorem dX1_target_2 : decode cX1_target 2 = .ok (.invokevirtual 39, 3) := by decide +kernel
theorem dX1_target_5 : decode cX1_target 5 = .ok (.ifCond .eq 12, 3) := by decide +kernel
theorem dX1_target_8 : decode cX1_target 8 = .ok (.aload_n 0, 1) := by decide +kernel
theorem dX1_target_9 : decode cX1_target 9 = .ok (.getfield 25, 3) := by decide +kernel
theorem dX1_target_12 : decode cX1_target 12 = .ok (.iload_n 1, 1) := by decide +kernel
theorem dX1_target_13 : decode cX1_target 13 = .ok (.baload, 1) := by decide +kernel
theorem dX1_target_14 : decode cX1_target 14 = .ok (.ifCond .ne 5, 3) := by decide +kernel
theorem dX1_target_17 : decode cX1_target 17 = .ok (.iconst (-1), 1) := by decide +kernel
theorem dX1_target_18 : decode cX1_target 18 = .ok (.ireturn, 1) := by decide +kernel
theorem dX1_target_19 : decode cX1_target 19 = .ok (.aload_n 0, 1) := by decide +kernel
theorem dX1_target_20 : decode cX1_target 20 = .ok (.getfield 9, 3) := by decide +kernel
theorem dX1_target_23 : decode cX1_target 23 = .ok (.iload_n 1, 1) := by decide +kernel
theorem dX1_target_24 : decode cX1_target 24 = .ok (.iaload, 1) := by decide +kernel
theorem dX1_target_25 : decode cX1_target 25 = .ok (.iload_n 2, 1) := by decide +kernel
theorem dX1_target_26 : decode cX1_target 26 = .ok (.if_icmp .ne 10, 3) := by decide +kernel
theorem dX1_target_29 : decode cX1_target 29 = .ok (.aload_n 0, 1) := by decide +kernel
theorem dX1_target_30 : decode cX1_target 30 = .ok (.getfield 15, 3) := by decide +kernel
theorem dX1_target_33 : decode cX1_target 33 = .ok (.iload_n 1, 1) := by decide +kernel
theorem dX1_target_34 : decode cX1_target 34 = .ok (.iaload, 1) := by decide +kernel
theorem dX1_target_35 : decode cX1_target 35 = .ok (.ireturn, 1) := by decide +kernel
theorem dX1_target_36 : decode cX1_target 36 = .ok (.aload_n 0, 1) := by decide +kernel
theorem dX1_target_37 : decode cX1_target 37 = .ok (.getfield 21, 3) := by decide +kernel
theorem dX1_target_40 : decode cX1_target 40 = .ok (.iload_n 1, 1) := by decide +kernel
theorem dX1_target_41 : decode cX1_target 41 = .ok (.baload, 1) := by decide +kernel
theorem dX1_target_42 : decode cX1_target 42 = .ok (.ifCond .eq 22, 3) := by decide +kernel
theorem dX1_target_45 : decode cX1_target 45 = .ok (.aload_n 0, 1) := by decide +kernel
theorem dX1_target_46 : decode cX1_target 46 = .ok (.getfield 15, 3) := by decide +kernel
theorem dX1_target_49 : decode cX1_target 49 = .ok (.iload_n 1, 1) := by decide +kernel
theorem dX1_target_50 : decode cX1_target 50 = .ok (.iaload, 1) := by decide +kernel
theorem dX1_target_51 : decode cX1_target 51 = .ok (.iload_n 2, 1) := by decide +kernel
theorem dX1_target_52 : decode cX1_target 52 = .ok (.if_icmp .ne 12, 3) := by decide +kernel
theorem dX1_target_55 : decode cX1_target 55 = .ok (.aload_n 0, 1) := by decide +kernel
theorem dX1_target_56 : decode cX1_target 56 = .ok (.getfield 9, 3) := by decide +kernel
theorem dX1_target_59 : decode cX1_target 59 = .ok (.iload_n 1, 1) := by decide +kernel
theorem dX1_target_60 : decode cX1_target 60 = .ok (.iaload, 1) := by decide +kernel
theorem dX1_target_61 : decode cX1_target 61 = .ok (.goto 4, 3) := by decide +kernel
theorem dX1_target_64 : decode cX1_target 64 = .ok (.iconst (-1), 1) := by decide +kernel
theorem dX1_target_65 : decode cX1_target 65 = .ok (.ireturn, 1) := by decide +kernel
theorem dX1_touches_0 : decode cX1_touches 0 = .ok (.aload_n 0, 1) := by decide +kernel
theorem dX1_touches_1 : decode cX1_touches 1 = .ok (.getfield 9, 3) := by decide +kernel
theorem dX1_touches_4 : decode cX1_touches 4 = .ok (.iload_n 1, 1) := by decide +kernel
theorem dX1_touches_5 : decode cX1_touches 5 = .ok (.iaload, 1) := by decide +kernel
theorem dX1_touches_6 : decode cX1_touches 6 = .ok (.iload_n 2, 1) := by decide +kernel
theorem dX1_touches_7 : decode cX1_touches 7 = .ok (.if_icmp .eq 13, 3) := by decide +kernel
theorem dX1_touches_10 : decode cX1_touches 10 = .ok (.aload_n 0, 1) := by decide +kernel
theorem dX1_touches_11 : decode cX1_touches 11 = .ok (.getfield 15, 3) := by decide +kernel
theorem dX1_touches_14 : decode cX1_touches 14 = .ok (.iload_n 1, 1) := by decide +kernel
theorem dX1_touches_15 : decode cX1_touches 15 = .ok (.iaload, 1) := by decide +kernel
theorem dX1_touches_16 : decode cX1_touches 16 = .ok (.iload_n 2, 1) := by decide +kernel
theorem dX1_touches_17 : decode cX1_touches 17 = .ok (.if_icmp .ne 7, 3) := by decide +kernel
theorem dX1_touches_20 : decode cX1_touches 20 = .ok (.iconst 1, 1) := by decide +kernel
theorem dX1_touches_21 : decode cX1_touches 21 = .ok (.goto 4, 3) := by decide +kernel
theorem dX1_touches_24 : decode cX1_touches 24 = .ok (.iconst 0, 1) := by decide +kernel
theorem dX1_touches_25 : decode cX1_touches 25 = .ok (.ireturn, 1) := by decide +kernel
theorem dX2_init_0 : decode cX2_init 0 = .ok (.aload_n 0, 1) := by decide +kernel
theorem dX2_init_1 : decode cX2_init 1 = .ok (.invokespecial 3, 3) := by decide +kernel
theorem dX2_init_4 : decode cX2_init 4 = .ok (.aload_n 0, 1) := by decide +kernel
theorem dX2_init_5 : decode cX2_init 5 = .ok (.sipush 1600, 3) := by decide +kernel
theorem dX2_init_8 : decode cX2_init 8 = .ok (.newarray .int, 2) := by decide +kernel
theorem dX2_init_10 : decode cX2_init 10 = .ok (.putfield 11, 3) := by decide +kernel
theorem dX2_init_13 : decode cX2_init 13 = .ok (.return_, 1) := by decide +kernel
theorem dX2_clear_0 : decode cX2_clear 0 = .ok (.aload_n 0, 1) := by decide +kernel
theorem dX2_clear_1 : decode cX2_clear 1 = .ok (.iconst 0, 1) := by decide +kernel
theorem dX2_clear_2 : decode cX2_clear 2 = .ok (.putfield 15, 3) := by decide +kernel
theorem dX2_clear_5 : decode cX2_clear 5 = .ok (.return_, 1) := by decide +kernel
theorem dX2_countActs_0 : decode cX2_countActs 0 = .ok (.aload_n 0, 1) := by decide +kernel
theorem dX2_countActs_1 : decode cX2_countActs 1 = .ok (.getfield 15, 3) := by decide +kernel
theorem dX2_countActs_4 : decode cX2_countActs 4 = .ok (.iconst 1, 1) := by decide +kernel
theorem dX2_countActs_5 : decode cX2_countActs 5 = .ok (.isub, 1) := by decide +kernel
theorem dX2_countActs_6 : decode cX2_countActs 6 = .ok (.ireturn, 1) := by decide +kernel
theorem dX2_isFull_0 : decode cX2_isFull 0 = .ok (.aload_n 0, 1) := by decide +kernel
theorem dX2_isFull_1 : decode cX2_isFull 1 = .ok (.getfield 15, 3) := by decide +kernel
theorem dX2_isFull_4 : decode cX2_isFull 4 = .ok (.sipush 401, 3) := by decide +kernel
theorem dX2_isFull_7 : decode cX2_isFull 7 = .ok (.if_icmp .lt 7, 3) := by decide +kernel
theorem dX2_isFull_10 : decode cX2_isFull 10 = .ok (.iconst 1, 1) := by decide +kernel
theorem dX2_isFull_11 : decode cX2_isFull 11 = .ok (.goto 4, 3) := by decide +kernel
theorem dX2_isFull_14 : decode cX2_isFull 14 = .ok (.iconst 0, 1) := by decide +kernel
theorem dX2_isFull_15 : decode cX2_isFull 15 = .ok (.ireturn, 1) := by decide +kernel
theorem dX2_hasAct_0 : decode cX2_hasAct 0 = .ok (.iload_n 1, 1) := by decide +kernel
theorem dX2_hasAct_1 : decode cX2_hasAct 1 = .ok (.iconst 1, 1) := by decide +kernel
theorem dX2_hasAct_2 : decode cX2_hasAct 2 = .ok (.if_icmp .lt 15, 3) := by decide +kernel
theorem dX2_hasAct_5 : decode cX2_hasAct 5 = .ok (.iload_n 1, 1) := by decide +kernel
theorem dX2_hasAct_6 : decode cX2_hasAct 6 = .ok (.aload_n 0, 1) := by decide +kernel
theorem dX2_hasAct_7 : decode cX2_hasAct 7 = .ok (.getfield 15, 3) := by decide +kernel
theorem dX2_hasAct_10 : decode cX2_hasAct 10 = .ok (.if_icmp .ge 7, 3) := by decide +kernel
theorem dX2_hasAct_13 : decode cX2_hasAct 13 = .ok (.iconst 1, 1) := by decide +kernel
theorem dX2_hasAct_14 : decode cX2_hasAct 14 = .ok (.goto 4, 3) := by decide +kernel
theorem dX2_hasAct_17 : decode cX2_hasAct 17 = .ok (.iconst 0, 1) := by decide +kernel
theorem dX2_hasAct_18 : decode cX2_hasAct 18 = .ok (.ireturn, 1) := by decide +kernel
theorem dX2_keep_0 : decode cX2_keep 0 = .ok (.aload_n 0, 1) := by decide +kernel
theorem dX2_keep_1 : decode cX2_keep 1 = .ok (.invokevirtual 19, 3) := by decide +kernel
theorem dX2_keep_4 : decode cX2_keep 4 = .ok (.ifCond .eq 4, 3) := by decide +kernel
theorem dX2_keep_7 : decode cX2_keep 7 = .ok (.return_, 1) := by decide +kernel
theorem dX2_keep_8 : decode cX2_keep 8 = .ok (.aload_n 0, 1) := by decide +kernel
theorem dX2_keep_9 : decode cX2_keep 9 = .ok (.invokevirtual 23, 3) := by decide +kernel
theorem dX2_keep_12 : decode cX2_keep 12 = .ok (.iconst 0, 1) := by decide +kernel
theorem dX2_keep_13 : decode cX2_keep 13 = .ok (.istore_n 2, 1) := by decide +kernel
theorem dX2_keep_14 : decode cX2_keep 14 = .ok (.iload_n 2, 1) := by decide +kernel
theorem dX2_keep_15 : decode cX2_keep 15 = .ok (.bipush 100, 2) := by decide +kernel
theorem dX2_keep_17 : decode cX2_keep 17 = .ok (.if_icmp .ge 35, 3) := by decide +kernel
theorem dX2_keep_20 : decode cX2_keep 20 = .ok (.aload_n 0, 1) := by decide +kernel
theorem dX2_keep_21 : decode cX2_keep 21 = .ok (.getfield 11, 3) := by decide +kernel
theorem dX2_keep_24 : decode cX2_keep 24 = .ok (.aload_n 0, 1) := by decide +kernel
theorem dX2_keep_25 : decode cX2_keep 25 = .ok (.getfield 15, 3) := by decide +kernel
theorem dX2_keep_28 : decode cX2_keep 28 = .ok (.bipush 100, 2) := by decide +kernel
theorem dX2_keep_30 : decode cX2_keep 30 = .ok (.imul, 1) := by decide +kernel
theorem dX2_keep_31 : decode cX2_keep 31 = .ok (.iload_n 2, 1) := by decide +kernel
theorem dX2_keep_32 : decode cX2_keep 32 = .ok (.iadd, 1) := by decide +kernel
theorem dX2_keep_33 : decode cX2_keep 33 = .ok (.aload_n 1, 1) := by decide +kernel
theorem dX2_keep_34 : decode cX2_keep 34 = .ok (.iload_n 2, 1) := by decide +kernel
theorem dX2_keep_35 : decode cX2_keep 35 = .ok (.bipush 10, 2) := by decide +kernel
theorem dX2_keep_37 : decode cX2_keep 37 = .ok (.idiv, 1) := by decide +kernel
theorem dX2_keep_38 : decode cX2_keep 38 = .ok (.iload_n 2, 1) := by decide +kernel
theorem dX2_keep_39 : decode cX2_keep 39 = .ok (.bipush 10, 2) := by decide +kernel
theorem dX2_keep_41 : decode cX2_keep 41 = .ok (.irem, 1) := by decide +kernel
theorem dX2_keep_42 : decode cX2_keep 42 = .ok (.invokevirtual 26, 3) := by decide +kernel
theorem dX2_keep_45 : decode cX2_keep 45 = .ok (.iastore, 1) := by decide +kernel
theorem dX2_keep_46 : decode cX2_keep 46 = .ok (.iinc 2 1, 3) := by decide +kernel
theorem dX2_keep_49 : decode cX2_keep 49 = .ok (.goto (-35), 3) := by decide +kernel
theorem dX2_keep_52 : decode cX2_keep 52 = .ok (.aload_n 0, 1) := by decide +kernel
theorem dX2_keep_53 : decode cX2_keep 53 = .ok (.dup, 1) := by decide +kernel
theorem dX2_keep_54 : decode cX2_keep 54 = .ok (.getfield 15, 3) := by decide +kernel
theorem dX2_keep_57 : decode cX2_keep 57 = .ok (.iconst 1, 1) := by decide +kernel
theorem dX2_keep_58 : decode cX2_keep 58 = .ok (.iadd, 1) := by decide +kernel
theorem dX2_keep_59 : decode cX2_keep 59 = .ok (.putfield 15, 3) := by decide +kernel
theorem dX2_keep_62 : decode cX2_keep 62 = .ok (.return_, 1) := by decide +kernel
theorem dX2_leastAsOf_0 : decode cX2_leastAsOf 0 = .ok (.aload_n 0, 1) := by decide +kernel
theorem dX2_leastAsOf_1 : decode cX2_leastAsOf 1 = .ok (.getfield 11, 3) := by decide +kernel
theorem dX2_leastAsOf_4 : decode cX2_leastAsOf 4 = .ok (.iload_n 1, 1) := by decide +kernel
theorem dX2_leastAsOf_5 : decode cX2_leastAsOf 5 = .ok (.bipush 100, 2) := by decide +kernel
theorem dX2_leastAsOf_7 : decode cX2_leastAsOf 7 = .ok (.imul, 1) := by decide +kernel
theorem dX2_leastAsOf_8 : decode cX2_leastAsOf 8 = .ok (.iload_n 2, 1) := by decide +kernel
theorem dX2_leastAsOf_9 : decode cX2_leastAsOf 9 = .ok (.iadd, 1) := by decide +kernel
theorem dX2_leastAsOf_10 : decode cX2_leastAsOf 10 = .ok (.iaload, 1) := by decide +kernel
theorem dX2_leastAsOf_11 : decode cX2_leastAsOf 11 = .ok (.ireturn, 1) := by decide +kernel
theorem dX2_countMoved_0 : decode cX2_countMoved 0 = .ok (.iconst 0, 1) := by decide +kernel
theorem dX2_countMoved_1 : decode cX2_countMoved 1 = .ok (.istore_n 2, 1) := by decide +kernel
theorem dX2_countMoved_2 : decode cX2_countMoved 2 = .ok (.iconst 0, 1) := by decide +kernel
theorem dX2_countMoved_3 : decode cX2_countMoved 3 = .ok (.istore_n 3, 1) := by decide +kernel
theorem dX2_countMoved_4 : decode cX2_countMoved 4 = .ok (.iload_n 3, 1) := by decide +kernel
theorem dX2_countMoved_5 : decode cX2_countMoved 5 = .ok (.bipush 100, 2) := by decide +kernel
theorem dX2_countMoved_7 : decode cX2_countMoved 7 = .ok (.if_icmp .ge 21, 3) := by decide +kernel
theorem dX2_countMoved_10 : decode cX2_countMoved 10 = .ok (.aload_n 0, 1) := by decide +kernel
theorem dX2_countMoved_11 : decode cX2_countMoved 11 = .ok (.iload_n 1, 1) := by decide +kernel
theorem dX2_countMoved_12 : decode cX2_countMoved 12 = .ok (.iload_n 3, 1) := by decide +kernel
theorem dX2_countMoved_13 : decode cX2_countMoved 13 = .ok (.invokevirtual 32, 3) := by decide +kernel
theorem dX2_countMoved_16 : decode cX2_countMoved 16 = .ok (.ifCond .eq 6, 3) := by decide +kernel
theorem dX2_countMoved_19 : decode cX2_countMoved 19 = .ok (.iinc 2 1, 3) := by decide +kernel
theorem dX2_countMoved_22 : decode cX2_countMoved 22 = .ok (.iinc 3 1, 3) := by decide +kernel
theorem dX2_countMoved_25 : decode cX2_countMoved 25 = .ok (.goto (-21), 3) := by decide +kernel
theorem dX2_countMoved_28 : decode cX2_countMoved 28 = .ok (.iload_n 2, 1) := by decide +kernel
theorem dX2_countMoved_29 : decode cX2_countMoved 29 = .ok (.ireturn, 1) := by decide +kernel
theorem dX2_movedPair_0 : decode cX2_movedPair 0 = .ok (.iconst 0, 1) := by decide +kernel
theorem dX2_movedPair_1 : decode cX2_movedPair 1 = .ok (.istore_n 3, 1) := by decide +kernel
theorem dX2_movedPair_2 : decode cX2_movedPair 2 = .ok (.iconst 0, 1) := by decide +kernel
theorem dX2_movedPair_3 : decode cX2_movedPair 3 = .ok (.istore 4, 2) := by decide +kernel
theorem dX2_movedPair_5 : decode cX2_movedPair 5 = .ok (.iload 4, 2) := by decide +kernel
theorem dX2_movedPair_7 : decode cX2_movedPair 7 = .ok (.bipush 100, 2) := by decide +kernel
theorem dX2_movedPair_9 : decode cX2_movedPair 9 = .ok (.if_icmp .ge 30, 3) := by decide +kernel
theorem dX2_movedPair_12 : decode cX2_movedPair 12 = .ok (.aload_n 0, 1) := by decide +kernel
theorem dX2_movedPair_13 : decode cX2_movedPair 13 = .ok (.iload_n 1, 1) := by decide +kernel
theorem dX2_movedPair_14 : decode cX2_movedPair 14 = .ok (.iload 4, 2) := by decide +kernel
theorem dX2_movedPair_16 : decode cX2_movedPair 16 = .ok (.invokevirtual 32, 3) := by decide +kernel
theorem dX2_movedPair_19 : decode cX2_movedPair 19 = .ok (.ifCond .eq 14, 3) := by decide +kernel
theorem dX2_movedPair_22 : decode cX2_movedPair 22 = .ok (.iload_n 3, 1) := by decide +kernel
theorem dX2_movedPair_23 : decode cX2_movedPair 23 = .ok (.iload_n 2, 1) := by decide +kernel
theorem dX2_movedPair_24 : decode cX2_movedPair 24 = .ok (.if_icmp .ne 6, 3) := by decide +kernel
theorem dX2_movedPair_27 : decode cX2_movedPair 27 = .ok (.iload 4, 2) := by decide +kernel
theorem dX2_movedPair_29 : decode cX2_movedPair 29 = .ok (.ireturn, 1) := by decide +kernel
theorem dX2_movedPair_30 : decode cX2_movedPair 30 = .ok (.iinc 3 1, 3) := by decide +kernel
theorem dX2_movedPair_33 : decode cX2_movedPair 33 = .ok (.iinc 4 1, 3) := by decide +kernel
theorem dX2_movedPair_36 : decode cX2_movedPair 36 = .ok (.goto (-31), 3) := by decide +kernel
theorem dX2_movedPair_39 : decode cX2_movedPair 39 = .ok (.sipush (-1000), 3) := by decide +kernel
theorem dX2_movedPair_42 : decode cX2_movedPair 42 = .ok (.ireturn, 1) := by decide +kernel
theorem dX2_firstWithin_0 : decode cX2_firstWithin 0 = .ok (.iload_n 1, 1) := by decide +kernel
theorem dX2_firstWithin_1 : decode cX2_firstWithin 1 = .ok (.istore 4, 2) := by decide +kernel
theorem dX2_firstWithin_3 : decode cX2_firstWithin 3 = .ok (.iload 4, 2) := by decide +kernel
theorem dX2_firstWithin_5 : decode cX2_firstWithin 5 = .ok (.aload_n 0, 1) := by decide +kernel
theorem dX2_firstWithin_6 : decode cX2_firstWithin 6 = .ok (.getfield 15, 3) := by decide +kernel
theorem dX2_firstWithin_9 : decode cX2_firstWithin 9 = .ok (.if_icmp .ge 35, 3) := by decide +kernel
theorem dX2_firstWithin_12 : decode cX2_firstWithin 12 = .ok (.aload_n 0, 1) := by decide +kernel
theorem dX2_firstWithin_13 : decode cX2_firstWithin 13 = .ok (.iload 4, 2) := by decide +kernel
theorem dX2_firstWithin_15 : decode cX2_firstWithin 15 = .ok (.iload_n 2, 1) := by decide +kernel
theorem dX2_firstWithin_16 : decode cX2_firstWithin 16 = .ok (.invokevirtual 36, 3) := by decide +kernel
theorem dX2_firstWithin_19 : decode cX2_firstWithin 19 = .ok (.istore 5, 2) := by decide +kernel
theorem dX2_firstWithin_21 : decode cX2_firstWithin 21 = .ok (.iload 5, 2) := by decide +kernel
theorem dX2_firstWithin_23 : decode cX2_firstWithin 23 = .ok (.sipush (-1000), 3) := by decide +kernel
theorem dX2_firstWithin_26 : decode cX2_firstWithin 26 = .ok (.if_icmp .eq 12, 3) := by decide +kernel
theorem dX2_firstWithin_29 : decode cX2_firstWithin 29 = .ok (.iload 5, 2) := by decide +kernel
theorem dX2_firstWithin_31 : decode cX2_firstWithin 31 = .ok (.iload_n 3, 1) := by decide +kernel
theorem dX2_firstWithin_32 : decode cX2_firstWithin 32 = .ok (.if_icmp .gt 6, 3) := by decide +kernel
theorem dX2_firstWithin_35 : decode cX2_firstWithin 35 = .ok (.iload 4, 2) := by decide +kernel
theorem dX2_firstWithin_37 : decode cX2_firstWithin 37 = .ok (.ireturn, 1) := by decide +kernel
theorem dX2_firstWithin_38 : decode cX2_firstWithin 38 = .ok (.iinc 4 1, 3) := by decide +kernel
theorem dX2_firstWithin_41 : decode cX2_firstWithin 41 = .ok (.goto (-38), 3) := by decide +kernel
theorem dX2_firstWithin_44 : decode cX2_firstWithin 44 = .ok (.sipush (-1000), 3) := by decide +kernel
theorem dX2_firstWithin_47 : decode cX2_firstWithin 47 = .ok (.ireturn, 1) := by decide +kernel
theorem dX2_isMoved_0 : decode cX2_isMoved 0 = .ok (.aload_n 0, 1) := by decide +kernel
theorem dX2_isMoved_1 : decode cX2_isMoved 1 = .ok (.iload_n 1, 1) := by decide +kernel
theorem dX2_isMoved_2 : decode cX2_isMoved 2 = .ok (.iload_n 2, 1) := by decide +kernel
theorem dX2_isMoved_3 : decode cX2_isMoved 3 = .ok (.invokevirtual 36, 3) := by decide +kernel
theorem dX2_isMoved_6 : decode cX2_isMoved 6 = .ok (.aload_n 0, 1) := by decide +kernel
theorem dX2_isMoved_7 : decode cX2_isMoved 7 = .ok (.iload_n 1, 1) := by decide +kernel
theorem dX2_isMoved_8 : decode cX2_isMoved 8 = .ok (.iconst 1, 1) := by decide +kernel
theorem dX2_isMoved_9 : decode cX2_isMoved 9 = .ok (.isub, 1) := by decide +kernel
theorem dX2_isMoved_10 : decode cX2_isMoved 10 = .ok (.iload_n 2, 1) := by decide +kernel
theorem dX2_isMoved_11 : decode cX2_isMoved 11 = .ok (.invokevirtual 36, 3) := by decide +kernel
theorem dX2_isMoved_14 : decode cX2_isMoved 14 = .ok (.if_icmp .eq 7, 3) := by decide +kernel
theorem dX2_isMoved_17 : decode cX2_isMoved 17 = .ok (.iconst 1, 1) := by decide +kernel
theorem dX2_isMoved_18 : decode cX2_isMoved 18 = .ok (.goto 4, 3) := by decide +kernel
theorem dX2_isMoved_21 : decode cX2_isMoved 21 = .ok (.iconst 0, 1) := by decide +kernel
theorem dX2_isMoved_22 : decode cX2_isMoved 22 = .ok (.ireturn, 1) := by decide +kernel
theorem dX2_makeRoom_0 : decode cX2_makeRoom 0 = .ok (.aload_n 0, 1) := by decide +kernel
theorem dX2_makeRoom_1 : decode cX2_makeRoom 1 = .ok (.getfield 15, 3) := by decide +kernel
theorem dX2_makeRoom_4 : decode cX2_makeRoom 4 = .ok (.iconst 1, 1) := by decide +kernel
theorem dX2_makeRoom_5 : decode cX2_makeRoom 5 = .ok (.iadd, 1) := by decide +kernel
theorem dX2_makeRoom_6 : decode cX2_makeRoom 6 = .ok (.bipush 100, 2) := by decide +kernel
theorem dX2_makeRoom_8 : decode cX2_makeRoom 8 = .ok (.imul, 1) := by decide +kernel
theorem dX2_makeRoom_9 : decode cX2_makeRoom 9 = .ok (.aload_n 0, 1) := by decide +kernel
theorem dX2_makeRoom_10 : decode cX2_makeRoom 10 = .ok (.getfield 11, 3) := by decide +kernel
theorem dX2_makeRoom_13 : decode cX2_makeRoom 13 = .ok (.arraylength, 1) := by decide +kernel
theorem dX2_makeRoom_14 : decode cX2_makeRoom 14 = .ok (.if_icmp .le 26, 3) := by decide +kernel
theorem dX2_makeRoom_17 : decode cX2_makeRoom 17 = .ok (.aload_n 0, 1) := by decide +kernel
theorem dX2_makeRoom_18 : decode cX2_makeRoom 18 = .ok (.aload_n 0, 1) := by decide +kernel
theorem dX2_makeRoom_19 : decode cX2_makeRoom 19 = .ok (.getfield 11, 3) := by decide +kernel
theorem dX2_makeRoom_22 : decode cX2_makeRoom 22 = .ok (.iconst 2, 1) := by decide +kernel
theorem dX2_makeRoom_23 : decode cX2_makeRoom 23 = .ok (.aload_n 0, 1) := by decide +kernel
theorem dX2_makeRoom_24 : decode cX2_makeRoom 24 = .ok (.getfield 11, 3) := by decide +kernel
theorem dX2_makeRoom_27 : decode cX2_makeRoom 27 = .ok (.arraylength, 1) := by decide +kernel
theorem dX2_makeRoom_28 : decode cX2_makeRoom 28 = .ok (.imul, 1) := by decide +kernel
theorem dX2_makeRoom_29 : decode cX2_makeRoom 29 = .ok (.ldc 39, 2) := by decide +kernel
theorem dX2_makeRoom_31 : decode cX2_makeRoom 31 = .ok (.invokestatic 40, 3) := by decide +kernel
theorem dX2_makeRoom_34 : decode cX2_makeRoom 34 = .ok (.invokestatic 45, 3) := by decide +kernel
theorem dX2_makeRoom_37 : decode cX2_makeRoom 37 = .ok (.putfield 11, 3) := by decide +kernel
theorem dX2_makeRoom_40 : decode cX2_makeRoom 40 = .ok (.return_, 1) := by decide +kernel
theorem dX3_init_0 : decode cX3_init 0 = .ok (.aload_n 0, 1) := by decide +kernel
theorem dX3_init_1 : decode cX3_init 1 = .ok (.invokespecial 5, 3) := by decide +kernel
theorem dX3_init_4 : decode cX3_init 4 = .ok (.aload_n 0, 1) := by decide +kernel
theorem dX3_init_5 : decode cX3_init 5 = .ok (.bipush 100, 2) := by decide +kernel
theorem dX3_init_7 : decode cX3_init 7 = .ok (.newarray .int, 2) := by decide +kernel
theorem dX3_init_9 : decode cX3_init 9 = .ok (.putfield 11, 3) := by decide +kernel
theorem dX3_init_12 : decode cX3_init 12 = .ok (.aload_n 0, 1) := by decide +kernel
theorem dX3_init_13 : decode cX3_init 13 = .ok (.bipush 10, 2) := by decide +kernel
theorem dX3_init_15 : decode cX3_init 15 = .ok (.newarray .int, 2) := by decide +kernel
theorem dX3_init_17 : decode cX3_init 17 = .ok (.putfield 17, 3) := by decide +kernel
theorem dX3_init_20 : decode cX3_init 20 = .ok (.aload_n 0, 1) := by decide +kernel
theorem dX3_init_21 : decode cX3_init 21 = .ok (.aload_n 1, 1) := by decide +kernel
theorem dX3_init_22 : decode cX3_init 22 = .ok (.putfield 20, 3) := by decide +kernel
theorem dX3_init_25 : decode cX3_init 25 = .ok (.return_, 1) := by decide +kernel
theorem dX3_measure_0 : decode cX3_measure 0 = .ok (.aload_n 0, 1) := by decide +kernel
theorem dX3_measure_1 : decode cX3_measure 1 = .ok (.getfield 11, 3) := by decide +kernel
theorem dX3_measure_4 : decode cX3_measure 4 = .ok (.ldc 24, 2) := by decide +kernel
theorem dX3_measure_6 : decode cX3_measure 6 = .ok (.invokestatic 25, 3) := by decide +kernel
theorem dX3_measure_9 : decode cX3_measure 9 = .ok (.iconst 0, 1) := by decide +kernel
theorem dX3_measure_10 : decode cX3_measure 10 = .ok (.istore_n 1, 1) := by decide +kernel
theorem dX3_measure_11 : decode cX3_measure 11 = .ok (.iload_n 1, 1) := by decide +kernel
theorem dX3_measure_12 : decode cX3_measure 12 = .ok (.aload_n 0, 1) := by decide +kernel
theorem dX3_measure_13 : decode cX3_measure 13 = .ok (.getfield 20, 3) := by decide +kernel
theorem dX3_measure_16 : decode cX3_measure 16 = .ok (.getfield 31, 3) := by decide +kernel
theorem dX3_measure_19 : decode cX3_measure 19 = .ok (.if_icmp .ge 35, 3) := by decide +kernel
theorem dX3_measure_22 : decode cX3_measure 22 = .ok (.aload_n 0, 1) := by decide +kernel
theorem dX3_measure_23 : decode cX3_measure 23 = .ok (.iload_n 1, 1) := by decide +kernel
theorem dX3_measure_24 : decode cX3_measure 24 = .ok (.iconst (-1), 1) := by decide +kernel
theorem dX3_measure_25 : decode cX3_measure 25 = .ok (.iconst (-1), 1) := by decide +kernel
theorem dX3_measure_26 : decode cX3_measure 26 = .ok (.invokevirtual 37, 3) := by decide +kernel
theorem dX3_measure_29 : decode cX3_measure 29 = .ok (.aload_n 0, 1) := by decide +kernel
theorem dX3_measure_30 : decode cX3_measure 30 = .ok (.getfield 17, 3) := by decide +kernel
theorem dX3_measure_33 : decode cX3_measure 33 = .ok (.iconst 0, 1) := by decide +kernel
theorem dX3_measure_34 : decode cX3_measure 34 = .ok (.aload_n 0, 1) := by decide +kernel
theorem dX3_measure_35 : decode cX3_measure 35 = .ok (.getfield 11, 3) := by decide +kernel
theorem dX3_measure_38 : decode cX3_measure 38 = .ok (.iload_n 1, 1) := by decide +kernel
theorem dX3_measure_39 : decode cX3_measure 39 = .ok (.iconst 0, 1) := by decide +kernel
theorem dX3_measure_40 : decode cX3_measure 40 = .ok (.invokestatic 41, 3) := by decide +kernel
theorem dX3_measure_43 : decode cX3_measure 43 = .ok (.bipush 10, 2) := by decide +kernel
theorem dX3_measure_45 : decode cX3_measure 45 = .ok (.invokestatic 45, 3) := by decide +kernel
theorem dX3_measure_48 : decode cX3_measure 48 = .ok (.iinc 1 1, 3) := by decide +kernel
theorem dX3_measure_51 : decode cX3_measure 51 = .ok (.goto (-40), 3) := by decide +kernel
theorem dX3_measure_54 : decode cX3_measure 54 = .ok (.return_, 1) := by decide +kernel
theorem dX3_leads_0 : decode cX3_leads 0 = .ok (.aload_n 0, 1) := by decide +kernel
theorem dX3_leads_1 : decode cX3_leads 1 = .ok (.getfield 11, 3) := by decide +kernel
theorem dX3_leads_4 : decode cX3_leads 4 = .ok (.iload_n 1, 1) := by decide +kernel
theorem dX3_leads_5 : decode cX3_leads 5 = .ok (.iload_n 2, 1) := by decide +kernel
theorem dX3_leads_6 : decode cX3_leads 6 = .ok (.invokestatic 41, 3) := by decide +kernel
theorem dX3_leads_9 : decode cX3_leads 9 = .ok (.iaload, 1) := by decide +kernel
theorem dX3_leads_10 : decode cX3_leads 10 = .ok (.ldc 24, 2) := by decide +kernel
theorem dX3_leads_12 : decode cX3_leads 12 = .ok (.if_icmp .eq 7, 3) := by decide +kernel
theorem dX3_leads_15 : decode cX3_leads 15 = .ok (.iconst 1, 1) := by decide +kernel
theorem dX3_leads_16 : decode cX3_leads 16 = .ok (.goto 4, 3) := by decide +kernel
theorem dX3_leads_19 : decode cX3_leads 19 = .ok (.iconst 0, 1) := by decide +kernel
theorem dX3_leads_20 : decode cX3_leads 20 = .ok (.ireturn, 1) := by decide +kernel
theorem dX3_leastPrice_0 : decode cX3_leastPrice 0 = .ok (.aload_n 0, 1) := by decide +kernel
theorem dX3_leastPrice_1 : decode cX3_leastPrice 1 = .ok (.getfield 11, 3) := by decide +kernel
theorem dX3_leastPrice_4 : decode cX3_leastPrice 4 = .ok (.iload_n 1, 1) := by decide +kernel
theorem dX3_leastPrice_5 : decode cX3_leastPrice 5 = .ok (.iload_n 2, 1) := by decide +kernel
theorem dX3_leastPrice_6 : decode cX3_leastPrice 6 = .ok (.invokestatic 41, 3) := by decide +kernel
theorem dX3_leastPrice_9 : decode cX3_leastPrice 9 = .ok (.iaload, 1) := by decide +kernel
theorem dX3_leastPrice_10 : decode cX3_leastPrice 10 = .ok (.invokestatic 51, 3) := by decide +kernel
theorem dX3_leastPrice_13 : decode cX3_leastPrice 13 = .ok (.ireturn, 1) := by decide +kernel
theorem dX3_length_0 : decode cX3_length 0 = .ok (.aload_n 0, 1) := by decide +kernel
theorem dX3_length_1 : decode cX3_length 1 = .ok (.getfield 11, 3) := by decide +kernel
theorem dX3_length_4 : decode cX3_length 4 = .ok (.iload_n 1, 1) := by decide +kernel
theorem dX3_length_5 : decode cX3_length 5 = .ok (.iload_n 2, 1) := by decide +kernel
theorem dX3_length_6 : decode cX3_length 6 = .ok (.invokestatic 41, 3) := by decide +kernel
theorem dX3_length_9 : decode cX3_length 9 = .ok (.iaload, 1) := by decide +kernel
theorem dX3_length_10 : decode cX3_length 10 = .ok (.istore_n 3, 1) := by decide +kernel
theorem dX3_length_11 : decode cX3_length 11 = .ok (.iload_n 3, 1) := by decide +kernel
theorem dX3_length_12 : decode cX3_length 12 = .ok (.ldc 24, 2) := by decide +kernel
theorem dX3_length_14 : decode cX3_length 14 = .ok (.if_icmp .ne 9, 3) := by decide +kernel
theorem dX3_length_17 : decode cX3_length 17 = .ok (.sipush (-1000), 3) := by decide +kernel
theorem dX3_length_20 : decode cX3_length 20 = .ok (.goto 9, 3) := by decide +kernel
theorem dX3_length_23 : decode cX3_length 23 = .ok (.iload_n 3, 1) := by decide +kernel
theorem dX3_length_24 : decode cX3_length 24 = .ok (.bipush 64, 2) := by decide +kernel
theorem dX3_length_26 : decode cX3_length 26 = .ok (.invokestatic 55, 3) := by decide +kernel
theorem dX3_length_29 : decode cX3_length 29 = .ok (.ireturn, 1) := by decide +kernel
theorem dX3_lineAt_0 : decode cX3_lineAt 0 = .ok (.iload_n 3, 1) := by decide +kernel
theorem dX3_lineAt_1 : decode cX3_lineAt 1 = .ok (.ifCond .lt 13, 3) := by decide +kernel
theorem dX3_lineAt_4 : decode cX3_lineAt 4 = .ok (.iload_n 3, 1) := by decide +kernel
theorem dX3_lineAt_5 : decode cX3_lineAt 5 = .ok (.aload_n 0, 1) := by decide +kernel
theorem dX3_lineAt_6 : decode cX3_lineAt 6 = .ok (.iload_n 1, 1) := by decide +kernel
theorem dX3_lineAt_7 : decode cX3_lineAt 7 = .ok (.iload_n 2, 1) := by decide +kernel
theorem dX3_lineAt_8 : decode cX3_lineAt 8 = .ok (.invokevirtual 60, 3) := by decide +kernel
theorem dX3_lineAt_11 : decode cX3_lineAt 11 = .ok (.if_icmp .lt 7, 3) := by decide +kernel
theorem dX3_lineAt_14 : decode cX3_lineAt 14 = .ok (.sipush (-1000), 3) := by decide +kernel
theorem dX3_lineAt_17 : decode cX3_lineAt 17 = .ok (.ireturn, 1) := by decide +kernel
theorem dX3_lineAt_18 : decode cX3_lineAt 18 = .ok (.iload_n 1, 1) := by decide +kernel
theorem dX3_lineAt_19 : decode cX3_lineAt 19 = .ok (.istore 4, 2) := by decide +kernel
theorem dX3_lineAt_21 : decode cX3_lineAt 21 = .ok (.iconst 0, 1) := by decide +kernel
theorem dX3_lineAt_22 : decode cX3_lineAt 22 = .ok (.istore 5, 2) := by decide +kernel
theorem dX3_lineAt_24 : decode cX3_lineAt 24 = .ok (.iload 5, 2) := by decide +kernel
theorem dX3_lineAt_26 : decode cX3_lineAt 26 = .ok (.iload_n 3, 1) := by decide +kernel
theorem dX3_lineAt_27 : decode cX3_lineAt 27 = .ok (.if_icmp .ge 27, 3) := by decide +kernel
theorem dX3_lineAt_30 : decode cX3_lineAt 30 = .ok (.aload_n 0, 1) := by decide +kernel
theorem dX3_lineAt_31 : decode cX3_lineAt 31 = .ok (.getfield 20, 3) := by decide +kernel
theorem dX3_lineAt_34 : decode cX3_lineAt 34 = .ok (.aload_n 0, 1) := by decide +kernel
theorem dX3_lineAt_35 : decode cX3_lineAt 35 = .ok (.iload 4, 2) := by decide +kernel
theorem dX3_lineAt_37 : decode cX3_lineAt 37 = .ok (.iload_n 2, 1) := by decide +kernel
theorem dX3_lineAt_38 : decode cX3_lineAt 38 = .ok (.invokevirtual 63, 3) := by decide +kernel
theorem dX3_lineAt_41 : decode cX3_lineAt 41 = .ok (.iload 4, 2) := by decide +kernel
theorem dX3_lineAt_43 : decode cX3_lineAt 43 = .ok (.invokevirtual 66, 3) := by decide +kernel
theorem dX3_lineAt_46 : decode cX3_lineAt 46 = .ok (.istore 4, 2) := by decide +kernel
theorem dX3_lineAt_48 : decode cX3_lineAt 48 = .ok (.iinc 5 1, 3) := by decide +kernel
theorem dX3_lineAt_51 : decode cX3_lineAt 51 = .ok (.goto (-27), 3) := by decide +kernel
theorem dX3_lineAt_54 : decode cX3_lineAt 54 = .ok (.aload_n 0, 1) := by decide +kernel
theorem dX3_lineAt_55 : decode cX3_lineAt 55 = .ok (.iload 4, 2) := by decide +kernel
theorem dX3_lineAt_57 : decode cX3_lineAt 57 = .ok (.iload_n 2, 1) := by decide +kernel
theorem dX3_lineAt_58 : decode cX3_lineAt 58 = .ok (.invokevirtual 63, 3) := by decide +kernel
theorem dX3_lineAt_61 : decode cX3_lineAt 61 = .ok (.ireturn, 1) := by decide +kernel
theorem dX3_between_0 : decode cX3_between 0 = .ok (.iconst 0, 1) := by decide +kernel
theorem dX3_between_1 : decode cX3_between 1 = .ok (.istore_n 3, 1) := by decide +kernel
theorem dX3_between_2 : decode cX3_between 2 = .ok (.iload_n 1, 1) := by decide +kernel
theorem dX3_between_3 : decode cX3_between 3 = .ok (.istore 4, 2) := by decide +kernel
theorem dX3_between_5 : decode cX3_between 5 = .ok (.iconst 1, 1) := by decide +kernel
theorem dX3_between_6 : decode cX3_between 6 = .ok (.istore 5, 2) := by decide +kernel
theorem dX3_between_8 : decode cX3_between 8 = .ok (.iload 5, 2) := by decide +kernel
theorem dX3_between_10 : decode cX3_between 10 = .ok (.aload_n 0, 1) := by decide +kernel
theorem dX3_between_11 : decode cX3_between 11 = .ok (.iload_n 1, 1) := by decide +kernel
theorem dX3_between_12 : decode cX3_between 12 = .ok (.iload_n 2, 1) := by decide +kernel
theorem dX3_between_13 : decode cX3_between 13 = .ok (.invokevirtual 60, 3) := by decide +kernel
theorem dX3_between_16 : decode cX3_between 16 = .ok (.if_icmp .ge 40, 3) := by decide +kernel
theorem dX3_between_19 : decode cX3_between 19 = .ok (.aload_n 0, 1) := by decide +kernel
theorem dX3_between_20 : decode cX3_between 20 = .ok (.getfield 20, 3) := by decide +kernel
theorem dX3_between_23 : decode cX3_between 23 = .ok (.aload_n 0, 1) := by decide +kernel
theorem dX3_between_24 : decode cX3_between 24 = .ok (.iload 4, 2) := by decide +kernel
theorem dX3_between_26 : decode cX3_between 26 = .ok (.iload_n 2, 1) := by decide +kernel
theorem dX3_between_27 : decode cX3_between 27 = .ok (.invokevirtual 63, 3) := by decide +kernel
theorem dX3_between_30 : decode cX3_between 30 = .ok (.iload 4, 2) := by decide +kernel
theorem dX3_between_32 : decode cX3_between 32 = .ok (.invokevirtual 66, 3) := by decide +kernel
theorem dX3_between_35 : decode cX3_between 35 = .ok (.istore 4, 2) := by decide +kernel
theorem dX3_between_37 : decode cX3_between 37 = .ok (.iload 4, 2) := by decide +kernel
theorem dX3_between_39 : decode cX3_between 39 = .ok (.iconst (-1), 1) := by decide +kernel
theorem dX3_between_40 : decode cX3_between 40 = .ok (.if_icmp .eq 10, 3) := by decide +kernel
theorem dX3_between_43 : decode cX3_between 43 = .ok (.iload_n 3, 1) := by decide +kernel
theorem dX3_between_44 : decode cX3_between 44 = .ok (.iconst 1, 1) := by decide +kernel
theorem dX3_between_45 : decode cX3_between 45 = .ok (.iload 4, 2) := by decide +kernel
theorem dX3_between_47 : decode cX3_between 47 = .ok (.ishl, 1) := by decide +kernel
theorem dX3_between_48 : decode cX3_between 48 = .ok (.ior, 1) := by decide +kernel
theorem dX3_between_49 : decode cX3_between 49 = .ok (.istore_n 3, 1) := by decide +kernel
theorem dX3_between_50 : decode cX3_between 50 = .ok (.iinc 5 1, 3) := by decide +kernel
theorem dX3_between_53 : decode cX3_between 53 = .ok (.goto (-45), 3) := by decide +kernel
theorem dX3_between_56 : decode cX3_between 56 = .ok (.iload_n 3, 1) := by decide +kernel
theorem dX3_between_57 : decode cX3_between 57 = .ok (.ireturn, 1) := by decide +kernel
theorem dX3_leastAvoiding_0 : decode cX3_leastAvoiding 0 = .ok (.aload_n 0, 1) := by decide +kernel
theorem dX3_leastAvoiding_1 : decode cX3_leastAvoiding 1 = .ok (.iload_n 1, 1) := by decide +kernel
theorem dX3_leastAvoiding_2 : decode cX3_leastAvoiding 2 = .ok (.iload_n 3, 1) := by decide +kernel
theorem dX3_leastAvoiding_3 : decode cX3_leastAvoiding 3 = .ok (.iload 4, 2) := by decide +kernel
theorem dX3_leastAvoiding_5 : decode cX3_leastAvoiding 5 = .ok (.invokevirtual 37, 3) := by decide +kernel
theorem dX3_leastAvoiding_8 : decode cX3_leastAvoiding 8 = .ok (.aload_n 0, 1) := by decide +kernel
theorem dX3_leastAvoiding_9 : decode cX3_leastAvoiding 9 = .ok (.getfield 17, 3) := by decide +kernel
theorem dX3_leastAvoiding_12 : decode cX3_leastAvoiding 12 = .ok (.iload_n 2, 1) := by decide +kernel
theorem dX3_leastAvoiding_13 : decode cX3_leastAvoiding 13 = .ok (.iaload, 1) := by decide +kernel
theorem dX3_leastAvoiding_14 : decode cX3_leastAvoiding 14 = .ok (.invokestatic 51, 3) := by decide +kernel
theorem dX3_leastAvoiding_17 : decode cX3_leastAvoiding 17 = .ok (.ireturn, 1) := by decide +kernel
theorem dX3_isVital_0 : decode cX3_isVital 0 = .ok (.aload_n 0, 1) := by decide +kernel
theorem dX3_isVital_1 : decode cX3_isVital 1 = .ok (.iload_n 1, 1) := by decide +kernel
theorem dX3_isVital_2 : decode cX3_isVital 2 = .ok (.iload_n 2, 1) := by decide +kernel
theorem dX3_isVital_3 : decode cX3_isVital 3 = .ok (.iload_n 3, 1) := by decide +kernel
theorem dX3_isVital_4 : decode cX3_isVital 4 = .ok (.invokevirtual 69, 3) := by decide +kernel
theorem dX3_isVital_7 : decode cX3_isVital 7 = .ok (.ifCond .eq 24, 3) := by decide +kernel
theorem dX3_isVital_10 : decode cX3_isVital 10 = .ok (.aload_n 0, 1) := by decide +kernel
theorem dX3_isVital_11 : decode cX3_isVital 11 = .ok (.iload_n 1, 1) := by decide +kernel
theorem dX3_isVital_12 : decode cX3_isVital 12 = .ok (.iload_n 2, 1) := by decide +kernel
theorem dX3_isVital_13 : decode cX3_isVital 13 = .ok (.iload_n 3, 1) := by decide +kernel
theorem dX3_isVital_14 : decode cX3_isVital 14 = .ok (.iconst (-1), 1) := by decide +kernel
theorem dX3_isVital_15 : decode cX3_isVital 15 = .ok (.invokevirtual 73, 3) := by decide +kernel
theorem dX3_isVital_18 : decode cX3_isVital 18 = .ok (.aload_n 0, 1) := by decide +kernel
theorem dX3_isVital_19 : decode cX3_isVital 19 = .ok (.iload_n 1, 1) := by decide +kernel
theorem dX3_isVital_20 : decode cX3_isVital 20 = .ok (.iload_n 2, 1) := by decide +kernel
theorem dX3_isVital_21 : decode cX3_isVital 21 = .ok (.invokevirtual 77, 3) := by decide +kernel
theorem dX3_isVital_24 : decode cX3_isVital 24 = .ok (.if_icmp .eq 7, 3) := by decide +kernel
theorem dX3_isVital_27 : decode cX3_isVital 27 = .ok (.iconst 1, 1) := by decide +kernel
theorem dX3_isVital_28 : decode cX3_isVital 28 = .ok (.goto 4, 3) := by decide +kernel
theorem dX3_isVital_31 : decode cX3_isVital 31 = .ok (.iconst 0, 1) := by decide +kernel
theorem dX3_isVital_32 : decode cX3_isVital 32 = .ok (.ireturn, 1) := by decide +kernel
theorem dX3_wouldSink_0 : decode cX3_wouldSink 0 = .ok (.iload_n 3, 1) := by decide +kernel
theorem dX3_wouldSink_1 : decode cX3_wouldSink 1 = .ok (.aload_n 0, 1) := by decide +kernel
theorem dX3_wouldSink_2 : decode cX3_wouldSink 2 = .ok (.iload_n 2, 1) := by decide +kernel
theorem dX3_wouldSink_3 : decode cX3_wouldSink 3 = .ok (.iload_n 1, 1) := by decide +kernel
theorem dX3_wouldSink_4 : decode cX3_wouldSink 4 = .ok (.iload 5, 2) := by decide +kernel
theorem dX3_wouldSink_6 : decode cX3_wouldSink 6 = .ok (.iconst (-1), 1) := by decide +kernel
theorem dX3_wouldSink_7 : decode cX3_wouldSink 7 = .ok (.invokevirtual 73, 3) := by decide +kernel
theorem dX3_wouldSink_10 : decode cX3_wouldSink 10 = .ok (.invokestatic 80, 3) := by decide +kernel
theorem dX3_wouldSink_13 : decode cX3_wouldSink 13 = .ok (.ifCond .ne 24, 3) := by decide +kernel
theorem dX3_wouldSink_16 : decode cX3_wouldSink 16 = .ok (.iload 4, 2) := by decide +kernel
theorem dX3_wouldSink_18 : decode cX3_wouldSink 18 = .ok (.ifCond .eq 23, 3) := by decide +kernel
theorem dX3_wouldSink_21 : decode cX3_wouldSink 21 = .ok (.iload_n 3, 1) := by decide +kernel
theorem dX3_wouldSink_22 : decode cX3_wouldSink 22 = .ok (.aload_n 0, 1) := by decide +kernel
theorem dX3_wouldSink_23 : decode cX3_wouldSink 23 = .ok (.iload_n 1, 1) := by decide +kernel
theorem dX3_wouldSink_24 : decode cX3_wouldSink 24 = .ok (.iload_n 2, 1) := by decide +kernel
theorem dX3_wouldSink_25 : decode cX3_wouldSink 25 = .ok (.iload 5, 2) := by decide +kernel
theorem dX3_wouldSink_27 : decode cX3_wouldSink 27 = .ok (.iconst (-1), 1) := by decide +kernel
theorem dX3_wouldSink_28 : decode cX3_wouldSink 28 = .ok (.invokevirtual 73, 3) := by decide +kernel
theorem dX3_wouldSink_31 : decode cX3_wouldSink 31 = .ok (.invokestatic 80, 3) := by decide +kernel
theorem dX3_wouldSink_34 : decode cX3_wouldSink 34 = .ok (.ifCond .eq 7, 3) := by decide +kernel
theorem dX3_wouldSink_37 : decode cX3_wouldSink 37 = .ok (.iconst 1, 1) := by decide +kernel
theorem dX3_wouldSink_38 : decode cX3_wouldSink 38 = .ok (.goto 4, 3) := by decide +kernel
theorem dX3_wouldSink_41 : decode cX3_wouldSink 41 = .ok (.iconst 0, 1) := by decide +kernel
theorem dX3_wouldSink_42 : decode cX3_wouldSink 42 = .ok (.ireturn, 1) := by decide +kernel
theorem dX3_leastRing_0 : decode cX3_leastRing 0 = .ok (.sipush (-1000), 3) := by decide +kernel
theorem dX3_leastRing_3 : decode cX3_leastRing 3 = .ok (.istore_n 1, 1) := by decide +kernel
theorem dX3_leastRing_4 : decode cX3_leastRing 4 = .ok (.iconst 0, 1) := by decide +kernel
theorem dX3_leastRing_5 : decode cX3_leastRing 5 = .ok (.istore_n 2, 1) := by decide +kernel
theorem dX3_leastRing_6 : decode cX3_leastRing 6 = .ok (.iload_n 2, 1) := by decide +kernel
theorem dX3_leastRing_7 : decode cX3_leastRing 7 = .ok (.aload_n 0, 1) := by decide +kernel
theorem dX3_leastRing_8 : decode cX3_leastRing 8 = .ok (.getfield 20, 3) := by decide +kernel
theorem dX3_leastRing_11 : decode cX3_leastRing 11 = .ok (.getfield 84, 3) := by decide +kernel
theorem dX3_leastRing_14 : decode cX3_leastRing 14 = .ok (.if_icmp .ge 36, 3) := by decide +kernel
theorem dX3_leastRing_17 : decode cX3_leastRing 17 = .ok (.aload_n 0, 1) := by decide +kernel
theorem dX3_leastRing_18 : decode cX3_leastRing 18 = .ok (.iload_n 2, 1) := by decide +kernel
theorem dX3_leastRing_19 : decode cX3_leastRing 19 = .ok (.invokevirtual 87, 3) := by decide +kernel
theorem dX3_leastRing_22 : decode cX3_leastRing 22 = .ok (.istore_n 3, 1) := by decide +kernel
theorem dX3_leastRing_23 : decode cX3_leastRing 23 = .ok (.iload_n 3, 1) := by decide +kernel
theorem dX3_leastRing_24 : decode cX3_leastRing 24 = .ok (.sipush (-1000), 3) := by decide +kernel
theorem dX3_leastRing_27 : decode cX3_leastRing 27 = .ok (.if_icmp .eq 17, 3) := by decide +kernel
theorem dX3_leastRing_30 : decode cX3_leastRing 30 = .ok (.iload_n 1, 1) := by decide +kernel
theorem dX3_leastRing_31 : decode cX3_leastRing 31 = .ok (.sipush (-1000), 3) := by decide +kernel
theorem dX3_leastRing_34 : decode cX3_leastRing 34 = .ok (.if_icmp .eq 8, 3) := by decide +kernel
theorem dX3_leastRing_37 : decode cX3_leastRing 37 = .ok (.iload_n 3, 1) := by decide +kernel
theorem dX3_leastRing_38 : decode cX3_leastRing 38 = .ok (.iload_n 1, 1) := by decide +kernel
theorem dX3_leastRing_39 : decode cX3_leastRing 39 = .ok (.if_icmp .ge 5, 3) := by decide +kernel
theorem dX3_leastRing_42 : decode cX3_leastRing 42 = .ok (.iload_n 3, 1) := by decide +kernel
theorem dX3_leastRing_43 : decode cX3_leastRing 43 = .ok (.istore_n 1, 1) := by decide +kernel
theorem dX3_leastRing_44 : decode cX3_leastRing 44 = .ok (.iinc 2 1, 3) := by decide +kernel
theorem dX3_leastRing_47 : decode cX3_leastRing 47 = .ok (.goto (-41), 3) := by decide +kernel
theorem dX3_leastRing_50 : decode cX3_leastRing 50 = .ok (.iload_n 1, 1) := by decide +kernel
theorem dX3_leastRing_51 : decode cX3_leastRing 51 = .ok (.ireturn, 1) := by decide +kernel
theorem dX3_heightOf_0 : decode cX3_heightOf 0 = .ok (.iconst 0, 1) := by decide +kernel
theorem dX3_heightOf_1 : decode cX3_heightOf 1 = .ok (.istore_n 2, 1) := by decide +kernel
theorem dX3_heightOf_2 : decode cX3_heightOf 2 = .ok (.iconst 0, 1) := by decide +kernel
theorem dX3_heightOf_3 : decode cX3_heightOf 3 = .ok (.istore_n 3, 1) := by decide +kernel
theorem dX3_heightOf_4 : decode cX3_heightOf 4 = .ok (.iload_n 3, 1) := by decide +kernel
theorem dX3_heightOf_5 : decode cX3_heightOf 5 = .ok (.aload_n 0, 1) := by decide +kernel
theorem dX3_heightOf_6 : decode cX3_heightOf 6 = .ok (.getfield 20, 3) := by decide +kernel
theorem dX3_heightOf_9 : decode cX3_heightOf 9 = .ok (.getfield 31, 3) := by decide +kernel
theorem dX3_heightOf_12 : decode cX3_heightOf 12 = .ok (.if_icmp .ge 29, 3) := by decide +kernel
theorem dX3_heightOf_15 : decode cX3_heightOf 15 = .ok (.aload_n 0, 1) := by decide +kernel
theorem dX3_heightOf_16 : decode cX3_heightOf 16 = .ok (.iload_n 3, 1) := by decide +kernel
theorem dX3_heightOf_17 : decode cX3_heightOf 17 = .ok (.iload_n 1, 1) := by decide +kernel
theorem dX3_heightOf_18 : decode cX3_heightOf 18 = .ok (.invokevirtual 90, 3) := by decide +kernel
end
section
theorem dX3_heightOf_21 : decode cX3_heightOf 21 = .ok (.ifCond .eq 14, 3) := by decide +kernel
theorem dX3_heightOf_24 : decode cX3_heightOf 24 = .ok (.iload_n 2, 1) := by decide +kernel
theorem dX3_heightOf_25 : decode cX3_heightOf 25 = .ok (.aload_n 0, 1) := by decide +kernel
theorem dX3_heightOf_26 : decode cX3_heightOf 26 = .ok (.iload_n 3, 1) := by decide +kernel
theorem dX3_heightOf_27 : decode cX3_heightOf 27 = .ok (.iload_n 1, 1) := by decide +kernel
theorem dX3_heightOf_28 : decode cX3_heightOf 28 = .ok (.invokevirtual 77, 3) := by decide +kernel
theorem dX3_heightOf_31 : decode cX3_heightOf 31 = .ok (.invokestatic 93, 3) := by decide +kernel
theorem dX3_heightOf_34 : decode cX3_heightOf 34 = .ok (.istore_n 2, 1) := by decide +kernel
theorem dX3_heightOf_35 : decode cX3_heightOf 35 = .ok (.iinc 3 1, 3) := by decide +kernel
theorem dX3_heightOf_38 : decode cX3_heightOf 38 = .ok (.goto (-34), 3) := by decide +kernel
theorem dX3_heightOf_41 : decode cX3_heightOf 41 = .ok (.iload_n 2, 1) := by decide +kernel
theorem dX3_heightOf_42 : decode cX3_heightOf 42 = .ok (.ireturn, 1) := by decide +kernel
theorem dX3_lifted_0 : decode cX3_lifted 0 = .ok (.aload_n 0, 1) := by decide +kernel
theorem dX3_lifted_1 : decode cX3_lifted 1 = .ok (.getfield 20, 3) := by decide +kernel
theorem dX3_lifted_4 : decode cX3_lifted 4 = .ok (.getfield 96, 3) := by decide +kernel
theorem dX3_lifted_7 : decode cX3_lifted 7 = .ok (.iload_n 1, 1) := by decide +kernel
theorem dX3_lifted_8 : decode cX3_lifted 8 = .ok (.iaload, 1) := by decide +kernel
theorem dX3_lifted_9 : decode cX3_lifted 9 = .ok (.istore_n 2, 1) := by decide +kernel
theorem dX3_lifted_10 : decode cX3_lifted 10 = .ok (.aload_n 0, 1) := by decide +kernel
theorem dX3_lifted_11 : decode cX3_lifted 11 = .ok (.aload_n 0, 1) := by decide +kernel
theorem dX3_lifted_12 : decode cX3_lifted 12 = .ok (.getfield 20, 3) := by decide +kernel
theorem dX3_lifted_15 : decode cX3_lifted 15 = .ok (.getfield 99, 3) := by decide +kernel
theorem dX3_lifted_18 : decode cX3_lifted 18 = .ok (.iload_n 1, 1) := by decide +kernel
theorem dX3_lifted_19 : decode cX3_lifted 19 = .ok (.iaload, 1) := by decide +kernel
theorem dX3_lifted_20 : decode cX3_lifted 20 = .ok (.invokevirtual 102, 3) := by decide +kernel
theorem dX3_lifted_23 : decode cX3_lifted 23 = .ok (.aload_n 0, 1) := by decide +kernel
theorem dX3_lifted_24 : decode cX3_lifted 24 = .ok (.aload_n 0, 1) := by decide +kernel
theorem dX3_lifted_25 : decode cX3_lifted 25 = .ok (.getfield 20, 3) := by decide +kernel
theorem dX3_lifted_28 : decode cX3_lifted 28 = .ok (.getfield 105, 3) := by decide +kernel
theorem dX3_lifted_31 : decode cX3_lifted 31 = .ok (.iload_n 1, 1) := by decide +kernel
theorem dX3_lifted_32 : decode cX3_lifted 32 = .ok (.iaload, 1) := by decide +kernel
theorem dX3_lifted_33 : decode cX3_lifted 33 = .ok (.invokevirtual 102, 3) := by decide +kernel
theorem dX3_lifted_36 : decode cX3_lifted 36 = .ok (.isub, 1) := by decide +kernel
theorem dX3_lifted_37 : decode cX3_lifted 37 = .ok (.istore_n 3, 1) := by decide +kernel
theorem dX3_lifted_38 : decode cX3_lifted 38 = .ok (.aload_n 0, 1) := by decide +kernel
theorem dX3_lifted_39 : decode cX3_lifted 39 = .ok (.getfield 20, 3) := by decide +kernel
theorem dX3_lifted_42 : decode cX3_lifted 42 = .ok (.getfield 108, 3) := by decide +kernel
theorem dX3_lifted_45 : decode cX3_lifted 45 = .ok (.iload_n 1, 1) := by decide +kernel
theorem dX3_lifted_46 : decode cX3_lifted 46 = .ok (.baload, 1) := by decide +kernel
theorem dX3_lifted_47 : decode cX3_lifted 47 = .ok (.ifCond .eq 15, 3) := by decide +kernel
theorem dX3_lifted_50 : decode cX3_lifted 50 = .ok (.iload_n 2, 1) := by decide +kernel
theorem dX3_lifted_51 : decode cX3_lifted 51 = .ok (.iload_n 3, 1) := by decide +kernel
theorem dX3_lifted_52 : decode cX3_lifted 52 = .ok (.iadd, 1) := by decide +kernel
theorem dX3_lifted_53 : decode cX3_lifted 53 = .ok (.iload_n 2, 1) := by decide +kernel
theorem dX3_lifted_54 : decode cX3_lifted 54 = .ok (.iload_n 3, 1) := by decide +kernel
theorem dX3_lifted_55 : decode cX3_lifted 55 = .ok (.isub, 1) := by decide +kernel
theorem dX3_lifted_56 : decode cX3_lifted 56 = .ok (.invokestatic 93, 3) := by decide +kernel
theorem dX3_lifted_59 : decode cX3_lifted 59 = .ok (.goto 6, 3) := by decide +kernel
theorem dX3_lifted_62 : decode cX3_lifted 62 = .ok (.iload_n 2, 1) := by decide +kernel
theorem dX3_lifted_63 : decode cX3_lifted 63 = .ok (.iload_n 3, 1) := by decide +kernel
theorem dX3_lifted_64 : decode cX3_lifted 64 = .ok (.iadd, 1) := by decide +kernel
theorem dX3_lifted_65 : decode cX3_lifted 65 = .ok (.ireturn, 1) := by decide +kernel
theorem dX3_leastThrough_0 : decode cX3_leastThrough 0 = .ok (.sipush (-1000), 3) := by decide +kernel
theorem dX3_leastThrough_3 : decode cX3_leastThrough 3 = .ok (.istore 4, 2) := by decide +kernel
theorem dX3_leastThrough_5 : decode cX3_leastThrough 5 = .ok (.iconst 0, 1) := by decide +kernel
theorem dX3_leastThrough_6 : decode cX3_leastThrough 6 = .ok (.istore 5, 2) := by decide +kernel
theorem dX3_leastThrough_8 : decode cX3_leastThrough 8 = .ok (.iload 5, 2) := by decide +kernel
theorem dX3_leastThrough_10 : decode cX3_leastThrough 10 = .ok (.aload_n 0, 1) := by decide +kernel
theorem dX3_leastThrough_11 : decode cX3_leastThrough 11 = .ok (.getfield 20, 3) := by decide +kernel
theorem dX3_leastThrough_14 : decode cX3_leastThrough 14 = .ok (.getfield 31, 3) := by decide +kernel
theorem dX3_leastThrough_17 : decode cX3_leastThrough 17 = .ok (.if_icmp .ge 77, 3) := by decide +kernel
theorem dX3_leastThrough_20 : decode cX3_leastThrough 20 = .ok (.iload_n 3, 1) := by decide +kernel
theorem dX3_leastThrough_21 : decode cX3_leastThrough 21 = .ok (.iload 5, 2) := by decide +kernel
theorem dX3_leastThrough_23 : decode cX3_leastThrough 23 = .ok (.ishr, 1) := by decide +kernel
theorem dX3_leastThrough_24 : decode cX3_leastThrough 24 = .ok (.iconst 1, 1) := by decide +kernel
theorem dX3_leastThrough_25 : decode cX3_leastThrough 25 = .ok (.iand, 1) := by decide +kernel
theorem dX3_leastThrough_26 : decode cX3_leastThrough 26 = .ok (.ifCond .eq 62, 3) := by decide +kernel
theorem dX3_leastThrough_29 : decode cX3_leastThrough 29 = .ok (.aload_n 0, 1) := by decide +kernel
theorem dX3_leastThrough_30 : decode cX3_leastThrough 30 = .ok (.iload_n 1, 1) := by decide +kernel
theorem dX3_leastThrough_31 : decode cX3_leastThrough 31 = .ok (.iload 5, 2) := by decide +kernel
theorem dX3_leastThrough_33 : decode cX3_leastThrough 33 = .ok (.invokevirtual 90, 3) := by decide +kernel
theorem dX3_leastThrough_36 : decode cX3_leastThrough 36 = .ok (.ifCond .eq 52, 3) := by decide +kernel
theorem dX3_leastThrough_39 : decode cX3_leastThrough 39 = .ok (.aload_n 0, 1) := by decide +kernel
theorem dX3_leastThrough_40 : decode cX3_leastThrough 40 = .ok (.iload 5, 2) := by decide +kernel
theorem dX3_leastThrough_42 : decode cX3_leastThrough 42 = .ok (.iload_n 2, 1) := by decide +kernel
theorem dX3_leastThrough_43 : decode cX3_leastThrough 43 = .ok (.invokevirtual 90, 3) := by decide +kernel
theorem dX3_leastThrough_46 : decode cX3_leastThrough 46 = .ok (.ifCond .eq 42, 3) := by decide +kernel
theorem dX3_leastThrough_49 : decode cX3_leastThrough 49 = .ok (.aload_n 0, 1) := by decide +kernel
theorem dX3_leastThrough_50 : decode cX3_leastThrough 50 = .ok (.iload_n 1, 1) := by decide +kernel
theorem dX3_leastThrough_51 : decode cX3_leastThrough 51 = .ok (.iload 5, 2) := by decide +kernel
theorem dX3_leastThrough_53 : decode cX3_leastThrough 53 = .ok (.invokevirtual 77, 3) := by decide +kernel
theorem dX3_leastThrough_56 : decode cX3_leastThrough 56 = .ok (.aload_n 0, 1) := by decide +kernel
theorem dX3_leastThrough_57 : decode cX3_leastThrough 57 = .ok (.iload 5, 2) := by decide +kernel
theorem dX3_leastThrough_59 : decode cX3_leastThrough 59 = .ok (.iload_n 2, 1) := by decide +kernel
theorem dX3_leastThrough_60 : decode cX3_leastThrough 60 = .ok (.invokevirtual 77, 3) := by decide +kernel
theorem dX3_leastThrough_63 : decode cX3_leastThrough 63 = .ok (.iadd, 1) := by decide +kernel
theorem dX3_leastThrough_64 : decode cX3_leastThrough 64 = .ok (.istore 6, 2) := by decide +kernel
theorem dX3_leastThrough_66 : decode cX3_leastThrough 66 = .ok (.iload 4, 2) := by decide +kernel
theorem dX3_leastThrough_68 : decode cX3_leastThrough 68 = .ok (.sipush (-1000), 3) := by decide +kernel
theorem dX3_leastThrough_71 : decode cX3_leastThrough 71 = .ok (.if_icmp .ne 8, 3) := by decide +kernel
theorem dX3_leastThrough_74 : decode cX3_leastThrough 74 = .ok (.iload 6, 2) := by decide +kernel
theorem dX3_leastThrough_76 : decode cX3_leastThrough 76 = .ok (.goto 10, 3) := by decide +kernel
theorem dX3_leastThrough_79 : decode cX3_leastThrough 79 = .ok (.iload 4, 2) := by decide +kernel
theorem dX3_leastThrough_81 : decode cX3_leastThrough 81 = .ok (.iload 6, 2) := by decide +kernel
theorem dX3_leastThrough_83 : decode cX3_leastThrough 83 = .ok (.invokestatic 93, 3) := by decide +kernel
theorem dX3_leastThrough_86 : decode cX3_leastThrough 86 = .ok (.istore 4, 2) := by decide +kernel
theorem dX3_leastThrough_88 : decode cX3_leastThrough 88 = .ok (.iinc 5 1, 3) := by decide +kernel
theorem dX3_leastThrough_91 : decode cX3_leastThrough 91 = .ok (.goto (-83), 3) := by decide +kernel
theorem dX3_leastThrough_94 : decode cX3_leastThrough 94 = .ok (.iload 4, 2) := by decide +kernel
theorem dX3_leastThrough_96 : decode cX3_leastThrough 96 = .ok (.ireturn, 1) := by decide +kernel
theorem dX3_countLinked_0 : decode cX3_countLinked 0 = .ok (.iconst 0, 1) := by decide +kernel
theorem dX3_countLinked_1 : decode cX3_countLinked 1 = .ok (.istore_n 1, 1) := by decide +kernel
theorem dX3_countLinked_2 : decode cX3_countLinked 2 = .ok (.iconst 0, 1) := by decide +kernel
theorem dX3_countLinked_3 : decode cX3_countLinked 3 = .ok (.istore_n 2, 1) := by decide +kernel
theorem dX3_countLinked_4 : decode cX3_countLinked 4 = .ok (.iload_n 2, 1) := by decide +kernel
theorem dX3_countLinked_5 : decode cX3_countLinked 5 = .ok (.aload_n 0, 1) := by decide +kernel
theorem dX3_countLinked_6 : decode cX3_countLinked 6 = .ok (.getfield 20, 3) := by decide +kernel
theorem dX3_countLinked_9 : decode cX3_countLinked 9 = .ok (.getfield 31, 3) := by decide +kernel
theorem dX3_countLinked_12 : decode cX3_countLinked 12 = .ok (.if_icmp .ge 45, 3) := by decide +kernel
theorem dX3_countLinked_15 : decode cX3_countLinked 15 = .ok (.iconst 0, 1) := by decide +kernel
theorem dX3_countLinked_16 : decode cX3_countLinked 16 = .ok (.istore_n 3, 1) := by decide +kernel
theorem dX3_countLinked_17 : decode cX3_countLinked 17 = .ok (.iload_n 3, 1) := by decide +kernel
theorem dX3_countLinked_18 : decode cX3_countLinked 18 = .ok (.aload_n 0, 1) := by decide +kernel
theorem dX3_countLinked_19 : decode cX3_countLinked 19 = .ok (.getfield 20, 3) := by decide +kernel
theorem dX3_countLinked_22 : decode cX3_countLinked 22 = .ok (.getfield 31, 3) := by decide +kernel
theorem dX3_countLinked_25 : decode cX3_countLinked 25 = .ok (.if_icmp .ge 26, 3) := by decide +kernel
theorem dX3_countLinked_28 : decode cX3_countLinked 28 = .ok (.iload_n 2, 1) := by decide +kernel
theorem dX3_countLinked_29 : decode cX3_countLinked 29 = .ok (.iload_n 3, 1) := by decide +kernel
theorem dX3_countLinked_30 : decode cX3_countLinked 30 = .ok (.if_icmp .eq 15, 3) := by decide +kernel
theorem dX3_countLinked_33 : decode cX3_countLinked 33 = .ok (.aload_n 0, 1) := by decide +kernel
theorem dX3_countLinked_34 : decode cX3_countLinked 34 = .ok (.iload_n 2, 1) := by decide +kernel
theorem dX3_countLinked_35 : decode cX3_countLinked 35 = .ok (.iload_n 3, 1) := by decide +kernel
theorem dX3_countLinked_36 : decode cX3_countLinked 36 = .ok (.invokevirtual 90, 3) := by decide +kernel
theorem dX3_countLinked_39 : decode cX3_countLinked 39 = .ok (.ifCond .eq 6, 3) := by decide +kernel
theorem dX3_countLinked_42 : decode cX3_countLinked 42 = .ok (.iinc 1 1, 3) := by decide +kernel
theorem dX3_countLinked_45 : decode cX3_countLinked 45 = .ok (.iinc 3 1, 3) := by decide +kernel
theorem dX3_countLinked_48 : decode cX3_countLinked 48 = .ok (.goto (-31), 3) := by decide +kernel
theorem dX3_countLinked_51 : decode cX3_countLinked 51 = .ok (.iinc 2 1, 3) := by decide +kernel
theorem dX3_countLinked_54 : decode cX3_countLinked 54 = .ok (.goto (-50), 3) := by decide +kernel
theorem dX3_countLinked_57 : decode cX3_countLinked 57 = .ok (.iload_n 1, 1) := by decide +kernel
theorem dX3_countLinked_58 : decode cX3_countLinked 58 = .ok (.ireturn, 1) := by decide +kernel
theorem dX3_spread_0 : decode cX3_spread 0 = .ok (.aload_n 0, 1) := by decide +kernel
theorem dX3_spread_1 : decode cX3_spread 1 = .ok (.getfield 17, 3) := by decide +kernel
theorem dX3_spread_4 : decode cX3_spread 4 = .ok (.ldc 24, 2) := by decide +kernel
theorem dX3_spread_6 : decode cX3_spread 6 = .ok (.invokestatic 25, 3) := by decide +kernel
theorem dX3_spread_9 : decode cX3_spread 9 = .ok (.aload_n 0, 1) := by decide +kernel
theorem dX3_spread_10 : decode cX3_spread 10 = .ok (.getfield 17, 3) := by decide +kernel
theorem dX3_spread_13 : decode cX3_spread 13 = .ok (.iload_n 1, 1) := by decide +kernel
theorem dX3_spread_14 : decode cX3_spread 14 = .ok (.iconst 0, 1) := by decide +kernel
theorem dX3_spread_15 : decode cX3_spread 15 = .ok (.iastore, 1) := by decide +kernel
theorem dX3_spread_16 : decode cX3_spread 16 = .ok (.iconst 1, 1) := by decide +kernel
theorem dX3_spread_17 : decode cX3_spread 17 = .ok (.istore 4, 2) := by decide +kernel
theorem dX3_spread_19 : decode cX3_spread 19 = .ok (.iconst 0, 1) := by decide +kernel
theorem dX3_spread_20 : decode cX3_spread 20 = .ok (.istore 5, 2) := by decide +kernel
theorem dX3_spread_22 : decode cX3_spread 22 = .ok (.iload 4, 2) := by decide +kernel
theorem dX3_spread_24 : decode cX3_spread 24 = .ok (.ifCond .eq 89, 3) := by decide +kernel
theorem dX3_spread_27 : decode cX3_spread 27 = .ok (.iload 5, 2) := by decide +kernel
theorem dX3_spread_29 : decode cX3_spread 29 = .ok (.aload_n 0, 1) := by decide +kernel
theorem dX3_spread_30 : decode cX3_spread 30 = .ok (.getfield 20, 3) := by decide +kernel
theorem dX3_spread_33 : decode cX3_spread 33 = .ok (.getfield 31, 3) := by decide +kernel
theorem dX3_spread_36 : decode cX3_spread 36 = .ok (.if_icmp .ge 77, 3) := by decide +kernel
theorem dX3_spread_39 : decode cX3_spread 39 = .ok (.iconst 0, 1) := by decide +kernel
theorem dX3_spread_40 : decode cX3_spread 40 = .ok (.istore 4, 2) := by decide +kernel
theorem dX3_spread_42 : decode cX3_spread 42 = .ok (.iconst 0, 1) := by decide +kernel
theorem dX3_spread_43 : decode cX3_spread 43 = .ok (.istore 6, 2) := by decide +kernel
theorem dX3_spread_45 : decode cX3_spread 45 = .ok (.iload 6, 2) := by decide +kernel
theorem dX3_spread_47 : decode cX3_spread 47 = .ok (.aload_n 0, 1) := by decide +kernel
theorem dX3_spread_48 : decode cX3_spread 48 = .ok (.getfield 20, 3) := by decide +kernel
theorem dX3_spread_51 : decode cX3_spread 51 = .ok (.getfield 84, 3) := by decide +kernel
theorem dX3_spread_54 : decode cX3_spread 54 = .ok (.if_icmp .ge 53, 3) := by decide +kernel
theorem dX3_spread_57 : decode cX3_spread 57 = .ok (.aload_n 0, 1) := by decide +kernel
theorem dX3_spread_58 : decode cX3_spread 58 = .ok (.getfield 20, 3) := by decide +kernel
theorem dX3_spread_61 : decode cX3_spread 61 = .ok (.getfield 112, 3) := by decide +kernel
theorem dX3_spread_64 : decode cX3_spread 64 = .ok (.iload 6, 2) := by decide +kernel
theorem dX3_spread_66 : decode cX3_spread 66 = .ok (.baload, 1) := by decide +kernel
theorem dX3_spread_67 : decode cX3_spread 67 = .ok (.ifCond .eq 34, 3) := by decide +kernel
theorem dX3_spread_70 : decode cX3_spread 70 = .ok (.iload 6, 2) := by decide +kernel
theorem dX3_spread_72 : decode cX3_spread 72 = .ok (.iload_n 2, 1) := by decide +kernel
theorem dX3_spread_73 : decode cX3_spread 73 = .ok (.if_icmp .eq 28, 3) := by decide +kernel
theorem dX3_spread_76 : decode cX3_spread 76 = .ok (.aload_n 0, 1) := by decide +kernel
theorem dX3_spread_77 : decode cX3_spread 77 = .ok (.getfield 20, 3) := by decide +kernel
theorem dX3_spread_80 : decode cX3_spread 80 = .ok (.iload 6, 2) := by decide +kernel
theorem dX3_spread_82 : decode cX3_spread 82 = .ok (.iload_n 3, 1) := by decide +kernel
theorem dX3_spread_83 : decode cX3_spread 83 = .ok (.invokevirtual 115, 3) := by decide +kernel
theorem dX3_spread_86 : decode cX3_spread 86 = .ok (.ifCond .ne 15, 3) := by decide +kernel
theorem dX3_spread_89 : decode cX3_spread 89 = .ok (.aload_n 0, 1) := by decide +kernel
theorem dX3_spread_90 : decode cX3_spread 90 = .ok (.iload 6, 2) := by decide +kernel
theorem dX3_spread_92 : decode cX3_spread 92 = .ok (.invokevirtual 118, 3) := by decide +kernel
theorem dX3_spread_95 : decode cX3_spread 95 = .ok (.ifCond .eq 6, 3) := by decide +kernel
theorem dX3_spread_98 : decode cX3_spread 98 = .ok (.iconst 1, 1) := by decide +kernel
theorem dX3_spread_99 : decode cX3_spread 99 = .ok (.istore 4, 2) := by decide +kernel
theorem dX3_spread_101 : decode cX3_spread 101 = .ok (.iinc 6 1, 3) := by decide +kernel
theorem dX3_spread_104 : decode cX3_spread 104 = .ok (.goto (-59), 3) := by decide +kernel
theorem dX3_spread_107 : decode cX3_spread 107 = .ok (.iinc 5 1, 3) := by decide +kernel
theorem dX3_spread_110 : decode cX3_spread 110 = .ok (.goto (-88), 3) := by decide +kernel
theorem dX3_spread_113 : decode cX3_spread 113 = .ok (.return_, 1) := by decide +kernel
theorem dX3_relax_0 : decode cX3_relax 0 = .ok (.aload_n 0, 1) := by decide +kernel
theorem dX3_relax_1 : decode cX3_relax 1 = .ok (.iload_n 1, 1) := by decide +kernel
theorem dX3_relax_2 : decode cX3_relax 2 = .ok (.invokevirtual 122, 3) := by decide +kernel
theorem dX3_relax_5 : decode cX3_relax 5 = .ok (.istore_n 2, 1) := by decide +kernel
theorem dX3_relax_6 : decode cX3_relax 6 = .ok (.aload_n 0, 1) := by decide +kernel
theorem dX3_relax_7 : decode cX3_relax 7 = .ok (.getfield 20, 3) := by decide +kernel
theorem dX3_relax_10 : decode cX3_relax 10 = .ok (.getfield 99, 3) := by decide +kernel
theorem dX3_relax_13 : decode cX3_relax 13 = .ok (.iload_n 1, 1) := by decide +kernel
theorem dX3_relax_14 : decode cX3_relax 14 = .ok (.iaload, 1) := by decide +kernel
theorem dX3_relax_15 : decode cX3_relax 15 = .ok (.istore_n 3, 1) := by decide +kernel
theorem dX3_relax_16 : decode cX3_relax 16 = .ok (.aload_n 0, 1) := by decide +kernel
theorem dX3_relax_17 : decode cX3_relax 17 = .ok (.getfield 20, 3) := by decide +kernel
theorem dX3_relax_20 : decode cX3_relax 20 = .ok (.getfield 105, 3) := by decide +kernel
theorem dX3_relax_23 : decode cX3_relax 23 = .ok (.iload_n 1, 1) := by decide +kernel
theorem dX3_relax_24 : decode cX3_relax 24 = .ok (.iaload, 1) := by decide +kernel
theorem dX3_relax_25 : decode cX3_relax 25 = .ok (.istore 4, 2) := by decide +kernel
theorem dX3_relax_27 : decode cX3_relax 27 = .ok (.aload_n 0, 1) := by decide +kernel
theorem dX3_relax_28 : decode cX3_relax 28 = .ok (.iload_n 3, 1) := by decide +kernel
theorem dX3_relax_29 : decode cX3_relax 29 = .ok (.iload 4, 2) := by decide +kernel
theorem dX3_relax_31 : decode cX3_relax 31 = .ok (.iload_n 2, 1) := by decide +kernel
theorem dX3_relax_32 : decode cX3_relax 32 = .ok (.invokevirtual 125, 3) := by decide +kernel
theorem dX3_relax_35 : decode cX3_relax 35 = .ok (.istore 5, 2) := by decide +kernel
theorem dX3_relax_37 : decode cX3_relax 37 = .ok (.aload_n 0, 1) := by decide +kernel
theorem dX3_relax_38 : decode cX3_relax 38 = .ok (.getfield 20, 3) := by decide +kernel
theorem dX3_relax_41 : decode cX3_relax 41 = .ok (.getfield 108, 3) := by decide +kernel
theorem dX3_relax_44 : decode cX3_relax 44 = .ok (.iload_n 1, 1) := by decide +kernel
theorem dX3_relax_45 : decode cX3_relax 45 = .ok (.baload, 1) := by decide +kernel
theorem dX3_relax_46 : decode cX3_relax 46 = .ok (.ifCond .eq 14, 3) := by decide +kernel
theorem dX3_relax_49 : decode cX3_relax 49 = .ok (.aload_n 0, 1) := by decide +kernel
theorem dX3_relax_50 : decode cX3_relax 50 = .ok (.iload 4, 2) := by decide +kernel
theorem dX3_relax_52 : decode cX3_relax 52 = .ok (.iload_n 3, 1) := by decide +kernel
theorem dX3_relax_53 : decode cX3_relax 53 = .ok (.iload_n 2, 1) := by decide +kernel
theorem dX3_relax_54 : decode cX3_relax 54 = .ok (.invokevirtual 125, 3) := by decide +kernel
theorem dX3_relax_57 : decode cX3_relax 57 = .ok (.ifCond .ne 8, 3) := by decide +kernel
theorem dX3_relax_60 : decode cX3_relax 60 = .ok (.iload 5, 2) := by decide +kernel
theorem dX3_relax_62 : decode cX3_relax 62 = .ok (.ifCond .eq 7, 3) := by decide +kernel
theorem dX3_relax_65 : decode cX3_relax 65 = .ok (.iconst 1, 1) := by decide +kernel
theorem dX3_relax_66 : decode cX3_relax 66 = .ok (.goto 4, 3) := by decide +kernel
theorem dX3_relax_69 : decode cX3_relax 69 = .ok (.iconst 0, 1) := by decide +kernel
theorem dX3_relax_70 : decode cX3_relax 70 = .ok (.ireturn, 1) := by decide +kernel
theorem dX3_lower_0 : decode cX3_lower 0 = .ok (.aload_n 0, 1) := by decide +kernel
theorem dX3_lower_1 : decode cX3_lower 1 = .ok (.getfield 17, 3) := by decide +kernel
theorem dX3_lower_4 : decode cX3_lower 4 = .ok (.iload_n 1, 1) := by decide +kernel
theorem dX3_lower_5 : decode cX3_lower 5 = .ok (.iaload, 1) := by decide +kernel
theorem dX3_lower_6 : decode cX3_lower 6 = .ok (.ldc 24, 2) := by decide +kernel
theorem dX3_lower_8 : decode cX3_lower 8 = .ok (.if_icmp .eq 20, 3) := by decide +kernel
theorem dX3_lower_11 : decode cX3_lower 11 = .ok (.aload_n 0, 1) := by decide +kernel
theorem dX3_lower_12 : decode cX3_lower 12 = .ok (.getfield 17, 3) := by decide +kernel
theorem dX3_lower_15 : decode cX3_lower 15 = .ok (.iload_n 1, 1) := by decide +kernel
theorem dX3_lower_16 : decode cX3_lower 16 = .ok (.iaload, 1) := by decide +kernel
theorem dX3_lower_17 : decode cX3_lower 17 = .ok (.iload_n 3, 1) := by decide +kernel
theorem dX3_lower_18 : decode cX3_lower 18 = .ok (.iadd, 1) := by decide +kernel
theorem dX3_lower_19 : decode cX3_lower 19 = .ok (.aload_n 0, 1) := by decide +kernel
theorem dX3_lower_20 : decode cX3_lower 20 = .ok (.getfield 17, 3) := by decide +kernel
theorem dX3_lower_23 : decode cX3_lower 23 = .ok (.iload_n 2, 1) := by decide +kernel
theorem dX3_lower_24 : decode cX3_lower 24 = .ok (.iaload, 1) := by decide +kernel
theorem dX3_lower_25 : decode cX3_lower 25 = .ok (.if_icmp .lt 5, 3) := by decide +kernel
theorem dX3_lower_28 : decode cX3_lower 28 = .ok (.iconst 0, 1) := by decide +kernel
theorem dX3_lower_29 : decode cX3_lower 29 = .ok (.ireturn, 1) := by decide +kernel
theorem dX3_lower_30 : decode cX3_lower 30 = .ok (.aload_n 0, 1) := by decide +kernel
theorem dX3_lower_31 : decode cX3_lower 31 = .ok (.getfield 17, 3) := by decide +kernel
theorem dX3_lower_34 : decode cX3_lower 34 = .ok (.iload_n 2, 1) := by decide +kernel
theorem dX3_lower_35 : decode cX3_lower 35 = .ok (.aload_n 0, 1) := by decide +kernel
theorem dX3_lower_36 : decode cX3_lower 36 = .ok (.getfield 17, 3) := by decide +kernel
theorem dX3_lower_39 : decode cX3_lower 39 = .ok (.iload_n 1, 1) := by decide +kernel
theorem dX3_lower_40 : decode cX3_lower 40 = .ok (.iaload, 1) := by decide +kernel
theorem dX3_lower_41 : decode cX3_lower 41 = .ok (.iload_n 3, 1) := by decide +kernel
theorem dX3_lower_42 : decode cX3_lower 42 = .ok (.iadd, 1) := by decide +kernel
theorem dX3_lower_43 : decode cX3_lower 43 = .ok (.iastore, 1) := by decide +kernel
theorem dX3_lower_44 : decode cX3_lower 44 = .ok (.iconst 1, 1) := by decide +kernel
theorem dX3_lower_45 : decode cX3_lower 45 = .ok (.ireturn, 1) := by decide +kernel
theorem dX3_lineToward_0 : decode cX3_lineToward 0 = .ok (.aload_n 0, 1) := by decide +kernel
theorem dX3_lineToward_1 : decode cX3_lineToward 1 = .ok (.getfield 20, 3) := by decide +kernel
theorem dX3_lineToward_4 : decode cX3_lineToward 4 = .ok (.iload_n 1, 1) := by decide +kernel
theorem dX3_lineToward_5 : decode cX3_lineToward 5 = .ok (.invokevirtual 128, 3) := by decide +kernel
theorem dX3_lineToward_8 : decode cX3_lineToward 8 = .ok (.ifCond .eq 12, 3) := by decide +kernel
theorem dX3_lineToward_11 : decode cX3_lineToward 11 = .ok (.aload_n 0, 1) := by decide +kernel
theorem dX3_lineToward_12 : decode cX3_lineToward 12 = .ok (.iload_n 1, 1) := by decide +kernel
theorem dX3_lineToward_13 : decode cX3_lineToward 13 = .ok (.iload_n 2, 1) := by decide +kernel
theorem dX3_lineToward_14 : decode cX3_lineToward 14 = .ok (.invokevirtual 90, 3) := by decide +kernel
theorem dX3_lineToward_17 : decode cX3_lineToward 17 = .ok (.ifCond .ne 5, 3) := by decide +kernel
theorem dX3_lineToward_20 : decode cX3_lineToward 20 = .ok (.iconst (-1), 1) := by decide +kernel
theorem dX3_lineToward_21 : decode cX3_lineToward 21 = .ok (.ireturn, 1) := by decide +kernel
theorem dX3_lineToward_22 : decode cX3_lineToward 22 = .ok (.aload_n 0, 1) := by decide +kernel
theorem dX3_lineToward_23 : decode cX3_lineToward 23 = .ok (.getfield 11, 3) := by decide +kernel
theorem dX3_lineToward_26 : decode cX3_lineToward 26 = .ok (.iload_n 1, 1) := by decide +kernel
theorem dX3_lineToward_27 : decode cX3_lineToward 27 = .ok (.iload_n 2, 1) := by decide +kernel
theorem dX3_lineToward_28 : decode cX3_lineToward 28 = .ok (.invokestatic 41, 3) := by decide +kernel
theorem dX3_lineToward_31 : decode cX3_lineToward 31 = .ok (.iaload, 1) := by decide +kernel
theorem dX3_lineToward_32 : decode cX3_lineToward 32 = .ok (.istore_n 3, 1) := by decide +kernel
theorem dX3_lineToward_33 : decode cX3_lineToward 33 = .ok (.iconst 0, 1) := by decide +kernel
theorem dX3_lineToward_34 : decode cX3_lineToward 34 = .ok (.istore 4, 2) := by decide +kernel
theorem dX3_lineToward_36 : decode cX3_lineToward 36 = .ok (.iload 4, 2) := by decide +kernel
theorem dX3_lineToward_38 : decode cX3_lineToward 38 = .ok (.aload_n 0, 1) := by decide +kernel
theorem dX3_lineToward_39 : decode cX3_lineToward 39 = .ok (.getfield 20, 3) := by decide +kernel
theorem dX3_lineToward_42 : decode cX3_lineToward 42 = .ok (.getfield 84, 3) := by decide +kernel
theorem dX3_lineToward_45 : decode cX3_lineToward 45 = .ok (.if_icmp .ge 62, 3) := by decide +kernel
theorem dX3_lineToward_48 : decode cX3_lineToward 48 = .ok (.aload_n 0, 1) := by decide +kernel
theorem dX3_lineToward_49 : decode cX3_lineToward 49 = .ok (.getfield 20, 3) := by decide +kernel
theorem dX3_lineToward_52 : decode cX3_lineToward 52 = .ok (.iload 4, 2) := by decide +kernel
theorem dX3_lineToward_54 : decode cX3_lineToward 54 = .ok (.iload_n 1, 1) := by decide +kernel
theorem dX3_lineToward_55 : decode cX3_lineToward 55 = .ok (.invokevirtual 66, 3) := by decide +kernel
theorem dX3_lineToward_58 : decode cX3_lineToward 58 = .ok (.istore 5, 2) := by decide +kernel
theorem dX3_lineToward_60 : decode cX3_lineToward 60 = .ok (.iload 5, 2) := by decide +kernel
theorem dX3_lineToward_62 : decode cX3_lineToward 62 = .ok (.iconst (-1), 1) := by decide +kernel
theorem dX3_lineToward_63 : decode cX3_lineToward 63 = .ok (.if_icmp .eq 38, 3) := by decide +kernel
theorem dX3_lineToward_66 : decode cX3_lineToward 66 = .ok (.aload_n 0, 1) := by decide +kernel
theorem dX3_lineToward_67 : decode cX3_lineToward 67 = .ok (.iload 5, 2) := by decide +kernel
theorem dX3_lineToward_69 : decode cX3_lineToward 69 = .ok (.iload_n 2, 1) := by decide +kernel
theorem dX3_lineToward_70 : decode cX3_lineToward 70 = .ok (.invokevirtual 90, 3) := by decide +kernel
theorem dX3_lineToward_73 : decode cX3_lineToward 73 = .ok (.ifCond .eq 28, 3) := by decide +kernel
theorem dX3_lineToward_76 : decode cX3_lineToward 76 = .ok (.aload_n 0, 1) := by decide +kernel
theorem dX3_lineToward_77 : decode cX3_lineToward 77 = .ok (.iload 4, 2) := by decide +kernel
theorem dX3_lineToward_79 : decode cX3_lineToward 79 = .ok (.invokevirtual 122, 3) := by decide +kernel
theorem dX3_lineToward_82 : decode cX3_lineToward 82 = .ok (.aload_n 0, 1) := by decide +kernel
theorem dX3_lineToward_83 : decode cX3_lineToward 83 = .ok (.getfield 11, 3) := by decide +kernel
theorem dX3_lineToward_86 : decode cX3_lineToward 86 = .ok (.iload 5, 2) := by decide +kernel
theorem dX3_lineToward_88 : decode cX3_lineToward 88 = .ok (.iload_n 2, 1) := by decide +kernel
theorem dX3_lineToward_89 : decode cX3_lineToward 89 = .ok (.invokestatic 41, 3) := by decide +kernel
theorem dX3_lineToward_92 : decode cX3_lineToward 92 = .ok (.iaload, 1) := by decide +kernel
theorem dX3_lineToward_93 : decode cX3_lineToward 93 = .ok (.iadd, 1) := by decide +kernel
theorem dX3_lineToward_94 : decode cX3_lineToward 94 = .ok (.iload_n 3, 1) := by decide +kernel
theorem dX3_lineToward_95 : decode cX3_lineToward 95 = .ok (.if_icmp .ne 6, 3) := by decide +kernel
theorem dX3_lineToward_98 : decode cX3_lineToward 98 = .ok (.iload 4, 2) := by decide +kernel
theorem dX3_lineToward_100 : decode cX3_lineToward 100 = .ok (.ireturn, 1) := by decide +kernel
theorem dX3_lineToward_101 : decode cX3_lineToward 101 = .ok (.iinc 4 1, 3) := by decide +kernel
theorem dX3_lineToward_104 : decode cX3_lineToward 104 = .ok (.goto (-68), 3) := by decide +kernel
theorem dX3_lineToward_107 : decode cX3_lineToward 107 = .ok (.iconst (-1), 1) := by decide +kernel
theorem dX3_lineToward_108 : decode cX3_lineToward 108 = .ok (.ireturn, 1) := by decide +kernel
theorem dX3_isOnWay_0 : decode cX3_isOnWay 0 = .ok (.iconst 0, 1) := by decide +kernel
theorem dX3_isOnWay_1 : decode cX3_isOnWay 1 = .ok (.istore 4, 2) := by decide +kernel
theorem dX3_isOnWay_3 : decode cX3_isOnWay 3 = .ok (.iload 4, 2) := by decide +kernel
theorem dX3_isOnWay_5 : decode cX3_isOnWay 5 = .ok (.aload_n 0, 1) := by decide +kernel
theorem dX3_isOnWay_6 : decode cX3_isOnWay 6 = .ok (.iload_n 1, 1) := by decide +kernel
theorem dX3_isOnWay_7 : decode cX3_isOnWay 7 = .ok (.iload_n 2, 1) := by decide +kernel
theorem dX3_isOnWay_8 : decode cX3_isOnWay 8 = .ok (.invokevirtual 60, 3) := by decide +kernel
theorem dX3_isOnWay_11 : decode cX3_isOnWay 11 = .ok (.if_icmp .ge 23, 3) := by decide +kernel
theorem dX3_isOnWay_14 : decode cX3_isOnWay 14 = .ok (.aload_n 0, 1) := by decide +kernel
theorem dX3_isOnWay_15 : decode cX3_isOnWay 15 = .ok (.iload_n 1, 1) := by decide +kernel
theorem dX3_isOnWay_16 : decode cX3_isOnWay 16 = .ok (.iload_n 2, 1) := by decide +kernel
theorem dX3_isOnWay_17 : decode cX3_isOnWay 17 = .ok (.iload 4, 2) := by decide +kernel
theorem dX3_isOnWay_19 : decode cX3_isOnWay 19 = .ok (.invokevirtual 131, 3) := by decide +kernel
theorem dX3_isOnWay_22 : decode cX3_isOnWay 22 = .ok (.iload_n 3, 1) := by decide +kernel
theorem dX3_isOnWay_23 : decode cX3_isOnWay 23 = .ok (.if_icmp .ne 5, 3) := by decide +kernel
theorem dX3_isOnWay_26 : decode cX3_isOnWay 26 = .ok (.iconst 1, 1) := by decide +kernel
theorem dX3_isOnWay_27 : decode cX3_isOnWay 27 = .ok (.ireturn, 1) := by decide +kernel
theorem dX3_isOnWay_28 : decode cX3_isOnWay 28 = .ok (.iinc 4 1, 3) := by decide +kernel
theorem dX3_isOnWay_31 : decode cX3_isOnWay 31 = .ok (.goto (-28), 3) := by decide +kernel
theorem dX3_isOnWay_34 : decode cX3_isOnWay 34 = .ok (.iconst 0, 1) := by decide +kernel
theorem dX3_isOnWay_35 : decode cX3_isOnWay 35 = .ok (.ireturn, 1) := by decide +kernel
theorem dX3_ringOver_0 : decode cX3_ringOver 0 = .ok (.aload_n 0, 1) := by decide +kernel
theorem dX3_ringOver_1 : decode cX3_ringOver 1 = .ok (.getfield 20, 3) := by decide +kernel
theorem dX3_ringOver_4 : decode cX3_ringOver 4 = .ok (.getfield 112, 3) := by decide +kernel
theorem dX3_ringOver_7 : decode cX3_ringOver 7 = .ok (.iload_n 1, 1) := by decide +kernel
theorem dX3_ringOver_8 : decode cX3_ringOver 8 = .ok (.baload, 1) := by decide +kernel
theorem dX3_ringOver_9 : decode cX3_ringOver 9 = .ok (.ifCond .ne 7, 3) := by decide +kernel
theorem dX3_ringOver_12 : decode cX3_ringOver 12 = .ok (.sipush (-1000), 3) := by decide +kernel
theorem dX3_ringOver_15 : decode cX3_ringOver 15 = .ok (.ireturn, 1) := by decide +kernel
theorem dX3_ringOver_16 : decode cX3_ringOver 16 = .ok (.aload_n 0, 1) := by decide +kernel
theorem dX3_ringOver_17 : decode cX3_ringOver 17 = .ok (.getfield 20, 3) := by decide +kernel
theorem dX3_ringOver_20 : decode cX3_ringOver 20 = .ok (.getfield 96, 3) := by decide +kernel
theorem dX3_ringOver_23 : decode cX3_ringOver 23 = .ok (.iload_n 1, 1) := by decide +kernel
theorem dX3_ringOver_24 : decode cX3_ringOver 24 = .ok (.iaload, 1) := by decide +kernel
theorem dX3_ringOver_25 : decode cX3_ringOver 25 = .ok (.istore_n 2, 1) := by decide +kernel
theorem dX3_ringOver_26 : decode cX3_ringOver 26 = .ok (.aload_n 0, 1) := by decide +kernel
theorem dX3_ringOver_27 : decode cX3_ringOver 27 = .ok (.getfield 20, 3) := by decide +kernel
theorem dX3_ringOver_30 : decode cX3_ringOver 30 = .ok (.getfield 108, 3) := by decide +kernel
theorem dX3_ringOver_33 : decode cX3_ringOver 33 = .ok (.iload_n 1, 1) := by decide +kernel
theorem dX3_ringOver_34 : decode cX3_ringOver 34 = .ok (.baload, 1) := by decide +kernel
theorem dX3_ringOver_35 : decode cX3_ringOver 35 = .ok (.ifCond .eq 53, 3) := by decide +kernel
theorem dX3_ringOver_38 : decode cX3_ringOver 38 = .ok (.iload_n 2, 1) := by decide +kernel
theorem dX3_ringOver_39 : decode cX3_ringOver 39 = .ok (.aload_n 0, 1) := by decide +kernel
theorem dX3_ringOver_40 : decode cX3_ringOver 40 = .ok (.aload_n 0, 1) := by decide +kernel
theorem dX3_ringOver_41 : decode cX3_ringOver 41 = .ok (.getfield 20, 3) := by decide +kernel
theorem dX3_ringOver_44 : decode cX3_ringOver 44 = .ok (.getfield 99, 3) := by decide +kernel
theorem dX3_ringOver_47 : decode cX3_ringOver 47 = .ok (.iload_n 1, 1) := by decide +kernel
theorem dX3_ringOver_48 : decode cX3_ringOver 48 = .ok (.iaload, 1) := by decide +kernel
theorem dX3_ringOver_49 : decode cX3_ringOver 49 = .ok (.aload_n 0, 1) := by decide +kernel
theorem dX3_ringOver_50 : decode cX3_ringOver 50 = .ok (.getfield 20, 3) := by decide +kernel
theorem dX3_ringOver_53 : decode cX3_ringOver 53 = .ok (.getfield 105, 3) := by decide +kernel
theorem dX3_ringOver_56 : decode cX3_ringOver 56 = .ok (.iload_n 1, 1) := by decide +kernel
theorem dX3_ringOver_57 : decode cX3_ringOver 57 = .ok (.iaload, 1) := by decide +kernel
theorem dX3_ringOver_58 : decode cX3_ringOver 58 = .ok (.invokevirtual 77, 3) := by decide +kernel
theorem dX3_ringOver_61 : decode cX3_ringOver 61 = .ok (.aload_n 0, 1) := by decide +kernel
theorem dX3_ringOver_62 : decode cX3_ringOver 62 = .ok (.aload_n 0, 1) := by decide +kernel
theorem dX3_ringOver_63 : decode cX3_ringOver 63 = .ok (.getfield 20, 3) := by decide +kernel
theorem dX3_ringOver_66 : decode cX3_ringOver 66 = .ok (.getfield 105, 3) := by decide +kernel
theorem dX3_ringOver_69 : decode cX3_ringOver 69 = .ok (.iload_n 1, 1) := by decide +kernel
theorem dX3_ringOver_70 : decode cX3_ringOver 70 = .ok (.iaload, 1) := by decide +kernel
theorem dX3_ringOver_71 : decode cX3_ringOver 71 = .ok (.aload_n 0, 1) := by decide +kernel
theorem dX3_ringOver_72 : decode cX3_ringOver 72 = .ok (.getfield 20, 3) := by decide +kernel
theorem dX3_ringOver_75 : decode cX3_ringOver 75 = .ok (.getfield 99, 3) := by decide +kernel
theorem dX3_ringOver_78 : decode cX3_ringOver 78 = .ok (.iload_n 1, 1) := by decide +kernel
theorem dX3_ringOver_79 : decode cX3_ringOver 79 = .ok (.iaload, 1) := by decide +kernel
theorem dX3_ringOver_80 : decode cX3_ringOver 80 = .ok (.invokevirtual 77, 3) := by decide +kernel
theorem dX3_ringOver_83 : decode cX3_ringOver 83 = .ok (.invokestatic 93, 3) := by decide +kernel
theorem dX3_ringOver_86 : decode cX3_ringOver 86 = .ok (.iadd, 1) := by decide +kernel
theorem dX3_ringOver_87 : decode cX3_ringOver 87 = .ok (.ireturn, 1) := by decide +kernel
theorem dX3_ringOver_88 : decode cX3_ringOver 88 = .ok (.aload_n 0, 1) := by decide +kernel
theorem dX3_ringOver_89 : decode cX3_ringOver 89 = .ok (.aload_n 0, 1) := by decide +kernel
theorem dX3_ringOver_90 : decode cX3_ringOver 90 = .ok (.getfield 20, 3) := by decide +kernel
theorem dX3_ringOver_93 : decode cX3_ringOver 93 = .ok (.getfield 105, 3) := by decide +kernel
theorem dX3_ringOver_96 : decode cX3_ringOver 96 = .ok (.iload_n 1, 1) := by decide +kernel
theorem dX3_ringOver_97 : decode cX3_ringOver 97 = .ok (.iaload, 1) := by decide +kernel
theorem dX3_ringOver_98 : decode cX3_ringOver 98 = .ok (.aload_n 0, 1) := by decide +kernel
theorem dX3_ringOver_99 : decode cX3_ringOver 99 = .ok (.getfield 20, 3) := by decide +kernel
theorem dX3_ringOver_102 : decode cX3_ringOver 102 = .ok (.getfield 99, 3) := by decide +kernel
theorem dX3_ringOver_105 : decode cX3_ringOver 105 = .ok (.iload_n 1, 1) := by decide +kernel
theorem dX3_ringOver_106 : decode cX3_ringOver 106 = .ok (.iaload, 1) := by decide +kernel
theorem dX3_ringOver_107 : decode cX3_ringOver 107 = .ok (.invokevirtual 77, 3) := by decide +kernel
theorem dX3_ringOver_110 : decode cX3_ringOver 110 = .ok (.istore_n 3, 1) := by decide +kernel
theorem dX3_ringOver_111 : decode cX3_ringOver 111 = .ok (.iload_n 3, 1) := by decide +kernel
theorem dX3_ringOver_112 : decode cX3_ringOver 112 = .ok (.sipush (-1000), 3) := by decide +kernel
theorem dX3_ringOver_115 : decode cX3_ringOver 115 = .ok (.if_icmp .ne 9, 3) := by decide +kernel
theorem dX3_ringOver_118 : decode cX3_ringOver 118 = .ok (.sipush (-1000), 3) := by decide +kernel
theorem dX3_ringOver_121 : decode cX3_ringOver 121 = .ok (.goto 6, 3) := by decide +kernel
theorem dX3_ringOver_124 : decode cX3_ringOver 124 = .ok (.iload_n 2, 1) := by decide +kernel
theorem dX3_ringOver_125 : decode cX3_ringOver 125 = .ok (.iload_n 3, 1) := by decide +kernel
theorem dX3_ringOver_126 : decode cX3_ringOver 126 = .ok (.iadd, 1) := by decide +kernel
theorem dX3_ringOver_127 : decode cX3_ringOver 127 = .ok (.ireturn, 1) := by decide +kernel
theorem dX3_costOf_0 : decode cX3_costOf 0 = .ok (.aload_n 0, 1) := by decide +kernel
theorem dX3_costOf_1 : decode cX3_costOf 1 = .ok (.getfield 20, 3) := by decide +kernel
theorem dX3_costOf_4 : decode cX3_costOf 4 = .ok (.getfield 96, 3) := by decide +kernel
theorem dX3_costOf_7 : decode cX3_costOf 7 = .ok (.iload_n 1, 1) := by decide +kernel
theorem dX3_costOf_8 : decode cX3_costOf 8 = .ok (.iaload, 1) := by decide +kernel
theorem dX3_costOf_9 : decode cX3_costOf 9 = .ok (.bipush 64, 2) := by decide +kernel
theorem dX3_costOf_11 : decode cX3_costOf 11 = .ok (.imul, 1) := by decide +kernel
theorem dX3_costOf_12 : decode cX3_costOf 12 = .ok (.iconst 1, 1) := by decide +kernel
theorem dX3_costOf_13 : decode cX3_costOf 13 = .ok (.iadd, 1) := by decide +kernel
theorem dX3_costOf_14 : decode cX3_costOf 14 = .ok (.ireturn, 1) := by decide +kernel
theorem dX3_closesBelow_0 : decode cX3_closesBelow 0 = .ok (.iload_n 1, 1) := by decide +kernel
theorem dX3_closesBelow_1 : decode cX3_closesBelow 1 = .ok (.sipush (-1000), 3) := by decide +kernel
theorem dX3_closesBelow_4 : decode cX3_closesBelow 4 = .ok (.if_icmp .eq 13, 3) := by decide +kernel
theorem dX3_closesBelow_7 : decode cX3_closesBelow 7 = .ok (.iload_n 0, 1) := by decide +kernel
theorem dX3_closesBelow_8 : decode cX3_closesBelow 8 = .ok (.iload_n 1, 1) := by decide +kernel
theorem dX3_closesBelow_9 : decode cX3_closesBelow 9 = .ok (.iadd, 1) := by decide +kernel
theorem dX3_closesBelow_10 : decode cX3_closesBelow 10 = .ok (.ifCond .ge 7, 3) := by decide +kernel
theorem dX3_closesBelow_13 : decode cX3_closesBelow 13 = .ok (.iconst 1, 1) := by decide +kernel
theorem dX3_closesBelow_14 : decode cX3_closesBelow 14 = .ok (.goto 4, 3) := by decide +kernel
theorem dX3_closesBelow_17 : decode cX3_closesBelow 17 = .ok (.iconst 0, 1) := by decide +kernel
theorem dX3_closesBelow_18 : decode cX3_closesBelow 18 = .ok (.ireturn, 1) := by decide +kernel
theorem dX3_priceIn_0 : decode cX3_priceIn 0 = .ok (.iload_n 0, 1) := by decide +kernel
theorem dX3_priceIn_1 : decode cX3_priceIn 1 = .ok (.ldc 24, 2) := by decide +kernel
theorem dX3_priceIn_3 : decode cX3_priceIn 3 = .ok (.if_icmp .ne 9, 3) := by decide +kernel
theorem dX3_priceIn_6 : decode cX3_priceIn 6 = .ok (.sipush (-1000), 3) := by decide +kernel
theorem dX3_priceIn_9 : decode cX3_priceIn 9 = .ok (.goto 9, 3) := by decide +kernel
theorem dX3_priceIn_12 : decode cX3_priceIn 12 = .ok (.iload_n 0, 1) := by decide +kernel
theorem dX3_priceIn_13 : decode cX3_priceIn 13 = .ok (.bipush 64, 2) := by decide +kernel
theorem dX3_priceIn_15 : decode cX3_priceIn 15 = .ok (.invokestatic 135, 3) := by decide +kernel
theorem dX3_priceIn_18 : decode cX3_priceIn 18 = .ok (.ireturn, 1) := by decide +kernel
theorem dX4_init_0 : decode cX4_init 0 = .ok (.aload_n 0, 1) := by decide +kernel
theorem dX4_init_1 : decode cX4_init 1 = .ok (.invokespecial 3, 3) := by decide +kernel
theorem dX4_init_4 : decode cX4_init 4 = .ok (.aload_n 0, 1) := by decide +kernel
theorem dX4_init_5 : decode cX4_init 5 = .ok (.new 9, 3) := by decide +kernel
theorem dX4_init_8 : decode cX4_init 8 = .ok (.dup, 1) := by decide +kernel
theorem dX4_init_9 : decode cX4_init 9 = .ok (.invokespecial 11, 3) := by decide +kernel
theorem dX4_init_12 : decode cX4_init 12 = .ok (.putfield 12, 3) := by decide +kernel
theorem dX4_init_15 : decode cX4_init 15 = .ok (.aload_n 0, 1) := by decide +kernel
theorem dX4_init_16 : decode cX4_init 16 = .ok (.new 16, 3) := by decide +kernel
theorem dX4_init_19 : decode cX4_init 19 = .ok (.dup, 1) := by decide +kernel
theorem dX4_init_20 : decode cX4_init 20 = .ok (.aload_n 0, 1) := by decide +kernel
theorem dX4_init_21 : decode cX4_init 21 = .ok (.getfield 12, 3) := by decide +kernel
theorem dX4_init_24 : decode cX4_init 24 = .ok (.invokespecial 18, 3) := by decide +kernel
theorem dX4_init_27 : decode cX4_init 27 = .ok (.putfield 21, 3) := by decide +kernel
theorem dX4_init_30 : decode cX4_init 30 = .ok (.aload_n 0, 1) := by decide +kernel
theorem dX4_init_31 : decode cX4_init 31 = .ok (.new 25, 3) := by decide +kernel
theorem dX4_init_34 : decode cX4_init 34 = .ok (.dup, 1) := by decide +kernel
theorem dX4_init_35 : decode cX4_init 35 = .ok (.invokespecial 27, 3) := by decide +kernel
theorem dX4_init_38 : decode cX4_init 38 = .ok (.putfield 28, 3) := by decide +kernel
theorem dX4_init_41 : decode cX4_init 41 = .ok (.aload_n 0, 1) := by decide +kernel
theorem dX4_init_42 : decode cX4_init 42 = .ok (.new 32, 3) := by decide +kernel
theorem dX4_init_45 : decode cX4_init 45 = .ok (.dup, 1) := by decide +kernel
theorem dX4_init_46 : decode cX4_init 46 = .ok (.invokespecial 34, 3) := by decide +kernel
theorem dX4_init_49 : decode cX4_init 49 = .ok (.putfield 35, 3) := by decide +kernel
theorem dX4_init_52 : decode cX4_init 52 = .ok (.aload_n 0, 1) := by decide +kernel
theorem dX4_init_53 : decode cX4_init 53 = .ok (.iconst 2, 1) := by decide +kernel
theorem dX4_init_54 : decode cX4_init 54 = .ok (.invokevirtual 39, 3) := by decide +kernel
theorem dX4_init_57 : decode cX4_init 57 = .ok (.return_, 1) := by decide +kernel
theorem dX4_posts_0 : decode cX4_posts 0 = .ok (.iload_n 1, 1) := by decide +kernel
theorem dX4_posts_1 : decode cX4_posts 1 = .ok (.iconst 2, 1) := by decide +kernel
theorem dX4_posts_2 : decode cX4_posts 2 = .ok (.if_icmp .lt 9, 3) := by decide +kernel
theorem dX4_posts_5 : decode cX4_posts 5 = .ok (.iload_n 1, 1) := by decide +kernel
theorem dX4_posts_6 : decode cX4_posts 6 = .ok (.bipush 10, 2) := by decide +kernel
theorem dX4_posts_8 : decode cX4_posts 8 = .ok (.if_icmp .le 7, 3) := by decide +kernel
theorem dX4_posts_11 : decode cX4_posts 11 = .ok (.sipush (-1002), 3) := by decide +kernel
theorem dX4_posts_14 : decode cX4_posts 14 = .ok (.ireturn, 1) := by decide +kernel
theorem dX4_posts_15 : decode cX4_posts 15 = .ok (.aload_n 0, 1) := by decide +kernel
theorem dX4_posts_16 : decode cX4_posts 16 = .ok (.getfield 12, 3) := by decide +kernel
theorem dX4_posts_19 : decode cX4_posts 19 = .ok (.getfield 43, 3) := by decide +kernel
theorem dX4_posts_22 : decode cX4_posts 22 = .ok (.istore_n 2, 1) := by decide +kernel
theorem dX4_posts_23 : decode cX4_posts 23 = .ok (.aload_n 0, 1) := by decide +kernel
theorem dX4_posts_24 : decode cX4_posts 24 = .ok (.iload_n 1, 1) := by decide +kernel
theorem dX4_posts_25 : decode cX4_posts 25 = .ok (.invokevirtual 39, 3) := by decide +kernel
theorem dX4_posts_28 : decode cX4_posts 28 = .ok (.iload_n 2, 1) := by decide +kernel
theorem dX4_posts_29 : decode cX4_posts 29 = .ok (.ireturn, 1) := by decide +kernel
theorem dX4_line_0 : decode cX4_line 0 = .ok (.aload_n 0, 1) := by decide +kernel
theorem dX4_line_1 : decode cX4_line 1 = .ok (.getfield 12, 3) := by decide +kernel
theorem dX4_line_4 : decode cX4_line 4 = .ok (.iload_n 1, 1) := by decide +kernel
theorem dX4_line_5 : decode cX4_line 5 = .ok (.iload_n 2, 1) := by decide +kernel
theorem dX4_line_6 : decode cX4_line 6 = .ok (.invokevirtual 47, 3) := by decide +kernel
theorem dX4_line_9 : decode cX4_line 9 = .ok (.ifCond .ne 7, 3) := by decide +kernel
theorem dX4_line_12 : decode cX4_line 12 = .ok (.sipush (-1001), 3) := by decide +kernel
theorem dX4_line_15 : decode cX4_line 15 = .ok (.ireturn, 1) := by decide +kernel
theorem dX4_line_16 : decode cX4_line 16 = .ok (.iload_n 3, 1) := by decide +kernel
theorem dX4_line_17 : decode cX4_line 17 = .ok (.iload 4, 2) := by decide +kernel
theorem dX4_line_19 : decode cX4_line 19 = .ok (.invokestatic 51, 3) := by decide +kernel
theorem dX4_line_22 : decode cX4_line 22 = .ok (.ifCond .ne 7, 3) := by decide +kernel
theorem dX4_line_25 : decode cX4_line 25 = .ok (.sipush (-1002), 3) := by decide +kernel
theorem dX4_line_28 : decode cX4_line 28 = .ok (.ireturn, 1) := by decide +kernel
theorem dX4_line_29 : decode cX4_line 29 = .ok (.iload_n 1, 1) := by decide +kernel
theorem dX4_line_30 : decode cX4_line 30 = .ok (.iload_n 2, 1) := by decide +kernel
theorem dX4_line_31 : decode cX4_line 31 = .ok (.if_icmp .eq 19, 3) := by decide +kernel
theorem dX4_line_34 : decode cX4_line 34 = .ok (.aload_n 0, 1) := by decide +kernel
theorem dX4_line_35 : decode cX4_line 35 = .ok (.getfield 21, 3) := by decide +kernel
theorem dX4_line_38 : decode cX4_line 38 = .ok (.iload_n 1, 1) := by decide +kernel
theorem dX4_line_39 : decode cX4_line 39 = .ok (.iload_n 2, 1) := by decide +kernel
theorem dX4_line_40 : decode cX4_line 40 = .ok (.iload_n 3, 1) := by decide +kernel
theorem dX4_line_41 : decode cX4_line 41 = .ok (.iload 4, 2) := by decide +kernel
theorem dX4_line_43 : decode cX4_line 43 = .ok (.iconst (-1), 1) := by decide +kernel
theorem dX4_line_44 : decode cX4_line 44 = .ok (.invokevirtual 55, 3) := by decide +kernel
theorem dX4_line_47 : decode cX4_line 47 = .ok (.ifCond .eq 7, 3) := by decide +kernel
theorem dX4_line_50 : decode cX4_line 50 = .ok (.sipush (-1003), 3) := by decide +kernel
theorem dX4_line_53 : decode cX4_line 53 = .ok (.ireturn, 1) := by decide +kernel
theorem dX4_line_54 : decode cX4_line 54 = .ok (.aload_n 0, 1) := by decide +kernel
theorem dX4_line_55 : decode cX4_line 55 = .ok (.getfield 12, 3) := by decide +kernel
theorem dX4_line_58 : decode cX4_line 58 = .ok (.getfield 59, 3) := by decide +kernel
theorem dX4_line_61 : decode cX4_line 61 = .ok (.bipush 40, 2) := by decide +kernel
theorem dX4_line_63 : decode cX4_line 63 = .ok (.if_icmp .ge 13, 3) := by decide +kernel
theorem dX4_line_66 : decode cX4_line 66 = .ok (.aload_n 0, 1) := by decide +kernel
theorem dX4_line_67 : decode cX4_line 67 = .ok (.getfield 28, 3) := by decide +kernel
theorem dX4_line_70 : decode cX4_line 70 = .ok (.invokevirtual 62, 3) := by decide +kernel
theorem dX4_line_73 : decode cX4_line 73 = .ok (.ifCond .eq 7, 3) := by decide +kernel
theorem dX4_line_76 : decode cX4_line 76 = .ok (.sipush (-1004), 3) := by decide +kernel
theorem dX4_line_79 : decode cX4_line 79 = .ok (.ireturn, 1) := by decide +kernel
theorem dX4_line_80 : decode cX4_line 80 = .ok (.aload_n 0, 1) := by decide +kernel
theorem dX4_line_81 : decode cX4_line 81 = .ok (.getfield 12, 3) := by decide +kernel
theorem dX4_line_84 : decode cX4_line 84 = .ok (.iload_n 1, 1) := by decide +kernel
theorem dX4_line_85 : decode cX4_line 85 = .ok (.iload_n 2, 1) := by decide +kernel
theorem dX4_line_86 : decode cX4_line 86 = .ok (.iload_n 3, 1) := by decide +kernel
theorem dX4_line_87 : decode cX4_line 87 = .ok (.iload 4, 2) := by decide +kernel
theorem dX4_line_89 : decode cX4_line 89 = .ok (.invokevirtual 66, 3) := by decide +kernel
theorem dX4_line_92 : decode cX4_line 92 = .ok (.istore 5, 2) := by decide +kernel
theorem dX4_line_94 : decode cX4_line 94 = .ok (.aload_n 0, 1) := by decide +kernel
theorem dX4_line_95 : decode cX4_line 95 = .ok (.invokevirtual 70, 3) := by decide +kernel
theorem dX4_line_98 : decode cX4_line 98 = .ok (.iload 5, 2) := by decide +kernel
theorem dX4_line_100 : decode cX4_line 100 = .ok (.ireturn, 1) := by decide +kernel
theorem dX4_price_0 : decode cX4_price 0 = .ok (.aload_n 0, 1) := by decide +kernel
theorem dX4_price_1 : decode cX4_price 1 = .ok (.getfield 12, 3) := by decide +kernel
theorem dX4_price_4 : decode cX4_price 4 = .ok (.iload_n 1, 1) := by decide +kernel
theorem dX4_price_5 : decode cX4_price 5 = .ok (.invokevirtual 73, 3) := by decide +kernel
theorem dX4_price_8 : decode cX4_price 8 = .ok (.ifCond .ne 7, 3) := by decide +kernel
theorem dX4_price_11 : decode cX4_price 11 = .ok (.sipush (-1001), 3) := by decide +kernel
theorem dX4_price_14 : decode cX4_price 14 = .ok (.ireturn, 1) := by decide +kernel
theorem dX4_price_15 : decode cX4_price 15 = .ok (.iload_n 2, 1) := by decide +kernel
theorem dX4_price_16 : decode cX4_price 16 = .ok (.aload_n 0, 1) := by decide +kernel
theorem dX4_price_17 : decode cX4_price 17 = .ok (.getfield 12, 3) := by decide +kernel
theorem dX4_price_20 : decode cX4_price 20 = .ok (.getfield 77, 3) := by decide +kernel
theorem dX4_price_23 : decode cX4_price 23 = .ok (.iload_n 1, 1) := by decide +kernel
theorem dX4_price_24 : decode cX4_price 24 = .ok (.baload, 1) := by decide +kernel
theorem dX4_price_25 : decode cX4_price 25 = .ok (.invokestatic 51, 3) := by decide +kernel
theorem dX4_price_28 : decode cX4_price 28 = .ok (.ifCond .ne 7, 3) := by decide +kernel
theorem dX4_price_31 : decode cX4_price 31 = .ok (.sipush (-1002), 3) := by decide +kernel
theorem dX4_price_34 : decode cX4_price 34 = .ok (.ireturn, 1) := by decide +kernel
theorem dX4_price_35 : decode cX4_price 35 = .ok (.aload_n 0, 1) := by decide +kernel
theorem dX4_price_36 : decode cX4_price 36 = .ok (.getfield 12, 3) := by decide +kernel
theorem dX4_price_39 : decode cX4_price 39 = .ok (.getfield 81, 3) := by decide +kernel
theorem dX4_price_42 : decode cX4_price 42 = .ok (.iload_n 1, 1) := by decide +kernel
theorem dX4_price_43 : decode cX4_price 43 = .ok (.iaload, 1) := by decide +kernel
theorem dX4_price_44 : decode cX4_price 44 = .ok (.istore_n 3, 1) := by decide +kernel
theorem dX4_price_45 : decode cX4_price 45 = .ok (.iload_n 2, 1) := by decide +kernel
theorem dX4_price_46 : decode cX4_price 46 = .ok (.iload_n 3, 1) := by decide +kernel
theorem dX4_price_47 : decode cX4_price 47 = .ok (.if_icmp .ne 5, 3) := by decide +kernel
theorem dX4_price_50 : decode cX4_price 50 = .ok (.iload_n 3, 1) := by decide +kernel
theorem dX4_price_51 : decode cX4_price 51 = .ok (.ireturn, 1) := by decide +kernel
theorem dX4_price_52 : decode cX4_price 52 = .ok (.aload_n 0, 1) := by decide +kernel
theorem dX4_price_53 : decode cX4_price 53 = .ok (.getfield 12, 3) := by decide +kernel
theorem dX4_price_56 : decode cX4_price 56 = .ok (.getfield 85, 3) := by decide +kernel
theorem dX4_price_59 : decode cX4_price 59 = .ok (.iload_n 1, 1) := by decide +kernel
theorem dX4_price_60 : decode cX4_price 60 = .ok (.baload, 1) := by decide +kernel
theorem dX4_price_61 : decode cX4_price 61 = .ok (.ifCond .eq 16, 3) := by decide +kernel
theorem dX4_price_64 : decode cX4_price 64 = .ok (.aload_n 0, 1) := by decide +kernel
theorem dX4_price_65 : decode cX4_price 65 = .ok (.iload_n 1, 1) := by decide +kernel
theorem dX4_price_66 : decode cX4_price 66 = .ok (.iload_n 2, 1) := by decide +kernel
theorem dX4_price_67 : decode cX4_price 67 = .ok (.invokevirtual 88, 3) := by decide +kernel
theorem dX4_price_70 : decode cX4_price 70 = .ok (.ifCond .eq 7, 3) := by decide +kernel
theorem dX4_price_73 : decode cX4_price 73 = .ok (.sipush (-1003), 3) := by decide +kernel
theorem dX4_price_76 : decode cX4_price 76 = .ok (.ireturn, 1) := by decide +kernel
theorem dX4_price_77 : decode cX4_price 77 = .ok (.aload_n 0, 1) := by decide +kernel
theorem dX4_price_78 : decode cX4_price 78 = .ok (.getfield 28, 3) := by decide +kernel
theorem dX4_price_81 : decode cX4_price 81 = .ok (.invokevirtual 62, 3) := by decide +kernel
theorem dX4_price_84 : decode cX4_price 84 = .ok (.ifCond .eq 7, 3) := by decide +kernel
theorem dX4_price_87 : decode cX4_price 87 = .ok (.sipush (-1004), 3) := by decide +kernel
theorem dX4_price_90 : decode cX4_price 90 = .ok (.ireturn, 1) := by decide +kernel
theorem dX4_price_91 : decode cX4_price 91 = .ok (.aload_n 0, 1) := by decide +kernel
theorem dX4_price_92 : decode cX4_price 92 = .ok (.getfield 12, 3) := by decide +kernel
theorem dX4_price_95 : decode cX4_price 95 = .ok (.getfield 81, 3) := by decide +kernel
theorem dX4_price_98 : decode cX4_price 98 = .ok (.iload_n 1, 1) := by decide +kernel
theorem dX4_price_99 : decode cX4_price 99 = .ok (.iload_n 2, 1) := by decide +kernel
theorem dX4_price_100 : decode cX4_price 100 = .ok (.iastore, 1) := by decide +kernel
theorem dX4_price_101 : decode cX4_price 101 = .ok (.aload_n 0, 1) := by decide +kernel
theorem dX4_price_102 : decode cX4_price 102 = .ok (.invokevirtual 70, 3) := by decide +kernel
theorem dX4_price_105 : decode cX4_price 105 = .ok (.iload_n 3, 1) := by decide +kernel
theorem dX4_price_106 : decode cX4_price 106 = .ok (.ireturn, 1) := by decide +kernel
theorem dX4_cut_0 : decode cX4_cut 0 = .ok (.aload_n 0, 1) := by decide +kernel
theorem dX4_cut_1 : decode cX4_cut 1 = .ok (.getfield 12, 3) := by decide +kernel
theorem dX4_cut_4 : decode cX4_cut 4 = .ok (.iload_n 1, 1) := by decide +kernel
theorem dX4_cut_5 : decode cX4_cut 5 = .ok (.invokevirtual 73, 3) := by decide +kernel
theorem dX4_cut_8 : decode cX4_cut 8 = .ok (.ifCond .ne 7, 3) := by decide +kernel
theorem dX4_cut_11 : decode cX4_cut 11 = .ok (.sipush (-1001), 3) := by decide +kernel
theorem dX4_cut_14 : decode cX4_cut 14 = .ok (.ireturn, 1) := by decide +kernel
theorem dX4_cut_15 : decode cX4_cut 15 = .ok (.aload_n 0, 1) := by decide +kernel
theorem dX4_cut_16 : decode cX4_cut 16 = .ok (.getfield 12, 3) := by decide +kernel
theorem dX4_cut_19 : decode cX4_cut 19 = .ok (.getfield 85, 3) := by decide +kernel
theorem dX4_cut_22 : decode cX4_cut 22 = .ok (.iload_n 1, 1) := by decide +kernel
theorem dX4_cut_23 : decode cX4_cut 23 = .ok (.baload, 1) := by decide +kernel
theorem dX4_cut_24 : decode cX4_cut 24 = .ok (.ifCond .ne 7, 3) := by decide +kernel
theorem dX4_cut_27 : decode cX4_cut 27 = .ok (.sipush (-1003), 3) := by decide +kernel
theorem dX4_cut_30 : decode cX4_cut 30 = .ok (.ireturn, 1) := by decide +kernel
theorem dX4_cut_31 : decode cX4_cut 31 = .ok (.aload_n 0, 1) := by decide +kernel
theorem dX4_cut_32 : decode cX4_cut 32 = .ok (.getfield 28, 3) := by decide +kernel
theorem dX4_cut_35 : decode cX4_cut 35 = .ok (.invokevirtual 62, 3) := by decide +kernel
theorem dX4_cut_38 : decode cX4_cut 38 = .ok (.ifCond .eq 7, 3) := by decide +kernel
theorem dX4_cut_41 : decode cX4_cut 41 = .ok (.sipush (-1004), 3) := by decide +kernel
theorem dX4_cut_44 : decode cX4_cut 44 = .ok (.ireturn, 1) := by decide +kernel
theorem dX4_cut_45 : decode cX4_cut 45 = .ok (.aload_n 0, 1) := by decide +kernel
theorem dX4_cut_46 : decode cX4_cut 46 = .ok (.getfield 12, 3) := by decide +kernel
theorem dX4_cut_49 : decode cX4_cut 49 = .ok (.getfield 85, 3) := by decide +kernel
theorem dX4_cut_52 : decode cX4_cut 52 = .ok (.iload_n 1, 1) := by decide +kernel
theorem dX4_cut_53 : decode cX4_cut 53 = .ok (.iconst 0, 1) := by decide +kernel
theorem dX4_cut_54 : decode cX4_cut 54 = .ok (.bastore, 1) := by decide +kernel
theorem dX4_cut_55 : decode cX4_cut 55 = .ok (.aload_n 0, 1) := by decide +kernel
theorem dX4_cut_56 : decode cX4_cut 56 = .ok (.invokevirtual 70, 3) := by decide +kernel
theorem dX4_cut_59 : decode cX4_cut 59 = .ok (.aload_n 0, 1) := by decide +kernel
theorem dX4_cut_60 : decode cX4_cut 60 = .ok (.getfield 12, 3) := by decide +kernel
theorem dX4_cut_63 : decode cX4_cut 63 = .ok (.invokevirtual 91, 3) := by decide +kernel
theorem dX4_cut_66 : decode cX4_cut 66 = .ok (.ireturn, 1) := by decide +kernel
theorem dX4_back_0 : decode cX4_back 0 = .ok (.aload_n 0, 1) := by decide +kernel
theorem dX4_back_1 : decode cX4_back 1 = .ok (.getfield 12, 3) := by decide +kernel
theorem dX4_back_4 : decode cX4_back 4 = .ok (.iload_n 1, 1) := by decide +kernel
theorem dX4_back_5 : decode cX4_back 5 = .ok (.invokevirtual 73, 3) := by decide +kernel
theorem dX4_back_8 : decode cX4_back 8 = .ok (.ifCond .ne 7, 3) := by decide +kernel
theorem dX4_back_11 : decode cX4_back 11 = .ok (.sipush (-1001), 3) := by decide +kernel
theorem dX4_back_14 : decode cX4_back 14 = .ok (.ireturn, 1) := by decide +kernel
theorem dX4_back_15 : decode cX4_back 15 = .ok (.aload_n 0, 1) := by decide +kernel
theorem dX4_back_16 : decode cX4_back 16 = .ok (.getfield 12, 3) := by decide +kernel
theorem dX4_back_19 : decode cX4_back 19 = .ok (.getfield 85, 3) := by decide +kernel
theorem dX4_back_22 : decode cX4_back 22 = .ok (.iload_n 1, 1) := by decide +kernel
theorem dX4_back_23 : decode cX4_back 23 = .ok (.baload, 1) := by decide +kernel
theorem dX4_back_24 : decode cX4_back 24 = .ok (.ifCond .ne 20, 3) := by decide +kernel
theorem dX4_back_27 : decode cX4_back 27 = .ok (.aload_n 0, 1) := by decide +kernel
theorem dX4_back_28 : decode cX4_back 28 = .ok (.iload_n 1, 1) := by decide +kernel
theorem dX4_back_29 : decode cX4_back 29 = .ok (.aload_n 0, 1) := by decide +kernel
theorem dX4_back_30 : decode cX4_back 30 = .ok (.getfield 12, 3) := by decide +kernel
theorem dX4_back_33 : decode cX4_back 33 = .ok (.getfield 81, 3) := by decide +kernel
theorem dX4_back_36 : decode cX4_back 36 = .ok (.iload_n 1, 1) := by decide +kernel
theorem dX4_back_37 : decode cX4_back 37 = .ok (.iaload, 1) := by decide +kernel
theorem dX4_back_38 : decode cX4_back 38 = .ok (.invokevirtual 88, 3) := by decide +kernel
theorem dX4_back_41 : decode cX4_back 41 = .ok (.ifCond .eq 7, 3) := by decide +kernel
theorem dX4_back_44 : decode cX4_back 44 = .ok (.sipush (-1003), 3) := by decide +kernel
theorem dX4_back_47 : decode cX4_back 47 = .ok (.ireturn, 1) := by decide +kernel
theorem dX4_back_48 : decode cX4_back 48 = .ok (.aload_n 0, 1) := by decide +kernel
theorem dX4_back_49 : decode cX4_back 49 = .ok (.getfield 28, 3) := by decide +kernel
theorem dX4_back_52 : decode cX4_back 52 = .ok (.invokevirtual 62, 3) := by decide +kernel
theorem dX4_back_55 : decode cX4_back 55 = .ok (.ifCond .eq 7, 3) := by decide +kernel
theorem dX4_back_58 : decode cX4_back 58 = .ok (.sipush (-1004), 3) := by decide +kernel
theorem dX4_back_61 : decode cX4_back 61 = .ok (.ireturn, 1) := by decide +kernel
theorem dX4_back_62 : decode cX4_back 62 = .ok (.aload_n 0, 1) := by decide +kernel
theorem dX4_back_63 : decode cX4_back 63 = .ok (.getfield 12, 3) := by decide +kernel
theorem dX4_back_66 : decode cX4_back 66 = .ok (.getfield 85, 3) := by decide +kernel
theorem dX4_back_69 : decode cX4_back 69 = .ok (.iload_n 1, 1) := by decide +kernel
theorem dX4_back_70 : decode cX4_back 70 = .ok (.iconst 1, 1) := by decide +kernel
theorem dX4_back_71 : decode cX4_back 71 = .ok (.bastore, 1) := by decide +kernel
theorem dX4_back_72 : decode cX4_back 72 = .ok (.aload_n 0, 1) := by decide +kernel
theorem dX4_back_73 : decode cX4_back 73 = .ok (.invokevirtual 70, 3) := by decide +kernel
theorem dX4_back_76 : decode cX4_back 76 = .ok (.aload_n 0, 1) := by decide +kernel
theorem dX4_back_77 : decode cX4_back 77 = .ok (.getfield 12, 3) := by decide +kernel
theorem dX4_back_80 : decode cX4_back 80 = .ok (.invokevirtual 91, 3) := by decide +kernel
theorem dX4_back_83 : decode cX4_back 83 = .ok (.ireturn, 1) := by decide +kernel
theorem dX4_told_0 : decode cX4_told 0 = .ok (.aload_n 0, 1) := by decide +kernel
theorem dX4_told_1 : decode cX4_told 1 = .ok (.getfield 12, 3) := by decide +kernel
theorem dX4_told_4 : decode cX4_told 4 = .ok (.iload_n 1, 1) := by decide +kernel
theorem dX4_told_5 : decode cX4_told 5 = .ok (.invokevirtual 73, 3) := by decide +kernel
theorem dX4_told_8 : decode cX4_told 8 = .ok (.ifCond .ne 7, 3) := by decide +kernel
theorem dX4_told_11 : decode cX4_told 11 = .ok (.sipush (-1001), 3) := by decide +kernel
theorem dX4_told_14 : decode cX4_told 14 = .ok (.ireturn, 1) := by decide +kernel
theorem dX4_told_15 : decode cX4_told 15 = .ok (.iload_n 2, 1) := by decide +kernel
theorem dX4_told_16 : decode cX4_told 16 = .ok (.tableswitch 123 0 5 #[40, 50, 60, 70, 83, 96], 40) := by decide +kernel
theorem dX4_told_56 : decode cX4_told 56 = .ok (.aload_n 0, 1) := by decide +kernel
theorem dX4_told_57 : decode cX4_told 57 = .ok (.getfield 12, 3) := by decide +kernel
theorem dX4_told_60 : decode cX4_told 60 = .ok (.getfield 95, 3) := by decide +kernel
theorem dX4_told_63 : decode cX4_told 63 = .ok (.iload_n 1, 1) := by decide +kernel
theorem dX4_told_64 : decode cX4_told 64 = .ok (.iaload, 1) := by decide +kernel
theorem dX4_told_65 : decode cX4_told 65 = .ok (.ireturn, 1) := by decide +kernel
theorem dX4_told_66 : decode cX4_told 66 = .ok (.aload_n 0, 1) := by decide +kernel
theorem dX4_told_67 : decode cX4_told 67 = .ok (.getfield 12, 3) := by decide +kernel
theorem dX4_told_70 : decode cX4_told 70 = .ok (.getfield 98, 3) := by decide +kernel
theorem dX4_told_73 : decode cX4_told 73 = .ok (.iload_n 1, 1) := by decide +kernel
theorem dX4_told_74 : decode cX4_told 74 = .ok (.iaload, 1) := by decide +kernel
theorem dX4_told_75 : decode cX4_told 75 = .ok (.ireturn, 1) := by decide +kernel
theorem dX4_told_76 : decode cX4_told 76 = .ok (.aload_n 0, 1) := by decide +kernel
theorem dX4_told_77 : decode cX4_told 77 = .ok (.getfield 12, 3) := by decide +kernel
theorem dX4_told_80 : decode cX4_told 80 = .ok (.getfield 81, 3) := by decide +kernel
theorem dX4_told_83 : decode cX4_told 83 = .ok (.iload_n 1, 1) := by decide +kernel
theorem dX4_told_84 : decode cX4_told 84 = .ok (.iaload, 1) := by decide +kernel
theorem dX4_told_85 : decode cX4_told 85 = .ok (.ireturn, 1) := by decide +kernel
theorem dX4_told_86 : decode cX4_told 86 = .ok (.aload_n 0, 1) := by decide +kernel
theorem dX4_told_87 : decode cX4_told 87 = .ok (.getfield 12, 3) := by decide +kernel
theorem dX4_told_90 : decode cX4_told 90 = .ok (.getfield 77, 3) := by decide +kernel
theorem dX4_told_93 : decode cX4_told 93 = .ok (.iload_n 1, 1) := by decide +kernel
theorem dX4_told_94 : decode cX4_told 94 = .ok (.baload, 1) := by decide +kernel
theorem dX4_told_95 : decode cX4_told 95 = .ok (.invokestatic 101, 3) := by decide +kernel
theorem dX4_told_98 : decode cX4_told 98 = .ok (.ireturn, 1) := by decide +kernel
theorem dX4_told_99 : decode cX4_told 99 = .ok (.aload_n 0, 1) := by decide +kernel
theorem dX4_told_100 : decode cX4_told 100 = .ok (.getfield 12, 3) := by decide +kernel
end
section
theorem dX4_told_103 : decode cX4_told 103 = .ok (.getfield 85, 3) := by decide +kernel
theorem dX4_told_106 : decode cX4_told 106 = .ok (.iload_n 1, 1) := by decide +kernel
theorem dX4_told_107 : decode cX4_told 107 = .ok (.baload, 1) := by decide +kernel
theorem dX4_told_108 : decode cX4_told 108 = .ok (.invokestatic 101, 3) := by decide +kernel
theorem dX4_told_111 : decode cX4_told 111 = .ok (.ireturn, 1) := by decide +kernel
theorem dX4_told_112 : decode cX4_told 112 = .ok (.aload_n 0, 1) := by decide +kernel
theorem dX4_told_113 : decode cX4_told 113 = .ok (.getfield 12, 3) := by decide +kernel
theorem dX4_told_116 : decode cX4_told 116 = .ok (.getfield 85, 3) := by decide +kernel
theorem dX4_told_119 : decode cX4_told 119 = .ok (.iload_n 1, 1) := by decide +kernel
theorem dX4_told_120 : decode cX4_told 120 = .ok (.baload, 1) := by decide +kernel
theorem dX4_told_121 : decode cX4_told 121 = .ok (.ifCond .eq 14, 3) := by decide +kernel
theorem dX4_told_124 : decode cX4_told 124 = .ok (.aload_n 0, 1) := by decide +kernel
theorem dX4_told_125 : decode cX4_told 125 = .ok (.getfield 21, 3) := by decide +kernel
theorem dX4_told_128 : decode cX4_told 128 = .ok (.iload_n 1, 1) := by decide +kernel
theorem dX4_told_129 : decode cX4_told 129 = .ok (.invokevirtual 105, 3) := by decide +kernel
theorem dX4_told_132 : decode cX4_told 132 = .ok (.goto 6, 3) := by decide +kernel
theorem dX4_told_135 : decode cX4_told 135 = .ok (.sipush (-1000), 3) := by decide +kernel
theorem dX4_told_138 : decode cX4_told 138 = .ok (.ireturn, 1) := by decide +kernel
theorem dX4_told_139 : decode cX4_told 139 = .ok (.sipush (-1002), 3) := by decide +kernel
theorem dX4_told_142 : decode cX4_told 142 = .ok (.ireturn, 1) := by decide +kernel
theorem dX4_far_0 : decode cX4_far 0 = .ok (.aload_n 0, 1) := by decide +kernel
theorem dX4_far_1 : decode cX4_far 1 = .ok (.getfield 12, 3) := by decide +kernel
theorem dX4_far_4 : decode cX4_far 4 = .ok (.iload_n 1, 1) := by decide +kernel
theorem dX4_far_5 : decode cX4_far 5 = .ok (.iload_n 2, 1) := by decide +kernel
theorem dX4_far_6 : decode cX4_far 6 = .ok (.invokevirtual 47, 3) := by decide +kernel
theorem dX4_far_9 : decode cX4_far 9 = .ok (.ifCond .eq 15, 3) := by decide +kernel
theorem dX4_far_12 : decode cX4_far 12 = .ok (.aload_n 0, 1) := by decide +kernel
theorem dX4_far_13 : decode cX4_far 13 = .ok (.getfield 21, 3) := by decide +kernel
theorem dX4_far_16 : decode cX4_far 16 = .ok (.iload_n 1, 1) := by decide +kernel
theorem dX4_far_17 : decode cX4_far 17 = .ok (.iload_n 2, 1) := by decide +kernel
theorem dX4_far_18 : decode cX4_far 18 = .ok (.invokevirtual 109, 3) := by decide +kernel
theorem dX4_far_21 : decode cX4_far 21 = .ok (.goto 6, 3) := by decide +kernel
theorem dX4_far_24 : decode cX4_far 24 = .ok (.sipush (-1001), 3) := by decide +kernel
theorem dX4_far_27 : decode cX4_far 27 = .ok (.ireturn, 1) := by decide +kernel
theorem dX4_steps_0 : decode cX4_steps 0 = .ok (.aload_n 0, 1) := by decide +kernel
theorem dX4_steps_1 : decode cX4_steps 1 = .ok (.getfield 12, 3) := by decide +kernel
theorem dX4_steps_4 : decode cX4_steps 4 = .ok (.iload_n 1, 1) := by decide +kernel
theorem dX4_steps_5 : decode cX4_steps 5 = .ok (.iload_n 2, 1) := by decide +kernel
theorem dX4_steps_6 : decode cX4_steps 6 = .ok (.invokevirtual 47, 3) := by decide +kernel
theorem dX4_steps_9 : decode cX4_steps 9 = .ok (.ifCond .eq 15, 3) := by decide +kernel
theorem dX4_steps_12 : decode cX4_steps 12 = .ok (.aload_n 0, 1) := by decide +kernel
theorem dX4_steps_13 : decode cX4_steps 13 = .ok (.getfield 21, 3) := by decide +kernel
theorem dX4_steps_16 : decode cX4_steps 16 = .ok (.iload_n 1, 1) := by decide +kernel
theorem dX4_steps_17 : decode cX4_steps 17 = .ok (.iload_n 2, 1) := by decide +kernel
theorem dX4_steps_18 : decode cX4_steps 18 = .ok (.invokevirtual 113, 3) := by decide +kernel
theorem dX4_steps_21 : decode cX4_steps 21 = .ok (.goto 6, 3) := by decide +kernel
theorem dX4_steps_24 : decode cX4_steps 24 = .ok (.sipush (-1001), 3) := by decide +kernel
theorem dX4_steps_27 : decode cX4_steps 27 = .ok (.ireturn, 1) := by decide +kernel
theorem dX4_way_0 : decode cX4_way 0 = .ok (.aload_n 0, 1) := by decide +kernel
theorem dX4_way_1 : decode cX4_way 1 = .ok (.getfield 12, 3) := by decide +kernel
theorem dX4_way_4 : decode cX4_way 4 = .ok (.iload_n 1, 1) := by decide +kernel
theorem dX4_way_5 : decode cX4_way 5 = .ok (.iload_n 2, 1) := by decide +kernel
theorem dX4_way_6 : decode cX4_way 6 = .ok (.invokevirtual 47, 3) := by decide +kernel
theorem dX4_way_9 : decode cX4_way 9 = .ok (.ifCond .eq 16, 3) := by decide +kernel
theorem dX4_way_12 : decode cX4_way 12 = .ok (.aload_n 0, 1) := by decide +kernel
theorem dX4_way_13 : decode cX4_way 13 = .ok (.getfield 21, 3) := by decide +kernel
theorem dX4_way_16 : decode cX4_way 16 = .ok (.iload_n 1, 1) := by decide +kernel
theorem dX4_way_17 : decode cX4_way 17 = .ok (.iload_n 2, 1) := by decide +kernel
theorem dX4_way_18 : decode cX4_way 18 = .ok (.iload_n 3, 1) := by decide +kernel
theorem dX4_way_19 : decode cX4_way 19 = .ok (.invokevirtual 116, 3) := by decide +kernel
theorem dX4_way_22 : decode cX4_way 22 = .ok (.goto 6, 3) := by decide +kernel
theorem dX4_way_25 : decode cX4_way 25 = .ok (.sipush (-1001), 3) := by decide +kernel
theorem dX4_way_28 : decode cX4_way 28 = .ok (.ireturn, 1) := by decide +kernel
theorem dX4_without_0 : decode cX4_without 0 = .ok (.aload_n 0, 1) := by decide +kernel
theorem dX4_without_1 : decode cX4_without 1 = .ok (.getfield 12, 3) := by decide +kernel
theorem dX4_without_4 : decode cX4_without 4 = .ok (.iload_n 1, 1) := by decide +kernel
theorem dX4_without_5 : decode cX4_without 5 = .ok (.iload_n 2, 1) := by decide +kernel
theorem dX4_without_6 : decode cX4_without 6 = .ok (.invokevirtual 47, 3) := by decide +kernel
theorem dX4_without_9 : decode cX4_without 9 = .ok (.ifCond .eq 14, 3) := by decide +kernel
theorem dX4_without_12 : decode cX4_without 12 = .ok (.aload_n 0, 1) := by decide +kernel
theorem dX4_without_13 : decode cX4_without 13 = .ok (.getfield 12, 3) := by decide +kernel
theorem dX4_without_16 : decode cX4_without 16 = .ok (.iload_n 3, 1) := by decide +kernel
theorem dX4_without_17 : decode cX4_without 17 = .ok (.invokevirtual 73, 3) := by decide +kernel
theorem dX4_without_20 : decode cX4_without 20 = .ok (.ifCond .ne 7, 3) := by decide +kernel
theorem dX4_without_23 : decode cX4_without 23 = .ok (.sipush (-1001), 3) := by decide +kernel
theorem dX4_without_26 : decode cX4_without 26 = .ok (.ireturn, 1) := by decide +kernel
theorem dX4_without_27 : decode cX4_without 27 = .ok (.aload_n 0, 1) := by decide +kernel
theorem dX4_without_28 : decode cX4_without 28 = .ok (.getfield 21, 3) := by decide +kernel
theorem dX4_without_31 : decode cX4_without 31 = .ok (.iload_n 1, 1) := by decide +kernel
theorem dX4_without_32 : decode cX4_without 32 = .ok (.iload_n 2, 1) := by decide +kernel
theorem dX4_without_33 : decode cX4_without 33 = .ok (.iload_n 3, 1) := by decide +kernel
theorem dX4_without_34 : decode cX4_without 34 = .ok (.iconst (-1), 1) := by decide +kernel
theorem dX4_without_35 : decode cX4_without 35 = .ok (.invokevirtual 120, 3) := by decide +kernel
theorem dX4_without_38 : decode cX4_without 38 = .ok (.ireturn, 1) := by decide +kernel
theorem dX4_vital_0 : decode cX4_vital 0 = .ok (.aload_n 0, 1) := by decide +kernel
theorem dX4_vital_1 : decode cX4_vital 1 = .ok (.getfield 12, 3) := by decide +kernel
theorem dX4_vital_4 : decode cX4_vital 4 = .ok (.iload_n 1, 1) := by decide +kernel
theorem dX4_vital_5 : decode cX4_vital 5 = .ok (.iload_n 2, 1) := by decide +kernel
theorem dX4_vital_6 : decode cX4_vital 6 = .ok (.invokevirtual 47, 3) := by decide +kernel
theorem dX4_vital_9 : decode cX4_vital 9 = .ok (.ifCond .ne 7, 3) := by decide +kernel
theorem dX4_vital_12 : decode cX4_vital 12 = .ok (.sipush (-1001), 3) := by decide +kernel
theorem dX4_vital_15 : decode cX4_vital 15 = .ok (.ireturn, 1) := by decide +kernel
theorem dX4_vital_16 : decode cX4_vital 16 = .ok (.iconst 0, 1) := by decide +kernel
theorem dX4_vital_17 : decode cX4_vital 17 = .ok (.istore 4, 2) := by decide +kernel
theorem dX4_vital_19 : decode cX4_vital 19 = .ok (.iconst 0, 1) := by decide +kernel
theorem dX4_vital_20 : decode cX4_vital 20 = .ok (.istore 5, 2) := by decide +kernel
theorem dX4_vital_22 : decode cX4_vital 22 = .ok (.iload 5, 2) := by decide +kernel
theorem dX4_vital_24 : decode cX4_vital 24 = .ok (.aload_n 0, 1) := by decide +kernel
theorem dX4_vital_25 : decode cX4_vital 25 = .ok (.getfield 12, 3) := by decide +kernel
theorem dX4_vital_28 : decode cX4_vital 28 = .ok (.getfield 59, 3) := by decide +kernel
theorem dX4_vital_31 : decode cX4_vital 31 = .ok (.if_icmp .ge 35, 3) := by decide +kernel
theorem dX4_vital_34 : decode cX4_vital 34 = .ok (.aload_n 0, 1) := by decide +kernel
theorem dX4_vital_35 : decode cX4_vital 35 = .ok (.getfield 21, 3) := by decide +kernel
theorem dX4_vital_38 : decode cX4_vital 38 = .ok (.iload_n 1, 1) := by decide +kernel
theorem dX4_vital_39 : decode cX4_vital 39 = .ok (.iload_n 2, 1) := by decide +kernel
theorem dX4_vital_40 : decode cX4_vital 40 = .ok (.iload 5, 2) := by decide +kernel
theorem dX4_vital_42 : decode cX4_vital 42 = .ok (.invokevirtual 124, 3) := by decide +kernel
theorem dX4_vital_45 : decode cX4_vital 45 = .ok (.ifCond .eq 15, 3) := by decide +kernel
theorem dX4_vital_48 : decode cX4_vital 48 = .ok (.iload 4, 2) := by decide +kernel
theorem dX4_vital_50 : decode cX4_vital 50 = .ok (.iload_n 3, 1) := by decide +kernel
theorem dX4_vital_51 : decode cX4_vital 51 = .ok (.if_icmp .ne 6, 3) := by decide +kernel
theorem dX4_vital_54 : decode cX4_vital 54 = .ok (.iload 5, 2) := by decide +kernel
theorem dX4_vital_56 : decode cX4_vital 56 = .ok (.ireturn, 1) := by decide +kernel
theorem dX4_vital_57 : decode cX4_vital 57 = .ok (.iinc 4 1, 3) := by decide +kernel
theorem dX4_vital_60 : decode cX4_vital 60 = .ok (.iinc 5 1, 3) := by decide +kernel
theorem dX4_vital_63 : decode cX4_vital 63 = .ok (.goto (-41), 3) := by decide +kernel
theorem dX4_vital_66 : decode cX4_vital 66 = .ok (.sipush (-1000), 3) := by decide +kernel
theorem dX4_vital_69 : decode cX4_vital 69 = .ok (.ireturn, 1) := by decide +kernel
theorem dX4_about_0 : decode cX4_about 0 = .ok (.aload_n 0, 1) := by decide +kernel
theorem dX4_about_1 : decode cX4_about 1 = .ok (.getfield 12, 3) := by decide +kernel
theorem dX4_about_4 : decode cX4_about 4 = .ok (.iload_n 1, 1) := by decide +kernel
theorem dX4_about_5 : decode cX4_about 5 = .ok (.iload_n 2, 1) := by decide +kernel
theorem dX4_about_6 : decode cX4_about 6 = .ok (.invokevirtual 47, 3) := by decide +kernel
theorem dX4_about_9 : decode cX4_about 9 = .ok (.ifCond .eq 14, 3) := by decide +kernel
theorem dX4_about_12 : decode cX4_about 12 = .ok (.aload_n 0, 1) := by decide +kernel
theorem dX4_about_13 : decode cX4_about 13 = .ok (.getfield 12, 3) := by decide +kernel
theorem dX4_about_16 : decode cX4_about 16 = .ok (.iload_n 3, 1) := by decide +kernel
theorem dX4_about_17 : decode cX4_about 17 = .ok (.invokevirtual 128, 3) := by decide +kernel
theorem dX4_about_20 : decode cX4_about 20 = .ok (.ifCond .ne 7, 3) := by decide +kernel
theorem dX4_about_23 : decode cX4_about 23 = .ok (.sipush (-1001), 3) := by decide +kernel
theorem dX4_about_26 : decode cX4_about 26 = .ok (.ireturn, 1) := by decide +kernel
theorem dX4_about_27 : decode cX4_about 27 = .ok (.iload_n 3, 1) := by decide +kernel
theorem dX4_about_28 : decode cX4_about 28 = .ok (.iload_n 1, 1) := by decide +kernel
theorem dX4_about_29 : decode cX4_about 29 = .ok (.if_icmp .eq 8, 3) := by decide +kernel
theorem dX4_about_32 : decode cX4_about 32 = .ok (.iload_n 3, 1) := by decide +kernel
theorem dX4_about_33 : decode cX4_about 33 = .ok (.iload_n 2, 1) := by decide +kernel
theorem dX4_about_34 : decode cX4_about 34 = .ok (.if_icmp .ne 7, 3) := by decide +kernel
theorem dX4_about_37 : decode cX4_about 37 = .ok (.sipush (-1003), 3) := by decide +kernel
theorem dX4_about_40 : decode cX4_about 40 = .ok (.ireturn, 1) := by decide +kernel
theorem dX4_about_41 : decode cX4_about 41 = .ok (.aload_n 0, 1) := by decide +kernel
theorem dX4_about_42 : decode cX4_about 42 = .ok (.getfield 21, 3) := by decide +kernel
theorem dX4_about_45 : decode cX4_about 45 = .ok (.iload_n 1, 1) := by decide +kernel
theorem dX4_about_46 : decode cX4_about 46 = .ok (.iload_n 2, 1) := by decide +kernel
theorem dX4_about_47 : decode cX4_about 47 = .ok (.iconst (-1), 1) := by decide +kernel
theorem dX4_about_48 : decode cX4_about 48 = .ok (.iload_n 3, 1) := by decide +kernel
theorem dX4_about_49 : decode cX4_about 49 = .ok (.invokevirtual 120, 3) := by decide +kernel
theorem dX4_about_52 : decode cX4_about 52 = .ok (.ireturn, 1) := by decide +kernel
theorem dX4_ring_0 : decode cX4_ring 0 = .ok (.aload_n 0, 1) := by decide +kernel
theorem dX4_ring_1 : decode cX4_ring 1 = .ok (.getfield 21, 3) := by decide +kernel
theorem dX4_ring_4 : decode cX4_ring 4 = .ok (.invokevirtual 131, 3) := by decide +kernel
theorem dX4_ring_7 : decode cX4_ring 7 = .ok (.ireturn, 1) := by decide +kernel
theorem dX4_height_0 : decode cX4_height 0 = .ok (.aload_n 0, 1) := by decide +kernel
theorem dX4_height_1 : decode cX4_height 1 = .ok (.getfield 12, 3) := by decide +kernel
theorem dX4_height_4 : decode cX4_height 4 = .ok (.iload_n 1, 1) := by decide +kernel
theorem dX4_height_5 : decode cX4_height 5 = .ok (.invokevirtual 128, 3) := by decide +kernel
theorem dX4_height_8 : decode cX4_height 8 = .ok (.ifCond .eq 14, 3) := by decide +kernel
theorem dX4_height_11 : decode cX4_height 11 = .ok (.aload_n 0, 1) := by decide +kernel
theorem dX4_height_12 : decode cX4_height 12 = .ok (.getfield 21, 3) := by decide +kernel
theorem dX4_height_15 : decode cX4_height 15 = .ok (.iload_n 1, 1) := by decide +kernel
theorem dX4_height_16 : decode cX4_height 16 = .ok (.invokevirtual 134, 3) := by decide +kernel
theorem dX4_height_19 : decode cX4_height 19 = .ok (.goto 6, 3) := by decide +kernel
theorem dX4_height_22 : decode cX4_height 22 = .ok (.sipush (-1001), 3) := by decide +kernel
theorem dX4_height_25 : decode cX4_height 25 = .ok (.ireturn, 1) := by decide +kernel
theorem dX4_acts_0 : decode cX4_acts 0 = .ok (.aload_n 0, 1) := by decide +kernel
theorem dX4_acts_1 : decode cX4_acts 1 = .ok (.getfield 28, 3) := by decide +kernel
theorem dX4_acts_4 : decode cX4_acts 4 = .ok (.invokevirtual 137, 3) := by decide +kernel
theorem dX4_acts_7 : decode cX4_acts 7 = .ok (.ireturn, 1) := by decide +kernel
theorem dX4_moved_0 : decode cX4_moved 0 = .ok (.aload_n 0, 1) := by decide +kernel
theorem dX4_moved_1 : decode cX4_moved 1 = .ok (.getfield 28, 3) := by decide +kernel
theorem dX4_moved_4 : decode cX4_moved 4 = .ok (.iload_n 1, 1) := by decide +kernel
theorem dX4_moved_5 : decode cX4_moved 5 = .ok (.invokevirtual 140, 3) := by decide +kernel
theorem dX4_moved_8 : decode cX4_moved 8 = .ok (.ifCond .eq 14, 3) := by decide +kernel
theorem dX4_moved_11 : decode cX4_moved 11 = .ok (.aload_n 0, 1) := by decide +kernel
theorem dX4_moved_12 : decode cX4_moved 12 = .ok (.getfield 28, 3) := by decide +kernel
theorem dX4_moved_15 : decode cX4_moved 15 = .ok (.iload_n 1, 1) := by decide +kernel
theorem dX4_moved_16 : decode cX4_moved 16 = .ok (.invokevirtual 143, 3) := by decide +kernel
theorem dX4_moved_19 : decode cX4_moved 19 = .ok (.goto 6, 3) := by decide +kernel
theorem dX4_moved_22 : decode cX4_moved 22 = .ok (.sipush (-1001), 3) := by decide +kernel
theorem dX4_moved_25 : decode cX4_moved 25 = .ok (.ireturn, 1) := by decide +kernel
theorem dX4_pair_0 : decode cX4_pair 0 = .ok (.aload_n 0, 1) := by decide +kernel
theorem dX4_pair_1 : decode cX4_pair 1 = .ok (.getfield 28, 3) := by decide +kernel
theorem dX4_pair_4 : decode cX4_pair 4 = .ok (.iload_n 1, 1) := by decide +kernel
theorem dX4_pair_5 : decode cX4_pair 5 = .ok (.invokevirtual 140, 3) := by decide +kernel
theorem dX4_pair_8 : decode cX4_pair 8 = .ok (.ifCond .eq 15, 3) := by decide +kernel
theorem dX4_pair_11 : decode cX4_pair 11 = .ok (.aload_n 0, 1) := by decide +kernel
theorem dX4_pair_12 : decode cX4_pair 12 = .ok (.getfield 28, 3) := by decide +kernel
theorem dX4_pair_15 : decode cX4_pair 15 = .ok (.iload_n 1, 1) := by decide +kernel
theorem dX4_pair_16 : decode cX4_pair 16 = .ok (.iload_n 2, 1) := by decide +kernel
theorem dX4_pair_17 : decode cX4_pair 17 = .ok (.invokevirtual 146, 3) := by decide +kernel
theorem dX4_pair_20 : decode cX4_pair 20 = .ok (.goto 6, 3) := by decide +kernel
theorem dX4_pair_23 : decode cX4_pair 23 = .ok (.sipush (-1001), 3) := by decide +kernel
theorem dX4_pair_26 : decode cX4_pair 26 = .ok (.ireturn, 1) := by decide +kernel
theorem dX4_then_0 : decode cX4_then 0 = .ok (.aload_n 0, 1) := by decide +kernel
theorem dX4_then_1 : decode cX4_then 1 = .ok (.getfield 12, 3) := by decide +kernel
theorem dX4_then_4 : decode cX4_then 4 = .ok (.iload_n 2, 1) := by decide +kernel
theorem dX4_then_5 : decode cX4_then 5 = .ok (.iload_n 3, 1) := by decide +kernel
theorem dX4_then_6 : decode cX4_then 6 = .ok (.invokevirtual 47, 3) := by decide +kernel
theorem dX4_then_9 : decode cX4_then 9 = .ok (.ifCond .eq 18, 3) := by decide +kernel
theorem dX4_then_12 : decode cX4_then 12 = .ok (.iload_n 1, 1) := by decide +kernel
theorem dX4_then_13 : decode cX4_then 13 = .ok (.ifCond .eq 18, 3) := by decide +kernel
theorem dX4_then_16 : decode cX4_then 16 = .ok (.aload_n 0, 1) := by decide +kernel
theorem dX4_then_17 : decode cX4_then 17 = .ok (.getfield 28, 3) := by decide +kernel
theorem dX4_then_20 : decode cX4_then 20 = .ok (.iload_n 1, 1) := by decide +kernel
theorem dX4_then_21 : decode cX4_then 21 = .ok (.invokevirtual 140, 3) := by decide +kernel
theorem dX4_then_24 : decode cX4_then 24 = .ok (.ifCond .ne 7, 3) := by decide +kernel
theorem dX4_then_27 : decode cX4_then 27 = .ok (.sipush (-1001), 3) := by decide +kernel
theorem dX4_then_30 : decode cX4_then 30 = .ok (.ireturn, 1) := by decide +kernel
theorem dX4_then_31 : decode cX4_then 31 = .ok (.aload_n 0, 1) := by decide +kernel
theorem dX4_then_32 : decode cX4_then 32 = .ok (.getfield 28, 3) := by decide +kernel
theorem dX4_then_35 : decode cX4_then 35 = .ok (.iload_n 1, 1) := by decide +kernel
theorem dX4_then_36 : decode cX4_then 36 = .ok (.iload_n 2, 1) := by decide +kernel
theorem dX4_then_37 : decode cX4_then 37 = .ok (.iload_n 3, 1) := by decide +kernel
theorem dX4_then_38 : decode cX4_then 38 = .ok (.invokestatic 149, 3) := by decide +kernel
theorem dX4_then_41 : decode cX4_then 41 = .ok (.invokevirtual 152, 3) := by decide +kernel
theorem dX4_then_44 : decode cX4_then 44 = .ok (.ireturn, 1) := by decide +kernel
theorem dX4_since_0 : decode cX4_since 0 = .ok (.aload_n 0, 1) := by decide +kernel
theorem dX4_since_1 : decode cX4_since 1 = .ok (.getfield 12, 3) := by decide +kernel
theorem dX4_since_4 : decode cX4_since 4 = .ok (.iload_n 2, 1) := by decide +kernel
theorem dX4_since_5 : decode cX4_since 5 = .ok (.iload_n 3, 1) := by decide +kernel
theorem dX4_since_6 : decode cX4_since 6 = .ok (.invokevirtual 47, 3) := by decide +kernel
theorem dX4_since_9 : decode cX4_since 9 = .ok (.ifCond .eq 14, 3) := by decide +kernel
theorem dX4_since_12 : decode cX4_since 12 = .ok (.aload_n 0, 1) := by decide +kernel
theorem dX4_since_13 : decode cX4_since 13 = .ok (.getfield 28, 3) := by decide +kernel
theorem dX4_since_16 : decode cX4_since 16 = .ok (.iload_n 1, 1) := by decide +kernel
theorem dX4_since_17 : decode cX4_since 17 = .ok (.invokevirtual 140, 3) := by decide +kernel
theorem dX4_since_20 : decode cX4_since 20 = .ok (.ifCond .ne 7, 3) := by decide +kernel
theorem dX4_since_23 : decode cX4_since 23 = .ok (.sipush (-1001), 3) := by decide +kernel
theorem dX4_since_26 : decode cX4_since 26 = .ok (.ireturn, 1) := by decide +kernel
theorem dX4_since_27 : decode cX4_since 27 = .ok (.iload 4, 2) := by decide +kernel
theorem dX4_since_29 : decode cX4_since 29 = .ok (.sipush (-500), 3) := by decide +kernel
theorem dX4_since_32 : decode cX4_since 32 = .ok (.if_icmp .lt 11, 3) := by decide +kernel
theorem dX4_since_35 : decode cX4_since 35 = .ok (.iload 4, 2) := by decide +kernel
theorem dX4_since_37 : decode cX4_since 37 = .ok (.sipush 1000, 3) := by decide +kernel
theorem dX4_since_40 : decode cX4_since 40 = .ok (.if_icmp .le 7, 3) := by decide +kernel
theorem dX4_since_43 : decode cX4_since 43 = .ok (.sipush (-1002), 3) := by decide +kernel
theorem dX4_since_46 : decode cX4_since 46 = .ok (.ireturn, 1) := by decide +kernel
theorem dX4_since_47 : decode cX4_since 47 = .ok (.aload_n 0, 1) := by decide +kernel
theorem dX4_since_48 : decode cX4_since 48 = .ok (.getfield 28, 3) := by decide +kernel
theorem dX4_since_51 : decode cX4_since 51 = .ok (.iload_n 1, 1) := by decide +kernel
theorem dX4_since_52 : decode cX4_since 52 = .ok (.iload_n 2, 1) := by decide +kernel
theorem dX4_since_53 : decode cX4_since 53 = .ok (.iload_n 3, 1) := by decide +kernel
theorem dX4_since_54 : decode cX4_since 54 = .ok (.invokestatic 149, 3) := by decide +kernel
theorem dX4_since_57 : decode cX4_since 57 = .ok (.iload 4, 2) := by decide +kernel
theorem dX4_since_59 : decode cX4_since 59 = .ok (.invokevirtual 155, 3) := by decide +kernel
theorem dX4_since_62 : decode cX4_since 62 = .ok (.ireturn, 1) := by decide +kernel
theorem dX4_marks_0 : decode cX4_marks 0 = .ok (.iload_n 1, 1) := by decide +kernel
theorem dX4_marks_1 : decode cX4_marks 1 = .ok (.ifCond .lt 16, 3) := by decide +kernel
theorem dX4_marks_4 : decode cX4_marks 4 = .ok (.iload_n 1, 1) := by decide +kernel
theorem dX4_marks_5 : decode cX4_marks 5 = .ok (.iconst 1, 1) := by decide +kernel
theorem dX4_marks_6 : decode cX4_marks 6 = .ok (.aload_n 0, 1) := by decide +kernel
theorem dX4_marks_7 : decode cX4_marks 7 = .ok (.getfield 12, 3) := by decide +kernel
theorem dX4_marks_10 : decode cX4_marks 10 = .ok (.getfield 43, 3) := by decide +kernel
theorem dX4_marks_13 : decode cX4_marks 13 = .ok (.ishl, 1) := by decide +kernel
theorem dX4_marks_14 : decode cX4_marks 14 = .ok (.if_icmp .lt 7, 3) := by decide +kernel
theorem dX4_marks_17 : decode cX4_marks 17 = .ok (.sipush (-1002), 3) := by decide +kernel
theorem dX4_marks_20 : decode cX4_marks 20 = .ok (.ireturn, 1) := by decide +kernel
theorem dX4_marks_21 : decode cX4_marks 21 = .ok (.aload_n 0, 1) := by decide +kernel
theorem dX4_marks_22 : decode cX4_marks 22 = .ok (.getfield 158, 3) := by decide +kernel
theorem dX4_marks_25 : decode cX4_marks 25 = .ok (.istore_n 2, 1) := by decide +kernel
theorem dX4_marks_26 : decode cX4_marks 26 = .ok (.aload_n 0, 1) := by decide +kernel
theorem dX4_marks_27 : decode cX4_marks 27 = .ok (.iload_n 1, 1) := by decide +kernel
theorem dX4_marks_28 : decode cX4_marks 28 = .ok (.putfield 158, 3) := by decide +kernel
theorem dX4_marks_31 : decode cX4_marks 31 = .ok (.iload_n 2, 1) := by decide +kernel
theorem dX4_marks_32 : decode cX4_marks 32 = .ok (.ireturn, 1) := by decide +kernel
theorem dX4_near_0 : decode cX4_near 0 = .ok (.aload_n 0, 1) := by decide +kernel
theorem dX4_near_1 : decode cX4_near 1 = .ok (.getfield 12, 3) := by decide +kernel
theorem dX4_near_4 : decode cX4_near 4 = .ok (.iload_n 1, 1) := by decide +kernel
theorem dX4_near_5 : decode cX4_near 5 = .ok (.iload_n 2, 1) := by decide +kernel
theorem dX4_near_6 : decode cX4_near 6 = .ok (.invokevirtual 47, 3) := by decide +kernel
theorem dX4_near_9 : decode cX4_near 9 = .ok (.ifCond .eq 19, 3) := by decide +kernel
theorem dX4_near_12 : decode cX4_near 12 = .ok (.aload_n 0, 1) := by decide +kernel
theorem dX4_near_13 : decode cX4_near 13 = .ok (.getfield 21, 3) := by decide +kernel
theorem dX4_near_16 : decode cX4_near 16 = .ok (.iload_n 1, 1) := by decide +kernel
theorem dX4_near_17 : decode cX4_near 17 = .ok (.iload_n 2, 1) := by decide +kernel
theorem dX4_near_18 : decode cX4_near 18 = .ok (.aload_n 0, 1) := by decide +kernel
theorem dX4_near_19 : decode cX4_near 19 = .ok (.getfield 158, 3) := by decide +kernel
theorem dX4_near_22 : decode cX4_near 22 = .ok (.invokevirtual 161, 3) := by decide +kernel
theorem dX4_near_25 : decode cX4_near 25 = .ok (.goto 6, 3) := by decide +kernel
theorem dX4_near_28 : decode cX4_near 28 = .ok (.sipush (-1001), 3) := by decide +kernel
theorem dX4_near_31 : decode cX4_near 31 = .ok (.ireturn, 1) := by decide +kernel
theorem dX4_worst_0 : decode cX4_worst 0 = .ok (.iconst 0, 1) := by decide +kernel
theorem dX4_worst_1 : decode cX4_worst 1 = .ok (.istore_n 1, 1) := by decide +kernel
theorem dX4_worst_2 : decode cX4_worst 2 = .ok (.iconst 0, 1) := by decide +kernel
theorem dX4_worst_3 : decode cX4_worst 3 = .ok (.istore_n 2, 1) := by decide +kernel
theorem dX4_worst_4 : decode cX4_worst 4 = .ok (.iload_n 2, 1) := by decide +kernel
theorem dX4_worst_5 : decode cX4_worst 5 = .ok (.aload_n 0, 1) := by decide +kernel
theorem dX4_worst_6 : decode cX4_worst 6 = .ok (.getfield 12, 3) := by decide +kernel
theorem dX4_worst_9 : decode cX4_worst 9 = .ok (.getfield 43, 3) := by decide +kernel
theorem dX4_worst_12 : decode cX4_worst 12 = .ok (.if_icmp .ge 84, 3) := by decide +kernel
theorem dX4_worst_15 : decode cX4_worst 15 = .ok (.iconst 0, 1) := by decide +kernel
theorem dX4_worst_16 : decode cX4_worst 16 = .ok (.istore_n 3, 1) := by decide +kernel
theorem dX4_worst_17 : decode cX4_worst 17 = .ok (.iload_n 3, 1) := by decide +kernel
theorem dX4_worst_18 : decode cX4_worst 18 = .ok (.aload_n 0, 1) := by decide +kernel
theorem dX4_worst_19 : decode cX4_worst 19 = .ok (.getfield 12, 3) := by decide +kernel
theorem dX4_worst_22 : decode cX4_worst 22 = .ok (.getfield 43, 3) := by decide +kernel
theorem dX4_worst_25 : decode cX4_worst 25 = .ok (.if_icmp .ge 65, 3) := by decide +kernel
theorem dX4_worst_28 : decode cX4_worst 28 = .ok (.aload_n 0, 1) := by decide +kernel
theorem dX4_worst_29 : decode cX4_worst 29 = .ok (.getfield 21, 3) := by decide +kernel
theorem dX4_worst_32 : decode cX4_worst 32 = .ok (.iload_n 2, 1) := by decide +kernel
theorem dX4_worst_33 : decode cX4_worst 33 = .ok (.iload_n 3, 1) := by decide +kernel
theorem dX4_worst_34 : decode cX4_worst 34 = .ok (.invokevirtual 164, 3) := by decide +kernel
theorem dX4_worst_37 : decode cX4_worst 37 = .ok (.ifCond .eq 47, 3) := by decide +kernel
theorem dX4_worst_40 : decode cX4_worst 40 = .ok (.aload_n 0, 1) := by decide +kernel
theorem dX4_worst_41 : decode cX4_worst 41 = .ok (.getfield 21, 3) := by decide +kernel
theorem dX4_worst_44 : decode cX4_worst 44 = .ok (.iload_n 2, 1) := by decide +kernel
theorem dX4_worst_45 : decode cX4_worst 45 = .ok (.iload_n 3, 1) := by decide +kernel
theorem dX4_worst_46 : decode cX4_worst 46 = .ok (.aload_n 0, 1) := by decide +kernel
theorem dX4_worst_47 : decode cX4_worst 47 = .ok (.getfield 158, 3) := by decide +kernel
theorem dX4_worst_50 : decode cX4_worst 50 = .ok (.invokevirtual 161, 3) := by decide +kernel
theorem dX4_worst_53 : decode cX4_worst 53 = .ok (.istore 4, 2) := by decide +kernel
theorem dX4_worst_55 : decode cX4_worst 55 = .ok (.iload 4, 2) := by decide +kernel
theorem dX4_worst_57 : decode cX4_worst 57 = .ok (.sipush (-1000), 3) := by decide +kernel
theorem dX4_worst_60 : decode cX4_worst 60 = .ok (.if_icmp .ne 7, 3) := by decide +kernel
theorem dX4_worst_63 : decode cX4_worst 63 = .ok (.sipush (-1000), 3) := by decide +kernel
theorem dX4_worst_66 : decode cX4_worst 66 = .ok (.ireturn, 1) := by decide +kernel
theorem dX4_worst_67 : decode cX4_worst 67 = .ok (.iload_n 1, 1) := by decide +kernel
theorem dX4_worst_68 : decode cX4_worst 68 = .ok (.iload 4, 2) := by decide +kernel
theorem dX4_worst_70 : decode cX4_worst 70 = .ok (.aload_n 0, 1) := by decide +kernel
theorem dX4_worst_71 : decode cX4_worst 71 = .ok (.getfield 21, 3) := by decide +kernel
theorem dX4_worst_74 : decode cX4_worst 74 = .ok (.iload_n 2, 1) := by decide +kernel
theorem dX4_worst_75 : decode cX4_worst 75 = .ok (.iload_n 3, 1) := by decide +kernel
theorem dX4_worst_76 : decode cX4_worst 76 = .ok (.invokevirtual 109, 3) := by decide +kernel
theorem dX4_worst_79 : decode cX4_worst 79 = .ok (.isub, 1) := by decide +kernel
theorem dX4_worst_80 : decode cX4_worst 80 = .ok (.invokestatic 167, 3) := by decide +kernel
theorem dX4_worst_83 : decode cX4_worst 83 = .ok (.istore_n 1, 1) := by decide +kernel
theorem dX4_worst_84 : decode cX4_worst 84 = .ok (.iinc 3 1, 3) := by decide +kernel
theorem dX4_worst_87 : decode cX4_worst 87 = .ok (.goto (-70), 3) := by decide +kernel
theorem dX4_worst_90 : decode cX4_worst 90 = .ok (.iinc 2 1, 3) := by decide +kernel
theorem dX4_worst_93 : decode cX4_worst 93 = .ok (.goto (-89), 3) := by decide +kernel
theorem dX4_worst_96 : decode cX4_worst 96 = .ok (.iload_n 1, 1) := by decide +kernel
theorem dX4_worst_97 : decode cX4_worst 97 = .ok (.ireturn, 1) := by decide +kernel
theorem dX4_hits_0 : decode cX4_hits 0 = .ok (.iload_n 1, 1) := by decide +kernel
theorem dX4_hits_1 : decode cX4_hits 1 = .ok (.iconst 1, 1) := by decide +kernel
theorem dX4_hits_2 : decode cX4_hits 2 = .ok (.if_icmp .lt 9, 3) := by decide +kernel
theorem dX4_hits_5 : decode cX4_hits 5 = .ok (.iload_n 1, 1) := by decide +kernel
theorem dX4_hits_6 : decode cX4_hits 6 = .ok (.bipush 9, 2) := by decide +kernel
theorem dX4_hits_8 : decode cX4_hits 8 = .ok (.if_icmp .le 7, 3) := by decide +kernel
theorem dX4_hits_11 : decode cX4_hits 11 = .ok (.sipush (-1002), 3) := by decide +kernel
theorem dX4_hits_14 : decode cX4_hits 14 = .ok (.ireturn, 1) := by decide +kernel
theorem dX4_hits_15 : decode cX4_hits 15 = .ok (.aload_n 0, 1) := by decide +kernel
theorem dX4_hits_16 : decode cX4_hits 16 = .ok (.getfield 35, 3) := by decide +kernel
theorem dX4_hits_19 : decode cX4_hits 19 = .ok (.aload_n 0, 1) := by decide +kernel
theorem dX4_hits_20 : decode cX4_hits 20 = .ok (.getfield 21, 3) := by decide +kernel
theorem dX4_hits_23 : decode cX4_hits 23 = .ok (.aload_n 0, 1) := by decide +kernel
theorem dX4_hits_24 : decode cX4_hits 24 = .ok (.getfield 12, 3) := by decide +kernel
theorem dX4_hits_27 : decode cX4_hits 27 = .ok (.getfield 43, 3) := by decide +kernel
theorem dX4_hits_30 : decode cX4_hits 30 = .ok (.iload_n 1, 1) := by decide +kernel
theorem dX4_hits_31 : decode cX4_hits 31 = .ok (.invokevirtual 172, 3) := by decide +kernel
theorem dX4_hits_34 : decode cX4_hits 34 = .ok (.aload_n 0, 1) := by decide +kernel
theorem dX4_hits_35 : decode cX4_hits 35 = .ok (.getfield 35, 3) := by decide +kernel
theorem dX4_hits_38 : decode cX4_hits 38 = .ok (.aload_n 0, 1) := by decide +kernel
theorem dX4_hits_39 : decode cX4_hits 39 = .ok (.getfield 12, 3) := by decide +kernel
theorem dX4_hits_42 : decode cX4_hits 42 = .ok (.getfield 43, 3) := by decide +kernel
theorem dX4_hits_45 : decode cX4_hits 45 = .ok (.invokevirtual 176, 3) := by decide +kernel
theorem dX4_hits_48 : decode cX4_hits 48 = .ok (.ireturn, 1) := by decide +kernel
theorem dX4_count_0 : decode cX4_count 0 = .ok (.iload_n 1, 1) := by decide +kernel
theorem dX4_count_1 : decode cX4_count 1 = .ok (.tableswitch 75 0 4 #[35, 43, 51, 59, 67], 35) := by decide +kernel
theorem dX4_count_36 : decode cX4_count 36 = .ok (.aload_n 0, 1) := by decide +kernel
theorem dX4_count_37 : decode cX4_count 37 = .ok (.getfield 12, 3) := by decide +kernel
theorem dX4_count_40 : decode cX4_count 40 = .ok (.getfield 43, 3) := by decide +kernel
theorem dX4_count_43 : decode cX4_count 43 = .ok (.ireturn, 1) := by decide +kernel
theorem dX4_count_44 : decode cX4_count 44 = .ok (.aload_n 0, 1) := by decide +kernel
theorem dX4_count_45 : decode cX4_count 45 = .ok (.getfield 12, 3) := by decide +kernel
theorem dX4_count_48 : decode cX4_count 48 = .ok (.getfield 59, 3) := by decide +kernel
theorem dX4_count_51 : decode cX4_count 51 = .ok (.ireturn, 1) := by decide +kernel
theorem dX4_count_52 : decode cX4_count 52 = .ok (.aload_n 0, 1) := by decide +kernel
theorem dX4_count_53 : decode cX4_count 53 = .ok (.getfield 12, 3) := by decide +kernel
theorem dX4_count_56 : decode cX4_count 56 = .ok (.invokevirtual 91, 3) := by decide +kernel
theorem dX4_count_59 : decode cX4_count 59 = .ok (.ireturn, 1) := by decide +kernel
theorem dX4_count_60 : decode cX4_count 60 = .ok (.aload_n 0, 1) := by decide +kernel
theorem dX4_count_61 : decode cX4_count 61 = .ok (.getfield 21, 3) := by decide +kernel
theorem dX4_count_64 : decode cX4_count 64 = .ok (.invokevirtual 179, 3) := by decide +kernel
theorem dX4_count_67 : decode cX4_count 67 = .ok (.ireturn, 1) := by decide +kernel
theorem dX4_count_68 : decode cX4_count 68 = .ok (.aload_n 0, 1) := by decide +kernel
theorem dX4_count_69 : decode cX4_count 69 = .ok (.getfield 158, 3) := by decide +kernel
theorem dX4_count_72 : decode cX4_count 72 = .ok (.invokestatic 182, 3) := by decide +kernel
theorem dX4_count_75 : decode cX4_count 75 = .ok (.ireturn, 1) := by decide +kernel
theorem dX4_count_76 : decode cX4_count 76 = .ok (.sipush (-1002), 3) := by decide +kernel
theorem dX4_count_79 : decode cX4_count 79 = .ok (.ireturn, 1) := by decide +kernel
theorem dX4_restart_0 : decode cX4_restart 0 = .ok (.aload_n 0, 1) := by decide +kernel
theorem dX4_restart_1 : decode cX4_restart 1 = .ok (.getfield 12, 3) := by decide +kernel
theorem dX4_restart_4 : decode cX4_restart 4 = .ok (.iload_n 1, 1) := by decide +kernel
theorem dX4_restart_5 : decode cX4_restart 5 = .ok (.invokevirtual 187, 3) := by decide +kernel
theorem dX4_restart_8 : decode cX4_restart 8 = .ok (.aload_n 0, 1) := by decide +kernel
theorem dX4_restart_9 : decode cX4_restart 9 = .ok (.getfield 28, 3) := by decide +kernel
theorem dX4_restart_12 : decode cX4_restart 12 = .ok (.invokevirtual 190, 3) := by decide +kernel
theorem dX4_restart_15 : decode cX4_restart 15 = .ok (.aload_n 0, 1) := by decide +kernel
theorem dX4_restart_16 : decode cX4_restart 16 = .ok (.iconst 0, 1) := by decide +kernel
theorem dX4_restart_17 : decode cX4_restart 17 = .ok (.putfield 158, 3) := by decide +kernel
theorem dX4_restart_20 : decode cX4_restart 20 = .ok (.aload_n 0, 1) := by decide +kernel
theorem dX4_restart_21 : decode cX4_restart 21 = .ok (.invokevirtual 70, 3) := by decide +kernel
theorem dX4_restart_24 : decode cX4_restart 24 = .ok (.return_, 1) := by decide +kernel
theorem dX4_keepAct_0 : decode cX4_keepAct 0 = .ok (.aload_n 0, 1) := by decide +kernel
theorem dX4_keepAct_1 : decode cX4_keepAct 1 = .ok (.getfield 21, 3) := by decide +kernel
theorem dX4_keepAct_4 : decode cX4_keepAct 4 = .ok (.invokevirtual 192, 3) := by decide +kernel
theorem dX4_keepAct_7 : decode cX4_keepAct 7 = .ok (.aload_n 0, 1) := by decide +kernel
theorem dX4_keepAct_8 : decode cX4_keepAct 8 = .ok (.getfield 28, 3) := by decide +kernel
theorem dX4_keepAct_11 : decode cX4_keepAct 11 = .ok (.aload_n 0, 1) := by decide +kernel
theorem dX4_keepAct_12 : decode cX4_keepAct 12 = .ok (.getfield 21, 3) := by decide +kernel
theorem dX4_keepAct_15 : decode cX4_keepAct 15 = .ok (.invokevirtual 195, 3) := by decide +kernel
theorem dX4_keepAct_18 : decode cX4_keepAct 18 = .ok (.return_, 1) := by decide +kernel
theorem dX4_wouldSinkAt_0 : decode cX4_wouldSinkAt 0 = .ok (.aload_n 0, 1) := by decide +kernel
theorem dX4_wouldSinkAt_1 : decode cX4_wouldSinkAt 1 = .ok (.getfield 21, 3) := by decide +kernel
theorem dX4_wouldSinkAt_4 : decode cX4_wouldSinkAt 4 = .ok (.aload_n 0, 1) := by decide +kernel
theorem dX4_wouldSinkAt_5 : decode cX4_wouldSinkAt 5 = .ok (.getfield 12, 3) := by decide +kernel
theorem dX4_wouldSinkAt_8 : decode cX4_wouldSinkAt 8 = .ok (.getfield 95, 3) := by decide +kernel
theorem dX4_wouldSinkAt_11 : decode cX4_wouldSinkAt 11 = .ok (.iload_n 1, 1) := by decide +kernel
theorem dX4_wouldSinkAt_12 : decode cX4_wouldSinkAt 12 = .ok (.iaload, 1) := by decide +kernel
theorem dX4_wouldSinkAt_13 : decode cX4_wouldSinkAt 13 = .ok (.aload_n 0, 1) := by decide +kernel
theorem dX4_wouldSinkAt_14 : decode cX4_wouldSinkAt 14 = .ok (.getfield 12, 3) := by decide +kernel
theorem dX4_wouldSinkAt_17 : decode cX4_wouldSinkAt 17 = .ok (.getfield 98, 3) := by decide +kernel
theorem dX4_wouldSinkAt_20 : decode cX4_wouldSinkAt 20 = .ok (.iload_n 1, 1) := by decide +kernel
theorem dX4_wouldSinkAt_21 : decode cX4_wouldSinkAt 21 = .ok (.iaload, 1) := by decide +kernel
theorem dX4_wouldSinkAt_22 : decode cX4_wouldSinkAt 22 = .ok (.iload_n 2, 1) := by decide +kernel
theorem dX4_wouldSinkAt_23 : decode cX4_wouldSinkAt 23 = .ok (.aload_n 0, 1) := by decide +kernel
theorem dX4_wouldSinkAt_24 : decode cX4_wouldSinkAt 24 = .ok (.getfield 12, 3) := by decide +kernel
theorem dX4_wouldSinkAt_27 : decode cX4_wouldSinkAt 27 = .ok (.getfield 77, 3) := by decide +kernel
theorem dX4_wouldSinkAt_30 : decode cX4_wouldSinkAt 30 = .ok (.iload_n 1, 1) := by decide +kernel
theorem dX4_wouldSinkAt_31 : decode cX4_wouldSinkAt 31 = .ok (.baload, 1) := by decide +kernel
theorem dX4_wouldSinkAt_32 : decode cX4_wouldSinkAt 32 = .ok (.iload_n 1, 1) := by decide +kernel
theorem dX4_wouldSinkAt_33 : decode cX4_wouldSinkAt 33 = .ok (.invokevirtual 55, 3) := by decide +kernel
theorem dX4_wouldSinkAt_36 : decode cX4_wouldSinkAt 36 = .ok (.ireturn, 1) := by decide +kernel
theorem dX4_mayCost_0 : decode cX4_mayCost 0 = .ok (.iload_n 0, 1) := by decide +kernel
theorem dX4_mayCost_1 : decode cX4_mayCost 1 = .ok (.iload_n 1, 1) := by decide +kernel
theorem dX4_mayCost_2 : decode cX4_mayCost 2 = .ok (.ifCond .eq 7, 3) := by decide +kernel
theorem dX4_mayCost_5 : decode cX4_mayCost 5 = .ok (.iconst 0, 1) := by decide +kernel
theorem dX4_mayCost_6 : decode cX4_mayCost 6 = .ok (.goto 5, 3) := by decide +kernel
theorem dX4_mayCost_9 : decode cX4_mayCost 9 = .ok (.bipush (-50), 2) := by decide +kernel
theorem dX4_mayCost_11 : decode cX4_mayCost 11 = .ok (.if_icmp .lt 13, 3) := by decide +kernel
theorem dX4_mayCost_14 : decode cX4_mayCost 14 = .ok (.iload_n 0, 1) := by decide +kernel
theorem dX4_mayCost_15 : decode cX4_mayCost 15 = .ok (.bipush 99, 2) := by decide +kernel
theorem dX4_mayCost_17 : decode cX4_mayCost 17 = .ok (.if_icmp .gt 7, 3) := by decide +kernel
theorem dX4_mayCost_20 : decode cX4_mayCost 20 = .ok (.iconst 1, 1) := by decide +kernel
theorem dX4_mayCost_21 : decode cX4_mayCost 21 = .ok (.goto 4, 3) := by decide +kernel
theorem dX4_mayCost_24 : decode cX4_mayCost 24 = .ok (.iconst 0, 1) := by decide +kernel
theorem dX4_mayCost_25 : decode cX4_mayCost 25 = .ok (.ireturn, 1) := by decide +kernel
theorem dX4_asNumber_0 : decode cX4_asNumber 0 = .ok (.iload_n 0, 1) := by decide +kernel
theorem dX4_asNumber_1 : decode cX4_asNumber 1 = .ok (.ifCond .eq 7, 3) := by decide +kernel
theorem dX4_asNumber_4 : decode cX4_asNumber 4 = .ok (.iconst 1, 1) := by decide +kernel
theorem dX4_asNumber_5 : decode cX4_asNumber 5 = .ok (.goto 4, 3) := by decide +kernel
theorem dX4_asNumber_8 : decode cX4_asNumber 8 = .ok (.iconst 0, 1) := by decide +kernel
theorem dX4_asNumber_9 : decode cX4_asNumber 9 = .ok (.ireturn, 1) := by decide +kernel
theorem dX4_pairOf_0 : decode cX4_pairOf 0 = .ok (.iload_n 0, 1) := by decide +kernel
theorem dX4_pairOf_1 : decode cX4_pairOf 1 = .ok (.bipush 10, 2) := by decide +kernel
theorem dX4_pairOf_3 : decode cX4_pairOf 3 = .ok (.imul, 1) := by decide +kernel
theorem dX4_pairOf_4 : decode cX4_pairOf 4 = .ok (.iload_n 1, 1) := by decide +kernel
theorem dX4_pairOf_5 : decode cX4_pairOf 5 = .ok (.iadd, 1) := by decide +kernel
theorem dX4_pairOf_6 : decode cX4_pairOf 6 = .ok (.ireturn, 1) := by decide +kernel
theorem dJ6_bitCount_0f7a4_0 : decode cJ6_bitCount_0f7a4 0 = .ok (.iload_n 0, 1) := by decide +kernel
theorem dJ6_bitCount_0f7a4_1 : decode cJ6_bitCount_0f7a4 1 = .ok (.iload_n 0, 1) := by decide +kernel
theorem dJ6_bitCount_0f7a4_2 : decode cJ6_bitCount_0f7a4 2 = .ok (.iconst 1, 1) := by decide +kernel
theorem dJ6_bitCount_0f7a4_3 : decode cJ6_bitCount_0f7a4 3 = .ok (.iushr, 1) := by decide +kernel
theorem dJ6_bitCount_0f7a4_4 : decode cJ6_bitCount_0f7a4 4 = .ok (.ldc_w 265, 3) := by decide +kernel
theorem dJ6_bitCount_0f7a4_7 : decode cJ6_bitCount_0f7a4 7 = .ok (.iand, 1) := by decide +kernel
theorem dJ6_bitCount_0f7a4_8 : decode cJ6_bitCount_0f7a4 8 = .ok (.isub, 1) := by decide +kernel
theorem dJ6_bitCount_0f7a4_9 : decode cJ6_bitCount_0f7a4 9 = .ok (.istore_n 0, 1) := by decide +kernel
theorem dJ6_bitCount_0f7a4_10 : decode cJ6_bitCount_0f7a4 10 = .ok (.iload_n 0, 1) := by decide +kernel
theorem dJ6_bitCount_0f7a4_11 : decode cJ6_bitCount_0f7a4 11 = .ok (.ldc_w 266, 3) := by decide +kernel
theorem dJ6_bitCount_0f7a4_14 : decode cJ6_bitCount_0f7a4 14 = .ok (.iand, 1) := by decide +kernel
theorem dJ6_bitCount_0f7a4_15 : decode cJ6_bitCount_0f7a4 15 = .ok (.iload_n 0, 1) := by decide +kernel
theorem dJ6_bitCount_0f7a4_16 : decode cJ6_bitCount_0f7a4 16 = .ok (.iconst 2, 1) := by decide +kernel
theorem dJ6_bitCount_0f7a4_17 : decode cJ6_bitCount_0f7a4 17 = .ok (.iushr, 1) := by decide +kernel
theorem dJ6_bitCount_0f7a4_18 : decode cJ6_bitCount_0f7a4 18 = .ok (.ldc_w 266, 3) := by decide +kernel
theorem dJ6_bitCount_0f7a4_21 : decode cJ6_bitCount_0f7a4 21 = .ok (.iand, 1) := by decide +kernel
theorem dJ6_bitCount_0f7a4_22 : decode cJ6_bitCount_0f7a4 22 = .ok (.iadd, 1) := by decide +kernel
theorem dJ6_bitCount_0f7a4_23 : decode cJ6_bitCount_0f7a4 23 = .ok (.istore_n 0, 1) := by decide +kernel
theorem dJ6_bitCount_0f7a4_24 : decode cJ6_bitCount_0f7a4 24 = .ok (.iload_n 0, 1) := by decide +kernel
theorem dJ6_bitCount_0f7a4_25 : decode cJ6_bitCount_0f7a4 25 = .ok (.iload_n 0, 1) := by decide +kernel
theorem dJ6_bitCount_0f7a4_26 : decode cJ6_bitCount_0f7a4 26 = .ok (.iconst 4, 1) := by decide +kernel
theorem dJ6_bitCount_0f7a4_27 : decode cJ6_bitCount_0f7a4 27 = .ok (.iushr, 1) := by decide +kernel
theorem dJ6_bitCount_0f7a4_28 : decode cJ6_bitCount_0f7a4 28 = .ok (.iadd, 1) := by decide +kernel
theorem dJ6_bitCount_0f7a4_29 : decode cJ6_bitCount_0f7a4 29 = .ok (.ldc_w 267, 3) := by decide +kernel
theorem dJ6_bitCount_0f7a4_32 : decode cJ6_bitCount_0f7a4 32 = .ok (.iand, 1) := by decide +kernel
theorem dJ6_bitCount_0f7a4_33 : decode cJ6_bitCount_0f7a4 33 = .ok (.istore_n 0, 1) := by decide +kernel
theorem dJ6_bitCount_0f7a4_34 : decode cJ6_bitCount_0f7a4 34 = .ok (.iload_n 0, 1) := by decide +kernel
theorem dJ6_bitCount_0f7a4_35 : decode cJ6_bitCount_0f7a4 35 = .ok (.iload_n 0, 1) := by decide +kernel
theorem dJ6_bitCount_0f7a4_36 : decode cJ6_bitCount_0f7a4 36 = .ok (.bipush 8, 2) := by decide +kernel
theorem dJ6_bitCount_0f7a4_38 : decode cJ6_bitCount_0f7a4 38 = .ok (.iushr, 1) := by decide +kernel
theorem dJ6_bitCount_0f7a4_39 : decode cJ6_bitCount_0f7a4 39 = .ok (.iadd, 1) := by decide +kernel
theorem dJ6_bitCount_0f7a4_40 : decode cJ6_bitCount_0f7a4 40 = .ok (.istore_n 0, 1) := by decide +kernel
theorem dJ6_bitCount_0f7a4_41 : decode cJ6_bitCount_0f7a4 41 = .ok (.iload_n 0, 1) := by decide +kernel
theorem dJ6_bitCount_0f7a4_42 : decode cJ6_bitCount_0f7a4 42 = .ok (.iload_n 0, 1) := by decide +kernel
theorem dJ6_bitCount_0f7a4_43 : decode cJ6_bitCount_0f7a4 43 = .ok (.bipush 16, 2) := by decide +kernel
theorem dJ6_bitCount_0f7a4_45 : decode cJ6_bitCount_0f7a4 45 = .ok (.iushr, 1) := by decide +kernel
theorem dJ6_bitCount_0f7a4_46 : decode cJ6_bitCount_0f7a4 46 = .ok (.iadd, 1) := by decide +kernel
theorem dJ6_bitCount_0f7a4_47 : decode cJ6_bitCount_0f7a4 47 = .ok (.istore_n 0, 1) := by decide +kernel
theorem dJ6_bitCount_0f7a4_48 : decode cJ6_bitCount_0f7a4 48 = .ok (.iload_n 0, 1) := by decide +kernel
theorem dJ6_bitCount_0f7a4_49 : decode cJ6_bitCount_0f7a4 49 = .ok (.bipush 63, 2) := by decide +kernel
theorem dJ6_bitCount_0f7a4_51 : decode cJ6_bitCount_0f7a4 51 = .ok (.iand, 1) := by decide +kernel
theorem dJ6_bitCount_0f7a4_52 : decode cJ6_bitCount_0f7a4 52 = .ok (.ireturn, 1) := by decide +kernel
theorem dJ9_floorDiv_7cf53_0 : decode cJ9_floorDiv_7cf53 0 = .ok (.iload_n 0, 1) := by decide +kernel
theorem dJ9_floorDiv_7cf53_1 : decode cJ9_floorDiv_7cf53 1 = .ok (.iload_n 1, 1) := by decide +kernel
theorem dJ9_floorDiv_7cf53_2 : decode cJ9_floorDiv_7cf53 2 = .ok (.idiv, 1) := by decide +kernel
theorem dJ9_floorDiv_7cf53_3 : decode cJ9_floorDiv_7cf53 3 = .ok (.istore_n 2, 1) := by decide +kernel
theorem dJ9_floorDiv_7cf53_4 : decode cJ9_floorDiv_7cf53 4 = .ok (.iload_n 0, 1) := by decide +kernel
theorem dJ9_floorDiv_7cf53_5 : decode cJ9_floorDiv_7cf53 5 = .ok (.iload_n 1, 1) := by decide +kernel
theorem dJ9_floorDiv_7cf53_6 : decode cJ9_floorDiv_7cf53 6 = .ok (.ixor, 1) := by decide +kernel
theorem dJ9_floorDiv_7cf53_7 : decode cJ9_floorDiv_7cf53 7 = .ok (.ifCond .ge 14, 3) := by decide +kernel
theorem dJ9_floorDiv_7cf53_10 : decode cJ9_floorDiv_7cf53 10 = .ok (.iload_n 2, 1) := by decide +kernel
theorem dJ9_floorDiv_7cf53_11 : decode cJ9_floorDiv_7cf53 11 = .ok (.iload_n 1, 1) := by decide +kernel
theorem dJ9_floorDiv_7cf53_12 : decode cJ9_floorDiv_7cf53 12 = .ok (.imul, 1) := by decide +kernel
theorem dJ9_floorDiv_7cf53_13 : decode cJ9_floorDiv_7cf53 13 = .ok (.iload_n 0, 1) := by decide +kernel
theorem dJ9_floorDiv_7cf53_14 : decode cJ9_floorDiv_7cf53 14 = .ok (.if_icmp .eq 7, 3) := by decide +kernel
theorem dJ9_floorDiv_7cf53_17 : decode cJ9_floorDiv_7cf53 17 = .ok (.iload_n 2, 1) := by decide +kernel
theorem dJ9_floorDiv_7cf53_18 : decode cJ9_floorDiv_7cf53 18 = .ok (.iconst 1, 1) := by decide +kernel
theorem dJ9_floorDiv_7cf53_19 : decode cJ9_floorDiv_7cf53 19 = .ok (.isub, 1) := by decide +kernel
theorem dJ9_floorDiv_7cf53_20 : decode cJ9_floorDiv_7cf53 20 = .ok (.ireturn, 1) := by decide +kernel
theorem dJ9_floorDiv_7cf53_21 : decode cJ9_floorDiv_7cf53 21 = .ok (.iload_n 2, 1) := by decide +kernel
theorem dJ9_floorDiv_7cf53_22 : decode cJ9_floorDiv_7cf53 22 = .ok (.ireturn, 1) := by decide +kernel
theorem dJ9_floorMod_7cf53_0 : decode cJ9_floorMod_7cf53 0 = .ok (.iload_n 0, 1) := by decide +kernel
theorem dJ9_floorMod_7cf53_1 : decode cJ9_floorMod_7cf53 1 = .ok (.iload_n 1, 1) := by decide +kernel
theorem dJ9_floorMod_7cf53_2 : decode cJ9_floorMod_7cf53 2 = .ok (.irem, 1) := by decide +kernel
theorem dJ9_floorMod_7cf53_3 : decode cJ9_floorMod_7cf53 3 = .ok (.istore_n 2, 1) := by decide +kernel
theorem dJ9_floorMod_7cf53_4 : decode cJ9_floorMod_7cf53 4 = .ok (.iload_n 0, 1) := by decide +kernel
theorem dJ9_floorMod_7cf53_5 : decode cJ9_floorMod_7cf53 5 = .ok (.iload_n 1, 1) := by decide +kernel
theorem dJ9_floorMod_7cf53_6 : decode cJ9_floorMod_7cf53 6 = .ok (.ixor, 1) := by decide +kernel
theorem dJ9_floorMod_7cf53_7 : decode cJ9_floorMod_7cf53 7 = .ok (.ifCond .ge 11, 3) := by decide +kernel
theorem dJ9_floorMod_7cf53_10 : decode cJ9_floorMod_7cf53 10 = .ok (.iload_n 2, 1) := by decide +kernel
theorem dJ9_floorMod_7cf53_11 : decode cJ9_floorMod_7cf53 11 = .ok (.ifCond .eq 7, 3) := by decide +kernel
theorem dJ9_floorMod_7cf53_14 : decode cJ9_floorMod_7cf53 14 = .ok (.iload_n 2, 1) := by decide +kernel
theorem dJ9_floorMod_7cf53_15 : decode cJ9_floorMod_7cf53 15 = .ok (.iload_n 1, 1) := by decide +kernel
theorem dJ9_floorMod_7cf53_16 : decode cJ9_floorMod_7cf53 16 = .ok (.iadd, 1) := by decide +kernel
theorem dJ9_floorMod_7cf53_17 : decode cJ9_floorMod_7cf53 17 = .ok (.ireturn, 1) := by decide +kernel
theorem dJ9_floorMod_7cf53_18 : decode cJ9_floorMod_7cf53 18 = .ok (.iload_n 2, 1) := by decide +kernel
theorem dJ9_floorMod_7cf53_19 : decode cJ9_floorMod_7cf53 19 = .ok (.ireturn, 1) := by decide +kernel
theorem dJ9_max_7cf53_0 : decode cJ9_max_7cf53 0 = .ok (.iload_n 0, 1) := by decide +kernel
theorem dJ9_max_7cf53_1 : decode cJ9_max_7cf53 1 = .ok (.iload_n 1, 1) := by decide +kernel
theorem dJ9_max_7cf53_2 : decode cJ9_max_7cf53 2 = .ok (.if_icmp .lt 7, 3) := by decide +kernel
theorem dJ9_max_7cf53_5 : decode cJ9_max_7cf53 5 = .ok (.iload_n 0, 1) := by decide +kernel
theorem dJ9_max_7cf53_6 : decode cJ9_max_7cf53 6 = .ok (.goto 4, 3) := by decide +kernel
theorem dJ9_max_7cf53_9 : decode cJ9_max_7cf53 9 = .ok (.iload_n 1, 1) := by decide +kernel
theorem dJ9_max_7cf53_10 : decode cJ9_max_7cf53 10 = .ok (.ireturn, 1) := by decide +kernel
theorem dJ9_min_7cf53_0 : decode cJ9_min_7cf53 0 = .ok (.iload_n 0, 1) := by decide +kernel
theorem dJ9_min_7cf53_1 : decode cJ9_min_7cf53 1 = .ok (.iload_n 1, 1) := by decide +kernel
theorem dJ9_min_7cf53_2 : decode cJ9_min_7cf53 2 = .ok (.if_icmp .gt 7, 3) := by decide +kernel
theorem dJ9_min_7cf53_5 : decode cJ9_min_7cf53 5 = .ok (.iload_n 0, 1) := by decide +kernel
theorem dJ9_min_7cf53_6 : decode cJ9_min_7cf53 6 = .ok (.goto 4, 3) := by decide +kernel
theorem dJ9_min_7cf53_9 : decode cJ9_min_7cf53 9 = .ok (.iload_n 1, 1) := by decide +kernel
theorem dJ9_min_7cf53_10 : decode cJ9_min_7cf53 10 = .ok (.ireturn, 1) := by decide +kernel
theorem dJ7_fill_53178_0 : decode cJ7_fill_53178 0 = .ok (.iconst 0, 1) := by decide +kernel
theorem dJ7_fill_53178_1 : decode cJ7_fill_53178 1 = .ok (.istore_n 2, 1) := by decide +kernel
theorem dJ7_fill_53178_2 : decode cJ7_fill_53178 2 = .ok (.aload_n 0, 1) := by decide +kernel
theorem dJ7_fill_53178_3 : decode cJ7_fill_53178 3 = .ok (.arraylength, 1) := by decide +kernel
theorem dJ7_fill_53178_4 : decode cJ7_fill_53178 4 = .ok (.istore_n 3, 1) := by decide +kernel
theorem dJ7_fill_53178_5 : decode cJ7_fill_53178 5 = .ok (.iload_n 2, 1) := by decide +kernel
theorem dJ7_fill_53178_6 : decode cJ7_fill_53178 6 = .ok (.iload_n 3, 1) := by decide +kernel
theorem dJ7_fill_53178_7 : decode cJ7_fill_53178 7 = .ok (.if_icmp .ge 13, 3) := by decide +kernel
theorem dJ7_fill_53178_10 : decode cJ7_fill_53178 10 = .ok (.aload_n 0, 1) := by decide +kernel
theorem dJ7_fill_53178_11 : decode cJ7_fill_53178 11 = .ok (.iload_n 2, 1) := by decide +kernel
theorem dJ7_fill_53178_12 : decode cJ7_fill_53178 12 = .ok (.iload_n 1, 1) := by decide +kernel
theorem dJ7_fill_53178_13 : decode cJ7_fill_53178 13 = .ok (.iastore, 1) := by decide +kernel
theorem dJ7_fill_53178_14 : decode cJ7_fill_53178 14 = .ok (.iinc 2 1, 3) := by decide +kernel
theorem dJ7_fill_53178_17 : decode cJ7_fill_53178 17 = .ok (.goto (-12), 3) := by decide +kernel
theorem dJ7_fill_53178_20 : decode cJ7_fill_53178 20 = .ok (.return_, 1) := by decide +kernel
theorem dJ7_copyOf_59c91_0 : decode cJ7_copyOf_59c91 0 = .ok (.iload_n 1, 1) := by decide +kernel
theorem dJ7_copyOf_59c91_1 : decode cJ7_copyOf_59c91 1 = .ok (.aload_n 0, 1) := by decide +kernel
theorem dJ7_copyOf_59c91_2 : decode cJ7_copyOf_59c91 2 = .ok (.arraylength, 1) := by decide +kernel
theorem dJ7_copyOf_59c91_3 : decode cJ7_copyOf_59c91 3 = .ok (.if_icmp .ne 11, 3) := by decide +kernel
theorem dJ7_copyOf_59c91_6 : decode cJ7_copyOf_59c91 6 = .ok (.aload_n 0, 1) := by decide +kernel
theorem dJ7_copyOf_59c91_7 : decode cJ7_copyOf_59c91 7 = .ok (.invokevirtual 316, 3) := by decide +kernel
theorem dJ7_copyOf_59c91_10 : decode cJ7_copyOf_59c91 10 = .ok (.checkcast 317, 3) := by decide +kernel
theorem dJ7_copyOf_59c91_13 : decode cJ7_copyOf_59c91 13 = .ok (.areturn, 1) := by decide +kernel
theorem dJ7_copyOf_59c91_14 : decode cJ7_copyOf_59c91 14 = .ok (.iload_n 1, 1) := by decide +kernel
theorem dJ7_copyOf_59c91_15 : decode cJ7_copyOf_59c91 15 = .ok (.newarray .int, 2) := by decide +kernel
theorem dJ7_copyOf_59c91_17 : decode cJ7_copyOf_59c91 17 = .ok (.astore_n 2, 1) := by decide +kernel
theorem dJ7_copyOf_59c91_18 : decode cJ7_copyOf_59c91 18 = .ok (.aload_n 0, 1) := by decide +kernel
theorem dJ7_copyOf_59c91_19 : decode cJ7_copyOf_59c91 19 = .ok (.iconst 0, 1) := by decide +kernel
theorem dJ7_copyOf_59c91_20 : decode cJ7_copyOf_59c91 20 = .ok (.aload_n 2, 1) := by decide +kernel
theorem dJ7_copyOf_59c91_21 : decode cJ7_copyOf_59c91 21 = .ok (.iconst 0, 1) := by decide +kernel
theorem dJ7_copyOf_59c91_22 : decode cJ7_copyOf_59c91 22 = .ok (.aload_n 0, 1) := by decide +kernel
theorem dJ7_copyOf_59c91_23 : decode cJ7_copyOf_59c91 23 = .ok (.arraylength, 1) := by decide +kernel
theorem dJ7_copyOf_59c91_24 : decode cJ7_copyOf_59c91 24 = .ok (.iload_n 1, 1) := by decide +kernel
theorem dJ7_copyOf_59c91_25 : decode cJ7_copyOf_59c91 25 = .ok (.invokestatic 304, 3) := by decide +kernel
theorem dJ7_copyOf_59c91_28 : decode cJ7_copyOf_59c91 28 = .ok (.invokestatic 150, 3) := by decide +kernel
theorem dJ7_copyOf_59c91_31 : decode cJ7_copyOf_59c91 31 = .ok (.aload_n 2, 1) := by decide +kernel
theorem dJ7_copyOf_59c91_32 : decode cJ7_copyOf_59c91 32 = .ok (.areturn, 1) := by decide +kernel
theorem dX5_init_0 : decode cX5_init 0 = .ok (.aload_n 0, 1) := by decide +kernel
theorem dX5_init_1 : decode cX5_init 1 = .ok (.invokespecial 1, 3) := by decide +kernel
theorem dX5_init_4 : decode cX5_init 4 = .ok (.aload_n 0, 1) := by decide +kernel
theorem dX5_init_5 : decode cX5_init 5 = .ok (.iconst 2, 1) := by decide +kernel
theorem dX5_init_6 : decode cX5_init 6 = .ok (.putfield 7, 3) := by decide +kernel
theorem dX5_init_9 : decode cX5_init 9 = .ok (.aload_n 0, 1) := by decide +kernel
theorem dX5_init_10 : decode cX5_init 10 = .ok (.bipush 40, 2) := by decide +kernel
theorem dX5_init_12 : decode cX5_init 12 = .ok (.newarray .int, 2) := by decide +kernel
theorem dX5_init_14 : decode cX5_init 14 = .ok (.putfield 13, 3) := by decide +kernel
theorem dX5_init_17 : decode cX5_init 17 = .ok (.aload_n 0, 1) := by decide +kernel
theorem dX5_init_18 : decode cX5_init 18 = .ok (.bipush 40, 2) := by decide +kernel
theorem dX5_init_20 : decode cX5_init 20 = .ok (.newarray .int, 2) := by decide +kernel
theorem dX5_init_22 : decode cX5_init 22 = .ok (.putfield 17, 3) := by decide +kernel
theorem dX5_init_25 : decode cX5_init 25 = .ok (.aload_n 0, 1) := by decide +kernel
theorem dX5_init_26 : decode cX5_init 26 = .ok (.bipush 40, 2) := by decide +kernel
theorem dX5_init_28 : decode cX5_init 28 = .ok (.newarray .int, 2) := by decide +kernel
theorem dX5_init_30 : decode cX5_init 30 = .ok (.putfield 20, 3) := by decide +kernel
theorem dX5_init_33 : decode cX5_init 33 = .ok (.aload_n 0, 1) := by decide +kernel
theorem dX5_init_34 : decode cX5_init 34 = .ok (.bipush 40, 2) := by decide +kernel
theorem dX5_init_36 : decode cX5_init 36 = .ok (.newarray .boolean, 2) := by decide +kernel
theorem dX5_init_38 : decode cX5_init 38 = .ok (.putfield 23, 3) := by decide +kernel
theorem dX5_init_41 : decode cX5_init 41 = .ok (.aload_n 0, 1) := by decide +kernel
theorem dX5_init_42 : decode cX5_init 42 = .ok (.bipush 40, 2) := by decide +kernel
theorem dX5_init_44 : decode cX5_init 44 = .ok (.newarray .boolean, 2) := by decide +kernel
theorem dX5_init_46 : decode cX5_init 46 = .ok (.putfield 27, 3) := by decide +kernel
theorem dX5_init_49 : decode cX5_init 49 = .ok (.aload_n 0, 1) := by decide +kernel
theorem dX5_init_50 : decode cX5_init 50 = .ok (.bipush 100, 2) := by decide +kernel
theorem dX5_init_52 : decode cX5_init 52 = .ok (.newarray .int, 2) := by decide +kernel
theorem dX5_init_54 : decode cX5_init 54 = .ok (.putfield 30, 3) := by decide +kernel
theorem dX5_init_57 : decode cX5_init 57 = .ok (.aload_n 0, 1) := by decide +kernel
theorem dX5_init_58 : decode cX5_init 58 = .ok (.ldc 33, 2) := by decide +kernel
theorem dX5_init_60 : decode cX5_init 60 = .ok (.newarray .int, 2) := by decide +kernel
theorem dX5_init_62 : decode cX5_init 62 = .ok (.putfield 34, 3) := by decide +kernel
theorem dX5_init_65 : decode cX5_init 65 = .ok (.aload_n 0, 1) := by decide +kernel
theorem dX5_init_66 : decode cX5_init 66 = .ok (.bipush 100, 2) := by decide +kernel
theorem dX5_init_68 : decode cX5_init 68 = .ok (.newarray .int, 2) := by decide +kernel
theorem dX5_init_70 : decode cX5_init 70 = .ok (.putfield 37, 3) := by decide +kernel
theorem dX5_init_73 : decode cX5_init 73 = .ok (.aload_n 0, 1) := by decide +kernel
theorem dX5_init_74 : decode cX5_init 74 = .ok (.sipush (-1000), 3) := by decide +kernel
theorem dX5_init_77 : decode cX5_init 77 = .ok (.sipush (-1000), 3) := by decide +kernel
theorem dX5_init_80 : decode cX5_init 80 = .ok (.invokevirtual 40, 3) := by decide +kernel
theorem dX5_init_83 : decode cX5_init 83 = .ok (.pop, 1) := by decide +kernel
theorem dX5_init_84 : decode cX5_init 84 = .ok (.aload_n 0, 1) := by decide +kernel
theorem dX5_init_85 : decode cX5_init 85 = .ok (.invokevirtual 44, 3) := by decide +kernel
theorem dX5_init_88 : decode cX5_init 88 = .ok (.return_, 1) := by decide +kernel
theorem dX5_in_0 : decode cX5_in 0 = .ok (.lload_n 0, 1) := by decide +kernel
theorem dX5_in_1 : decode cX5_in 1 = .ok (.lload_n 2, 1) := by decide +kernel
theorem dX5_in_2 : decode cX5_in 2 = .ok (.lcmp, 1) := by decide +kernel
theorem dX5_in_3 : decode cX5_in 3 = .ok (.ifCond .lt 14, 3) := by decide +kernel
theorem dX5_in_6 : decode cX5_in 6 = .ok (.lload_n 0, 1) := by decide +kernel
theorem dX5_in_7 : decode cX5_in 7 = .ok (.lload 4, 2) := by decide +kernel
theorem dX5_in_9 : decode cX5_in 9 = .ok (.lcmp, 1) := by decide +kernel
theorem dX5_in_10 : decode cX5_in 10 = .ok (.ifCond .gt 7, 3) := by decide +kernel
theorem dX5_in_13 : decode cX5_in 13 = .ok (.iconst 1, 1) := by decide +kernel
theorem dX5_in_14 : decode cX5_in 14 = .ok (.goto 4, 3) := by decide +kernel
theorem dX5_in_17 : decode cX5_in 17 = .ok (.iconst 0, 1) := by decide +kernel
theorem dX5_in_18 : decode cX5_in 18 = .ok (.ireturn, 1) := by decide +kernel
theorem dX5_noPost_0 : decode cX5_noPost 0 = .ok (.iload_n 1, 1) := by decide +kernel
theorem dX5_noPost_1 : decode cX5_noPost 1 = .ok (.i2l, 1) := by decide +kernel
theorem dX5_noPost_2 : decode cX5_noPost 2 = .ok (.lconst 0, 1) := by decide +kernel
theorem dX5_noPost_3 : decode cX5_noPost 3 = .ok (.aload_n 0, 1) := by decide +kernel
theorem dX5_noPost_4 : decode cX5_noPost 4 = .ok (.getfield 7, 3) := by decide +kernel
theorem dX5_noPost_7 : decode cX5_noPost 7 = .ok (.iconst 1, 1) := by decide +kernel
theorem dX5_noPost_8 : decode cX5_noPost 8 = .ok (.isub, 1) := by decide +kernel
theorem dX5_noPost_9 : decode cX5_noPost 9 = .ok (.i2l, 1) := by decide +kernel
theorem dX5_noPost_10 : decode cX5_noPost 10 = .ok (.invokestatic 50, 3) := by decide +kernel
theorem dX5_noPost_13 : decode cX5_noPost 13 = .ok (.ifCond .ne 7, 3) := by decide +kernel
theorem dX5_noPost_16 : decode cX5_noPost 16 = .ok (.iconst 1, 1) := by decide +kernel
theorem dX5_noPost_17 : decode cX5_noPost 17 = .ok (.goto 4, 3) := by decide +kernel
theorem dX5_noPost_20 : decode cX5_noPost 20 = .ok (.iconst 0, 1) := by decide +kernel
theorem dX5_noPost_21 : decode cX5_noPost 21 = .ok (.ireturn, 1) := by decide +kernel
theorem dX5_noLine_0 : decode cX5_noLine 0 = .ok (.iload_n 1, 1) := by decide +kernel
theorem dX5_noLine_1 : decode cX5_noLine 1 = .ok (.i2l, 1) := by decide +kernel
theorem dX5_noLine_2 : decode cX5_noLine 2 = .ok (.lconst 0, 1) := by decide +kernel
theorem dX5_noLine_3 : decode cX5_noLine 3 = .ok (.aload_n 0, 1) := by decide +kernel
theorem dX5_noLine_4 : decode cX5_noLine 4 = .ok (.getfield 54, 3) := by decide +kernel
theorem dX5_noLine_7 : decode cX5_noLine 7 = .ok (.iconst 1, 1) := by decide +kernel
theorem dX5_noLine_8 : decode cX5_noLine 8 = .ok (.isub, 1) := by decide +kernel
theorem dX5_noLine_9 : decode cX5_noLine 9 = .ok (.i2l, 1) := by decide +kernel
theorem dX5_noLine_10 : decode cX5_noLine 10 = .ok (.invokestatic 50, 3) := by decide +kernel
theorem dX5_noLine_13 : decode cX5_noLine 13 = .ok (.ifCond .ne 7, 3) := by decide +kernel
theorem dX5_noLine_16 : decode cX5_noLine 16 = .ok (.iconst 1, 1) := by decide +kernel
theorem dX5_noLine_17 : decode cX5_noLine 17 = .ok (.goto 4, 3) := by decide +kernel
theorem dX5_noLine_20 : decode cX5_noLine 20 = .ok (.iconst 0, 1) := by decide +kernel
theorem dX5_noLine_21 : decode cX5_noLine 21 = .ok (.ireturn, 1) := by decide +kernel
theorem dX5_learn_0 : decode cX5_learn 0 = .ok (.iconst 0, 1) := by decide +kernel
theorem dX5_learn_1 : decode cX5_learn 1 = .ok (.istore_n 3, 1) := by decide +kernel
theorem dX5_learn_2 : decode cX5_learn 2 = .ok (.iload_n 3, 1) := by decide +kernel
theorem dX5_learn_3 : decode cX5_learn 3 = .ok (.bipush 100, 2) := by decide +kernel
theorem dX5_learn_5 : decode cX5_learn 5 = .ok (.if_icmp .ge 32, 3) := by decide +kernel
theorem dX5_learn_8 : decode cX5_learn 8 = .ok (.aload_n 0, 1) := by decide +kernel
theorem dX5_learn_9 : decode cX5_learn 9 = .ok (.getfield 30, 3) := by decide +kernel
theorem dX5_learn_12 : decode cX5_learn 12 = .ok (.iload_n 3, 1) := by decide +kernel
theorem dX5_learn_13 : decode cX5_learn 13 = .ok (.iload_n 3, 1) := by decide +kernel
theorem dX5_learn_14 : decode cX5_learn 14 = .ok (.bipush 10, 2) := by decide +kernel
theorem dX5_learn_16 : decode cX5_learn 16 = .ok (.idiv, 1) := by decide +kernel
theorem dX5_learn_17 : decode cX5_learn 17 = .ok (.iload_n 3, 1) := by decide +kernel
theorem dX5_learn_18 : decode cX5_learn 18 = .ok (.bipush 10, 2) := by decide +kernel
theorem dX5_learn_20 : decode cX5_learn 20 = .ok (.irem, 1) := by decide +kernel
theorem dX5_learn_21 : decode cX5_learn 21 = .ok (.if_icmp .ne 7, 3) := by decide +kernel
theorem dX5_learn_24 : decode cX5_learn 24 = .ok (.iconst 0, 1) := by decide +kernel
theorem dX5_learn_25 : decode cX5_learn 25 = .ok (.goto 5, 3) := by decide +kernel
theorem dX5_learn_28 : decode cX5_learn 28 = .ok (.ldc 57, 2) := by decide +kernel
theorem dX5_learn_30 : decode cX5_learn 30 = .ok (.iastore, 1) := by decide +kernel
theorem dX5_learn_31 : decode cX5_learn 31 = .ok (.iinc 3 1, 3) := by decide +kernel
theorem dX5_learn_34 : decode cX5_learn 34 = .ok (.goto (-32), 3) := by decide +kernel
theorem dX5_learn_37 : decode cX5_learn 37 = .ok (.iconst 0, 1) := by decide +kernel
theorem dX5_learn_38 : decode cX5_learn 38 = .ok (.istore_n 3, 1) := by decide +kernel
theorem dX5_learn_39 : decode cX5_learn 39 = .ok (.iload_n 3, 1) := by decide +kernel
theorem dX5_learn_40 : decode cX5_learn 40 = .ok (.aload_n 0, 1) := by decide +kernel
theorem dX5_learn_41 : decode cX5_learn 41 = .ok (.getfield 54, 3) := by decide +kernel
theorem dX5_learn_44 : decode cX5_learn 44 = .ok (.if_icmp .ge 163, 3) := by decide +kernel
theorem dX5_learn_47 : decode cX5_learn 47 = .ok (.aload_n 0, 1) := by decide +kernel
theorem dX5_learn_48 : decode cX5_learn 48 = .ok (.getfield 27, 3) := by decide +kernel
theorem dX5_learn_51 : decode cX5_learn 51 = .ok (.iload_n 3, 1) := by decide +kernel
theorem dX5_learn_52 : decode cX5_learn 52 = .ok (.baload, 1) := by decide +kernel
theorem dX5_learn_53 : decode cX5_learn 53 = .ok (.ifCond .eq 148, 3) := by decide +kernel
theorem dX5_learn_56 : decode cX5_learn 56 = .ok (.iload_n 3, 1) := by decide +kernel
theorem dX5_learn_57 : decode cX5_learn 57 = .ok (.iload_n 1, 1) := by decide +kernel
theorem dX5_learn_58 : decode cX5_learn 58 = .ok (.if_icmp .eq 143, 3) := by decide +kernel
theorem dX5_learn_61 : decode cX5_learn 61 = .ok (.aload_n 0, 1) := by decide +kernel
theorem dX5_learn_62 : decode cX5_learn 62 = .ok (.getfield 13, 3) := by decide +kernel
theorem dX5_learn_65 : decode cX5_learn 65 = .ok (.iload_n 3, 1) := by decide +kernel
theorem dX5_learn_66 : decode cX5_learn 66 = .ok (.iaload, 1) := by decide +kernel
end
section
theorem dX5_learn_67 : decode cX5_learn 67 = .ok (.iload_n 2, 1) := by decide +kernel
theorem dX5_learn_68 : decode cX5_learn 68 = .ok (.if_icmp .eq 133, 3) := by decide +kernel
theorem dX5_learn_71 : decode cX5_learn 71 = .ok (.aload_n 0, 1) := by decide +kernel
theorem dX5_learn_72 : decode cX5_learn 72 = .ok (.getfield 17, 3) := by decide +kernel
theorem dX5_learn_75 : decode cX5_learn 75 = .ok (.iload_n 3, 1) := by decide +kernel
theorem dX5_learn_76 : decode cX5_learn 76 = .ok (.iaload, 1) := by decide +kernel
theorem dX5_learn_77 : decode cX5_learn 77 = .ok (.iload_n 2, 1) := by decide +kernel
theorem dX5_learn_78 : decode cX5_learn 78 = .ok (.if_icmp .eq 123, 3) := by decide +kernel
theorem dX5_learn_81 : decode cX5_learn 81 = .ok (.bipush 64, 2) := by decide +kernel
theorem dX5_learn_83 : decode cX5_learn 83 = .ok (.aload_n 0, 1) := by decide +kernel
theorem dX5_learn_84 : decode cX5_learn 84 = .ok (.getfield 20, 3) := by decide +kernel
theorem dX5_learn_87 : decode cX5_learn 87 = .ok (.iload_n 3, 1) := by decide +kernel
theorem dX5_learn_88 : decode cX5_learn 88 = .ok (.iaload, 1) := by decide +kernel
theorem dX5_learn_89 : decode cX5_learn 89 = .ok (.imul, 1) := by decide +kernel
theorem dX5_learn_90 : decode cX5_learn 90 = .ok (.iconst 1, 1) := by decide +kernel
theorem dX5_learn_91 : decode cX5_learn 91 = .ok (.iadd, 1) := by decide +kernel
theorem dX5_learn_92 : decode cX5_learn 92 = .ok (.istore 4, 2) := by decide +kernel
theorem dX5_learn_94 : decode cX5_learn 94 = .ok (.bipush 10, 2) := by decide +kernel
theorem dX5_learn_96 : decode cX5_learn 96 = .ok (.aload_n 0, 1) := by decide +kernel
theorem dX5_learn_97 : decode cX5_learn 97 = .ok (.getfield 13, 3) := by decide +kernel
theorem dX5_learn_100 : decode cX5_learn 100 = .ok (.iload_n 3, 1) := by decide +kernel
theorem dX5_learn_101 : decode cX5_learn 101 = .ok (.iaload, 1) := by decide +kernel
theorem dX5_learn_102 : decode cX5_learn 102 = .ok (.imul, 1) := by decide +kernel
theorem dX5_learn_103 : decode cX5_learn 103 = .ok (.aload_n 0, 1) := by decide +kernel
theorem dX5_learn_104 : decode cX5_learn 104 = .ok (.getfield 17, 3) := by decide +kernel
theorem dX5_learn_107 : decode cX5_learn 107 = .ok (.iload_n 3, 1) := by decide +kernel
theorem dX5_learn_108 : decode cX5_learn 108 = .ok (.iaload, 1) := by decide +kernel
theorem dX5_learn_109 : decode cX5_learn 109 = .ok (.iadd, 1) := by decide +kernel
theorem dX5_learn_110 : decode cX5_learn 110 = .ok (.istore 5, 2) := by decide +kernel
theorem dX5_learn_112 : decode cX5_learn 112 = .ok (.aload_n 0, 1) := by decide +kernel
theorem dX5_learn_113 : decode cX5_learn 113 = .ok (.getfield 30, 3) := by decide +kernel
theorem dX5_learn_116 : decode cX5_learn 116 = .ok (.iload 5, 2) := by decide +kernel
theorem dX5_learn_118 : decode cX5_learn 118 = .ok (.iload 4, 2) := by decide +kernel
theorem dX5_learn_120 : decode cX5_learn 120 = .ok (.aload_n 0, 1) := by decide +kernel
theorem dX5_learn_121 : decode cX5_learn 121 = .ok (.getfield 30, 3) := by decide +kernel
theorem dX5_learn_124 : decode cX5_learn 124 = .ok (.iload 5, 2) := by decide +kernel
theorem dX5_learn_126 : decode cX5_learn 126 = .ok (.iaload, 1) := by decide +kernel
theorem dX5_learn_127 : decode cX5_learn 127 = .ok (.if_icmp .ge 8, 3) := by decide +kernel
theorem dX5_learn_130 : decode cX5_learn 130 = .ok (.iload 4, 2) := by decide +kernel
theorem dX5_learn_132 : decode cX5_learn 132 = .ok (.goto 10, 3) := by decide +kernel
theorem dX5_learn_135 : decode cX5_learn 135 = .ok (.aload_n 0, 1) := by decide +kernel
theorem dX5_learn_136 : decode cX5_learn 136 = .ok (.getfield 30, 3) := by decide +kernel
theorem dX5_learn_139 : decode cX5_learn 139 = .ok (.iload 5, 2) := by decide +kernel
theorem dX5_learn_141 : decode cX5_learn 141 = .ok (.iaload, 1) := by decide +kernel
theorem dX5_learn_142 : decode cX5_learn 142 = .ok (.iastore, 1) := by decide +kernel
theorem dX5_learn_143 : decode cX5_learn 143 = .ok (.bipush 10, 2) := by decide +kernel
theorem dX5_learn_145 : decode cX5_learn 145 = .ok (.aload_n 0, 1) := by decide +kernel
theorem dX5_learn_146 : decode cX5_learn 146 = .ok (.getfield 17, 3) := by decide +kernel
theorem dX5_learn_149 : decode cX5_learn 149 = .ok (.iload_n 3, 1) := by decide +kernel
theorem dX5_learn_150 : decode cX5_learn 150 = .ok (.iaload, 1) := by decide +kernel
theorem dX5_learn_151 : decode cX5_learn 151 = .ok (.imul, 1) := by decide +kernel
theorem dX5_learn_152 : decode cX5_learn 152 = .ok (.aload_n 0, 1) := by decide +kernel
theorem dX5_learn_153 : decode cX5_learn 153 = .ok (.getfield 13, 3) := by decide +kernel
theorem dX5_learn_156 : decode cX5_learn 156 = .ok (.iload_n 3, 1) := by decide +kernel
theorem dX5_learn_157 : decode cX5_learn 157 = .ok (.iaload, 1) := by decide +kernel
theorem dX5_learn_158 : decode cX5_learn 158 = .ok (.iadd, 1) := by decide +kernel
theorem dX5_learn_159 : decode cX5_learn 159 = .ok (.istore 5, 2) := by decide +kernel
theorem dX5_learn_161 : decode cX5_learn 161 = .ok (.aload_n 0, 1) := by decide +kernel
theorem dX5_learn_162 : decode cX5_learn 162 = .ok (.getfield 30, 3) := by decide +kernel
theorem dX5_learn_165 : decode cX5_learn 165 = .ok (.iload 5, 2) := by decide +kernel
theorem dX5_learn_167 : decode cX5_learn 167 = .ok (.aload_n 0, 1) := by decide +kernel
theorem dX5_learn_168 : decode cX5_learn 168 = .ok (.getfield 23, 3) := by decide +kernel
theorem dX5_learn_171 : decode cX5_learn 171 = .ok (.iload_n 3, 1) := by decide +kernel
theorem dX5_learn_172 : decode cX5_learn 172 = .ok (.baload, 1) := by decide +kernel
theorem dX5_learn_173 : decode cX5_learn 173 = .ok (.ifCond .eq 20, 3) := by decide +kernel
theorem dX5_learn_176 : decode cX5_learn 176 = .ok (.iload 4, 2) := by decide +kernel
theorem dX5_learn_178 : decode cX5_learn 178 = .ok (.aload_n 0, 1) := by decide +kernel
theorem dX5_learn_179 : decode cX5_learn 179 = .ok (.getfield 30, 3) := by decide +kernel
theorem dX5_learn_182 : decode cX5_learn 182 = .ok (.iload 5, 2) := by decide +kernel
theorem dX5_learn_184 : decode cX5_learn 184 = .ok (.iaload, 1) := by decide +kernel
theorem dX5_learn_185 : decode cX5_learn 185 = .ok (.if_icmp .ge 8, 3) := by decide +kernel
theorem dX5_learn_188 : decode cX5_learn 188 = .ok (.iload 4, 2) := by decide +kernel
theorem dX5_learn_190 : decode cX5_learn 190 = .ok (.goto 10, 3) := by decide +kernel
theorem dX5_learn_193 : decode cX5_learn 193 = .ok (.aload_n 0, 1) := by decide +kernel
theorem dX5_learn_194 : decode cX5_learn 194 = .ok (.getfield 30, 3) := by decide +kernel
theorem dX5_learn_197 : decode cX5_learn 197 = .ok (.iload 5, 2) := by decide +kernel
theorem dX5_learn_199 : decode cX5_learn 199 = .ok (.iaload, 1) := by decide +kernel
theorem dX5_learn_200 : decode cX5_learn 200 = .ok (.iastore, 1) := by decide +kernel
theorem dX5_learn_201 : decode cX5_learn 201 = .ok (.iinc 3 1, 3) := by decide +kernel
theorem dX5_learn_204 : decode cX5_learn 204 = .ok (.goto (-165), 3) := by decide +kernel
theorem dX5_learn_207 : decode cX5_learn 207 = .ok (.iconst 1, 1) := by decide +kernel
theorem dX5_learn_208 : decode cX5_learn 208 = .ok (.istore_n 3, 1) := by decide +kernel
theorem dX5_learn_209 : decode cX5_learn 209 = .ok (.iconst 0, 1) := by decide +kernel
theorem dX5_learn_210 : decode cX5_learn 210 = .ok (.istore 4, 2) := by decide +kernel
theorem dX5_learn_212 : decode cX5_learn 212 = .ok (.iload 4, 2) := by decide +kernel
theorem dX5_learn_214 : decode cX5_learn 214 = .ok (.aload_n 0, 1) := by decide +kernel
theorem dX5_learn_215 : decode cX5_learn 215 = .ok (.getfield 7, 3) := by decide +kernel
theorem dX5_learn_218 : decode cX5_learn 218 = .ok (.if_icmp .ge 217, 3) := by decide +kernel
theorem dX5_learn_221 : decode cX5_learn 221 = .ok (.iconst 0, 1) := by decide +kernel
theorem dX5_learn_222 : decode cX5_learn 222 = .ok (.istore 5, 2) := by decide +kernel
theorem dX5_learn_224 : decode cX5_learn 224 = .ok (.iload 5, 2) := by decide +kernel
theorem dX5_learn_226 : decode cX5_learn 226 = .ok (.aload_n 0, 1) := by decide +kernel
theorem dX5_learn_227 : decode cX5_learn 227 = .ok (.getfield 7, 3) := by decide +kernel
theorem dX5_learn_230 : decode cX5_learn 230 = .ok (.if_icmp .ge 141, 3) := by decide +kernel
theorem dX5_learn_233 : decode cX5_learn 233 = .ok (.iconst 0, 1) := by decide +kernel
theorem dX5_learn_234 : decode cX5_learn 234 = .ok (.istore 6, 2) := by decide +kernel
theorem dX5_learn_236 : decode cX5_learn 236 = .ok (.iload 6, 2) := by decide +kernel
theorem dX5_learn_238 : decode cX5_learn 238 = .ok (.aload_n 0, 1) := by decide +kernel
theorem dX5_learn_239 : decode cX5_learn 239 = .ok (.getfield 7, 3) := by decide +kernel
theorem dX5_learn_242 : decode cX5_learn 242 = .ok (.if_icmp .ge 123, 3) := by decide +kernel
theorem dX5_learn_245 : decode cX5_learn 245 = .ok (.aload_n 0, 1) := by decide +kernel
theorem dX5_learn_246 : decode cX5_learn 246 = .ok (.getfield 30, 3) := by decide +kernel
theorem dX5_learn_249 : decode cX5_learn 249 = .ok (.bipush 10, 2) := by decide +kernel
theorem dX5_learn_251 : decode cX5_learn 251 = .ok (.iload 5, 2) := by decide +kernel
theorem dX5_learn_253 : decode cX5_learn 253 = .ok (.imul, 1) := by decide +kernel
theorem dX5_learn_254 : decode cX5_learn 254 = .ok (.iload 4, 2) := by decide +kernel
theorem dX5_learn_256 : decode cX5_learn 256 = .ok (.iadd, 1) := by decide +kernel
theorem dX5_learn_257 : decode cX5_learn 257 = .ok (.iaload, 1) := by decide +kernel
theorem dX5_learn_258 : decode cX5_learn 258 = .ok (.ldc 57, 2) := by decide +kernel
theorem dX5_learn_260 : decode cX5_learn 260 = .ok (.if_icmp .ge 99, 3) := by decide +kernel
theorem dX5_learn_263 : decode cX5_learn 263 = .ok (.aload_n 0, 1) := by decide +kernel
theorem dX5_learn_264 : decode cX5_learn 264 = .ok (.getfield 30, 3) := by decide +kernel
theorem dX5_learn_267 : decode cX5_learn 267 = .ok (.bipush 10, 2) := by decide +kernel
theorem dX5_learn_269 : decode cX5_learn 269 = .ok (.iload 4, 2) := by decide +kernel
theorem dX5_learn_271 : decode cX5_learn 271 = .ok (.imul, 1) := by decide +kernel
theorem dX5_learn_272 : decode cX5_learn 272 = .ok (.iload 6, 2) := by decide +kernel
theorem dX5_learn_274 : decode cX5_learn 274 = .ok (.iadd, 1) := by decide +kernel
theorem dX5_learn_275 : decode cX5_learn 275 = .ok (.iaload, 1) := by decide +kernel
theorem dX5_learn_276 : decode cX5_learn 276 = .ok (.ldc 57, 2) := by decide +kernel
theorem dX5_learn_278 : decode cX5_learn 278 = .ok (.if_icmp .ge 81, 3) := by decide +kernel
theorem dX5_learn_281 : decode cX5_learn 281 = .ok (.aload_n 0, 1) := by decide +kernel
theorem dX5_learn_282 : decode cX5_learn 282 = .ok (.getfield 30, 3) := by decide +kernel
theorem dX5_learn_285 : decode cX5_learn 285 = .ok (.bipush 10, 2) := by decide +kernel
theorem dX5_learn_287 : decode cX5_learn 287 = .ok (.iload 5, 2) := by decide +kernel
theorem dX5_learn_289 : decode cX5_learn 289 = .ok (.imul, 1) := by decide +kernel
theorem dX5_learn_290 : decode cX5_learn 290 = .ok (.iload 4, 2) := by decide +kernel
theorem dX5_learn_292 : decode cX5_learn 292 = .ok (.iadd, 1) := by decide +kernel
theorem dX5_learn_293 : decode cX5_learn 293 = .ok (.iaload, 1) := by decide +kernel
theorem dX5_learn_294 : decode cX5_learn 294 = .ok (.aload_n 0, 1) := by decide +kernel
theorem dX5_learn_295 : decode cX5_learn 295 = .ok (.getfield 30, 3) := by decide +kernel
theorem dX5_learn_298 : decode cX5_learn 298 = .ok (.bipush 10, 2) := by decide +kernel
theorem dX5_learn_300 : decode cX5_learn 300 = .ok (.iload 4, 2) := by decide +kernel
theorem dX5_learn_302 : decode cX5_learn 302 = .ok (.imul, 1) := by decide +kernel
theorem dX5_learn_303 : decode cX5_learn 303 = .ok (.iload 6, 2) := by decide +kernel
theorem dX5_learn_305 : decode cX5_learn 305 = .ok (.iadd, 1) := by decide +kernel
theorem dX5_learn_306 : decode cX5_learn 306 = .ok (.iaload, 1) := by decide +kernel
theorem dX5_learn_307 : decode cX5_learn 307 = .ok (.iadd, 1) := by decide +kernel
theorem dX5_learn_308 : decode cX5_learn 308 = .ok (.istore 7, 2) := by decide +kernel
theorem dX5_learn_310 : decode cX5_learn 310 = .ok (.aload_n 0, 1) := by decide +kernel
theorem dX5_learn_311 : decode cX5_learn 311 = .ok (.getfield 30, 3) := by decide +kernel
theorem dX5_learn_314 : decode cX5_learn 314 = .ok (.bipush 10, 2) := by decide +kernel
theorem dX5_learn_316 : decode cX5_learn 316 = .ok (.iload 5, 2) := by decide +kernel
theorem dX5_learn_318 : decode cX5_learn 318 = .ok (.imul, 1) := by decide +kernel
theorem dX5_learn_319 : decode cX5_learn 319 = .ok (.iload 6, 2) := by decide +kernel
theorem dX5_learn_321 : decode cX5_learn 321 = .ok (.iadd, 1) := by decide +kernel
theorem dX5_learn_322 : decode cX5_learn 322 = .ok (.iload 7, 2) := by decide +kernel
theorem dX5_learn_324 : decode cX5_learn 324 = .ok (.aload_n 0, 1) := by decide +kernel
theorem dX5_learn_325 : decode cX5_learn 325 = .ok (.getfield 30, 3) := by decide +kernel
theorem dX5_learn_328 : decode cX5_learn 328 = .ok (.bipush 10, 2) := by decide +kernel
theorem dX5_learn_330 : decode cX5_learn 330 = .ok (.iload 5, 2) := by decide +kernel
theorem dX5_learn_332 : decode cX5_learn 332 = .ok (.imul, 1) := by decide +kernel
theorem dX5_learn_333 : decode cX5_learn 333 = .ok (.iload 6, 2) := by decide +kernel
theorem dX5_learn_335 : decode cX5_learn 335 = .ok (.iadd, 1) := by decide +kernel
theorem dX5_learn_336 : decode cX5_learn 336 = .ok (.iaload, 1) := by decide +kernel
theorem dX5_learn_337 : decode cX5_learn 337 = .ok (.if_icmp .ge 8, 3) := by decide +kernel
theorem dX5_learn_340 : decode cX5_learn 340 = .ok (.iload 7, 2) := by decide +kernel
theorem dX5_learn_342 : decode cX5_learn 342 = .ok (.goto 16, 3) := by decide +kernel
theorem dX5_learn_345 : decode cX5_learn 345 = .ok (.aload_n 0, 1) := by decide +kernel
theorem dX5_learn_346 : decode cX5_learn 346 = .ok (.getfield 30, 3) := by decide +kernel
theorem dX5_learn_349 : decode cX5_learn 349 = .ok (.bipush 10, 2) := by decide +kernel
theorem dX5_learn_351 : decode cX5_learn 351 = .ok (.iload 5, 2) := by decide +kernel
theorem dX5_learn_353 : decode cX5_learn 353 = .ok (.imul, 1) := by decide +kernel
theorem dX5_learn_354 : decode cX5_learn 354 = .ok (.iload 6, 2) := by decide +kernel
theorem dX5_learn_356 : decode cX5_learn 356 = .ok (.iadd, 1) := by decide +kernel
theorem dX5_learn_357 : decode cX5_learn 357 = .ok (.iaload, 1) := by decide +kernel
theorem dX5_learn_358 : decode cX5_learn 358 = .ok (.iastore, 1) := by decide +kernel
theorem dX5_learn_359 : decode cX5_learn 359 = .ok (.iinc 6 1, 3) := by decide +kernel
theorem dX5_learn_362 : decode cX5_learn 362 = .ok (.goto (-126), 3) := by decide +kernel
theorem dX5_learn_365 : decode cX5_learn 365 = .ok (.iinc 5 1, 3) := by decide +kernel
theorem dX5_learn_368 : decode cX5_learn 368 = .ok (.goto (-144), 3) := by decide +kernel
theorem dX5_learn_371 : decode cX5_learn 371 = .ok (.iconst 0, 1) := by decide +kernel
theorem dX5_learn_372 : decode cX5_learn 372 = .ok (.istore 5, 2) := by decide +kernel
theorem dX5_learn_374 : decode cX5_learn 374 = .ok (.iload 5, 2) := by decide +kernel
theorem dX5_learn_376 : decode cX5_learn 376 = .ok (.aload_n 0, 1) := by decide +kernel
theorem dX5_learn_377 : decode cX5_learn 377 = .ok (.getfield 7, 3) := by decide +kernel
theorem dX5_learn_380 : decode cX5_learn 380 = .ok (.if_icmp .ge 49, 3) := by decide +kernel
theorem dX5_learn_383 : decode cX5_learn 383 = .ok (.iload_n 3, 1) := by decide +kernel
theorem dX5_learn_384 : decode cX5_learn 384 = .ok (.ifCond .eq 23, 3) := by decide +kernel
theorem dX5_learn_387 : decode cX5_learn 387 = .ok (.aload_n 0, 1) := by decide +kernel
theorem dX5_learn_388 : decode cX5_learn 388 = .ok (.getfield 30, 3) := by decide +kernel
theorem dX5_learn_391 : decode cX5_learn 391 = .ok (.bipush 10, 2) := by decide +kernel
theorem dX5_learn_393 : decode cX5_learn 393 = .ok (.iload 5, 2) := by decide +kernel
theorem dX5_learn_395 : decode cX5_learn 395 = .ok (.imul, 1) := by decide +kernel
theorem dX5_learn_396 : decode cX5_learn 396 = .ok (.iload 5, 2) := by decide +kernel
theorem dX5_learn_398 : decode cX5_learn 398 = .ok (.iadd, 1) := by decide +kernel
theorem dX5_learn_399 : decode cX5_learn 399 = .ok (.iaload, 1) := by decide +kernel
theorem dX5_learn_400 : decode cX5_learn 400 = .ok (.ifCond .lt 7, 3) := by decide +kernel
theorem dX5_learn_403 : decode cX5_learn 403 = .ok (.iconst 1, 1) := by decide +kernel
theorem dX5_learn_404 : decode cX5_learn 404 = .ok (.goto 4, 3) := by decide +kernel
theorem dX5_learn_407 : decode cX5_learn 407 = .ok (.iconst 0, 1) := by decide +kernel
theorem dX5_learn_408 : decode cX5_learn 408 = .ok (.istore_n 3, 1) := by decide +kernel
theorem dX5_learn_409 : decode cX5_learn 409 = .ok (.aload_n 0, 1) := by decide +kernel
theorem dX5_learn_410 : decode cX5_learn 410 = .ok (.getfield 30, 3) := by decide +kernel
theorem dX5_learn_413 : decode cX5_learn 413 = .ok (.bipush 10, 2) := by decide +kernel
theorem dX5_learn_415 : decode cX5_learn 415 = .ok (.iload 5, 2) := by decide +kernel
theorem dX5_learn_417 : decode cX5_learn 417 = .ok (.imul, 1) := by decide +kernel
theorem dX5_learn_418 : decode cX5_learn 418 = .ok (.iload 5, 2) := by decide +kernel
theorem dX5_learn_420 : decode cX5_learn 420 = .ok (.iadd, 1) := by decide +kernel
theorem dX5_learn_421 : decode cX5_learn 421 = .ok (.iconst 0, 1) := by decide +kernel
theorem dX5_learn_422 : decode cX5_learn 422 = .ok (.iastore, 1) := by decide +kernel
theorem dX5_learn_423 : decode cX5_learn 423 = .ok (.iinc 5 1, 3) := by decide +kernel
theorem dX5_learn_426 : decode cX5_learn 426 = .ok (.goto (-52), 3) := by decide +kernel
theorem dX5_learn_429 : decode cX5_learn 429 = .ok (.iinc 4 1, 3) := by decide +kernel
theorem dX5_learn_432 : decode cX5_learn 432 = .ok (.goto (-220), 3) := by decide +kernel
theorem dX5_learn_435 : decode cX5_learn 435 = .ok (.iload_n 3, 1) := by decide +kernel
theorem dX5_learn_436 : decode cX5_learn 436 = .ok (.ireturn, 1) := by decide +kernel
theorem dX5_coarse_0 : decode cX5_coarse 0 = .ok (.iload_n 0, 1) := by decide +kernel
theorem dX5_coarse_1 : decode cX5_coarse 1 = .ok (.ldc 57, 2) := by decide +kernel
theorem dX5_coarse_3 : decode cX5_coarse 3 = .ok (.if_icmp .lt 7, 3) := by decide +kernel
theorem dX5_coarse_6 : decode cX5_coarse 6 = .ok (.sipush (-1000), 3) := by decide +kernel
theorem dX5_coarse_9 : decode cX5_coarse 9 = .ok (.ireturn, 1) := by decide +kernel
theorem dX5_coarse_10 : decode cX5_coarse 10 = .ok (.iload_n 0, 1) := by decide +kernel
theorem dX5_coarse_11 : decode cX5_coarse 11 = .ok (.bipush 64, 2) := by decide +kernel
theorem dX5_coarse_13 : decode cX5_coarse 13 = .ok (.irem, 1) := by decide +kernel
theorem dX5_coarse_14 : decode cX5_coarse 14 = .ok (.istore_n 1, 1) := by decide +kernel
theorem dX5_coarse_15 : decode cX5_coarse 15 = .ok (.iload_n 0, 1) := by decide +kernel
theorem dX5_coarse_16 : decode cX5_coarse 16 = .ok (.iload_n 1, 1) := by decide +kernel
theorem dX5_coarse_17 : decode cX5_coarse 17 = .ok (.ifCond .ge 10, 3) := by decide +kernel
theorem dX5_coarse_20 : decode cX5_coarse 20 = .ok (.iload_n 1, 1) := by decide +kernel
theorem dX5_coarse_21 : decode cX5_coarse 21 = .ok (.bipush 64, 2) := by decide +kernel
theorem dX5_coarse_23 : decode cX5_coarse 23 = .ok (.iadd, 1) := by decide +kernel
theorem dX5_coarse_24 : decode cX5_coarse 24 = .ok (.goto 4, 3) := by decide +kernel
theorem dX5_coarse_27 : decode cX5_coarse 27 = .ok (.iload_n 1, 1) := by decide +kernel
theorem dX5_coarse_28 : decode cX5_coarse 28 = .ok (.isub, 1) := by decide +kernel
theorem dX5_coarse_29 : decode cX5_coarse 29 = .ok (.bipush 64, 2) := by decide +kernel
theorem dX5_coarse_31 : decode cX5_coarse 31 = .ok (.idiv, 1) := by decide +kernel
theorem dX5_coarse_32 : decode cX5_coarse 32 = .ok (.ireturn, 1) := by decide +kernel
theorem dX5_farOf_0 : decode cX5_farOf 0 = .ok (.aload_n 0, 1) := by decide +kernel
theorem dX5_farOf_1 : decode cX5_farOf 1 = .ok (.getfield 30, 3) := by decide +kernel
theorem dX5_farOf_4 : decode cX5_farOf 4 = .ok (.bipush 10, 2) := by decide +kernel
theorem dX5_farOf_6 : decode cX5_farOf 6 = .ok (.iload_n 1, 1) := by decide +kernel
theorem dX5_farOf_7 : decode cX5_farOf 7 = .ok (.imul, 1) := by decide +kernel
theorem dX5_farOf_8 : decode cX5_farOf 8 = .ok (.iload_n 2, 1) := by decide +kernel
theorem dX5_farOf_9 : decode cX5_farOf 9 = .ok (.iadd, 1) := by decide +kernel
theorem dX5_farOf_10 : decode cX5_farOf 10 = .ok (.iaload, 1) := by decide +kernel
theorem dX5_farOf_11 : decode cX5_farOf 11 = .ok (.invokestatic 58, 3) := by decide +kernel
theorem dX5_farOf_14 : decode cX5_farOf 14 = .ok (.ireturn, 1) := by decide +kernel
theorem dX5_keep_0 : decode cX5_keep 0 = .ok (.iconst 0, 1) := by decide +kernel
theorem dX5_keep_1 : decode cX5_keep 1 = .ok (.istore_n 1, 1) := by decide +kernel
theorem dX5_keep_2 : decode cX5_keep 2 = .ok (.iload_n 1, 1) := by decide +kernel
theorem dX5_keep_3 : decode cX5_keep 3 = .ok (.bipush 100, 2) := by decide +kernel
theorem dX5_keep_5 : decode cX5_keep 5 = .ok (.if_icmp .ge 32, 3) := by decide +kernel
theorem dX5_keep_8 : decode cX5_keep 8 = .ok (.aload_n 0, 1) := by decide +kernel
theorem dX5_keep_9 : decode cX5_keep 9 = .ok (.getfield 34, 3) := by decide +kernel
theorem dX5_keep_12 : decode cX5_keep 12 = .ok (.bipush 100, 2) := by decide +kernel
theorem dX5_keep_14 : decode cX5_keep 14 = .ok (.aload_n 0, 1) := by decide +kernel
theorem dX5_keep_15 : decode cX5_keep 15 = .ok (.getfield 62, 3) := by decide +kernel
theorem dX5_keep_18 : decode cX5_keep 18 = .ok (.imul, 1) := by decide +kernel
theorem dX5_keep_19 : decode cX5_keep 19 = .ok (.iload_n 1, 1) := by decide +kernel
theorem dX5_keep_20 : decode cX5_keep 20 = .ok (.iadd, 1) := by decide +kernel
theorem dX5_keep_21 : decode cX5_keep 21 = .ok (.aload_n 0, 1) := by decide +kernel
theorem dX5_keep_22 : decode cX5_keep 22 = .ok (.getfield 30, 3) := by decide +kernel
theorem dX5_keep_25 : decode cX5_keep 25 = .ok (.iload_n 1, 1) := by decide +kernel
theorem dX5_keep_26 : decode cX5_keep 26 = .ok (.iaload, 1) := by decide +kernel
theorem dX5_keep_27 : decode cX5_keep 27 = .ok (.invokestatic 58, 3) := by decide +kernel
theorem dX5_keep_30 : decode cX5_keep 30 = .ok (.iastore, 1) := by decide +kernel
theorem dX5_keep_31 : decode cX5_keep 31 = .ok (.iinc 1 1, 3) := by decide +kernel
theorem dX5_keep_34 : decode cX5_keep 34 = .ok (.goto (-32), 3) := by decide +kernel
theorem dX5_keep_37 : decode cX5_keep 37 = .ok (.return_, 1) := by decide +kernel
theorem dX5_did_0 : decode cX5_did 0 = .ok (.aload_n 0, 1) := by decide +kernel
theorem dX5_did_1 : decode cX5_did 1 = .ok (.dup, 1) := by decide +kernel
theorem dX5_did_2 : decode cX5_did 2 = .ok (.getfield 62, 3) := by decide +kernel
theorem dX5_did_5 : decode cX5_did 5 = .ok (.iconst 1, 1) := by decide +kernel
theorem dX5_did_6 : decode cX5_did 6 = .ok (.iadd, 1) := by decide +kernel
theorem dX5_did_7 : decode cX5_did 7 = .ok (.putfield 62, 3) := by decide +kernel
theorem dX5_did_10 : decode cX5_did 10 = .ok (.aload_n 0, 1) := by decide +kernel
theorem dX5_did_11 : decode cX5_did 11 = .ok (.sipush (-1000), 3) := by decide +kernel
theorem dX5_did_14 : decode cX5_did 14 = .ok (.sipush (-1000), 3) := by decide +kernel
theorem dX5_did_17 : decode cX5_did 17 = .ok (.invokevirtual 40, 3) := by decide +kernel
theorem dX5_did_20 : decode cX5_did 20 = .ok (.pop, 1) := by decide +kernel
theorem dX5_did_21 : decode cX5_did 21 = .ok (.aload_n 0, 1) := by decide +kernel
theorem dX5_did_22 : decode cX5_did 22 = .ok (.invokevirtual 44, 3) := by decide +kernel
theorem dX5_did_25 : decode cX5_did 25 = .ok (.return_, 1) := by decide +kernel
theorem dX5_there_0 : decode cX5_there 0 = .ok (.iconst 0, 1) := by decide +kernel
theorem dX5_there_1 : decode cX5_there 1 = .ok (.istore_n 1, 1) := by decide +kernel
theorem dX5_there_2 : decode cX5_there 2 = .ok (.iconst 0, 1) := by decide +kernel
theorem dX5_there_3 : decode cX5_there 3 = .ok (.istore_n 2, 1) := by decide +kernel
theorem dX5_there_4 : decode cX5_there 4 = .ok (.iload_n 2, 1) := by decide +kernel
theorem dX5_there_5 : decode cX5_there 5 = .ok (.aload_n 0, 1) := by decide +kernel
theorem dX5_there_6 : decode cX5_there 6 = .ok (.getfield 54, 3) := by decide +kernel
theorem dX5_there_9 : decode cX5_there 9 = .ok (.if_icmp .ge 26, 3) := by decide +kernel
theorem dX5_there_12 : decode cX5_there 12 = .ok (.iload_n 1, 1) := by decide +kernel
theorem dX5_there_13 : decode cX5_there 13 = .ok (.aload_n 0, 1) := by decide +kernel
theorem dX5_there_14 : decode cX5_there 14 = .ok (.getfield 27, 3) := by decide +kernel
theorem dX5_there_17 : decode cX5_there 17 = .ok (.iload_n 2, 1) := by decide +kernel
theorem dX5_there_18 : decode cX5_there 18 = .ok (.baload, 1) := by decide +kernel
theorem dX5_there_19 : decode cX5_there 19 = .ok (.ifCond .eq 7, 3) := by decide +kernel
theorem dX5_there_22 : decode cX5_there 22 = .ok (.iconst 1, 1) := by decide +kernel
theorem dX5_there_23 : decode cX5_there 23 = .ok (.goto 4, 3) := by decide +kernel
theorem dX5_there_26 : decode cX5_there 26 = .ok (.iconst 0, 1) := by decide +kernel
theorem dX5_there_27 : decode cX5_there 27 = .ok (.iadd, 1) := by decide +kernel
theorem dX5_there_28 : decode cX5_there 28 = .ok (.istore_n 1, 1) := by decide +kernel
theorem dX5_there_29 : decode cX5_there 29 = .ok (.iinc 2 1, 3) := by decide +kernel
theorem dX5_there_32 : decode cX5_there 32 = .ok (.goto (-28), 3) := by decide +kernel
theorem dX5_there_35 : decode cX5_there 35 = .ok (.iload_n 1, 1) := by decide +kernel
theorem dX5_there_36 : decode cX5_there 36 = .ok (.ireturn, 1) := by decide +kernel
theorem dX5_posts_0 : decode cX5_posts 0 = .ok (.aload_n 0, 1) := by decide +kernel
theorem dX5_posts_1 : decode cX5_posts 1 = .ok (.iconst 0, 1) := by decide +kernel
theorem dX5_posts_2 : decode cX5_posts 2 = .ok (.putfield 47, 3) := by decide +kernel
theorem dX5_posts_5 : decode cX5_posts 5 = .ok (.iload_n 1, 1) := by decide +kernel
theorem dX5_posts_6 : decode cX5_posts 6 = .ok (.i2l, 1) := by decide +kernel
theorem dX5_posts_7 : decode cX5_posts 7 = .ok (.ldc2_w 65, 3) := by decide +kernel
theorem dX5_posts_10 : decode cX5_posts 10 = .ok (.ldc2_w 67, 3) := by decide +kernel
theorem dX5_posts_13 : decode cX5_posts 13 = .ok (.invokestatic 50, 3) := by decide +kernel
theorem dX5_posts_16 : decode cX5_posts 16 = .ok (.ifCond .ne 7, 3) := by decide +kernel
theorem dX5_posts_19 : decode cX5_posts 19 = .ok (.sipush (-1002), 3) := by decide +kernel
theorem dX5_posts_22 : decode cX5_posts 22 = .ok (.ireturn, 1) := by decide +kernel
theorem dX5_posts_23 : decode cX5_posts 23 = .ok (.aload_n 0, 1) := by decide +kernel
theorem dX5_posts_24 : decode cX5_posts 24 = .ok (.getfield 7, 3) := by decide +kernel
theorem dX5_posts_27 : decode cX5_posts 27 = .ok (.istore_n 2, 1) := by decide +kernel
theorem dX5_posts_28 : decode cX5_posts 28 = .ok (.aload_n 0, 1) := by decide +kernel
theorem dX5_posts_29 : decode cX5_posts 29 = .ok (.iload_n 1, 1) := by decide +kernel
theorem dX5_posts_30 : decode cX5_posts 30 = .ok (.putfield 7, 3) := by decide +kernel
theorem dX5_posts_33 : decode cX5_posts 33 = .ok (.aload_n 0, 1) := by decide +kernel
theorem dX5_posts_34 : decode cX5_posts 34 = .ok (.iconst 0, 1) := by decide +kernel
theorem dX5_posts_35 : decode cX5_posts 35 = .ok (.putfield 54, 3) := by decide +kernel
theorem dX5_posts_38 : decode cX5_posts 38 = .ok (.aload_n 0, 1) := by decide +kernel
theorem dX5_posts_39 : decode cX5_posts 39 = .ok (.iconst 0, 1) := by decide +kernel
theorem dX5_posts_40 : decode cX5_posts 40 = .ok (.putfield 62, 3) := by decide +kernel
theorem dX5_posts_43 : decode cX5_posts 43 = .ok (.aload_n 0, 1) := by decide +kernel
theorem dX5_posts_44 : decode cX5_posts 44 = .ok (.iconst 0, 1) := by decide +kernel
theorem dX5_posts_45 : decode cX5_posts 45 = .ok (.putfield 69, 3) := by decide +kernel
theorem dX5_posts_48 : decode cX5_posts 48 = .ok (.aload_n 0, 1) := by decide +kernel
theorem dX5_posts_49 : decode cX5_posts 49 = .ok (.sipush (-1000), 3) := by decide +kernel
theorem dX5_posts_52 : decode cX5_posts 52 = .ok (.sipush (-1000), 3) := by decide +kernel
theorem dX5_posts_55 : decode cX5_posts 55 = .ok (.invokevirtual 40, 3) := by decide +kernel
theorem dX5_posts_58 : decode cX5_posts 58 = .ok (.pop, 1) := by decide +kernel
theorem dX5_posts_59 : decode cX5_posts 59 = .ok (.aload_n 0, 1) := by decide +kernel
theorem dX5_posts_60 : decode cX5_posts 60 = .ok (.invokevirtual 44, 3) := by decide +kernel
theorem dX5_posts_63 : decode cX5_posts 63 = .ok (.iload_n 2, 1) := by decide +kernel
theorem dX5_posts_64 : decode cX5_posts 64 = .ok (.ireturn, 1) := by decide +kernel
theorem dX5_line_0 : decode cX5_line 0 = .ok (.aload_n 0, 1) := by decide +kernel
theorem dX5_line_1 : decode cX5_line 1 = .ok (.iconst 0, 1) := by decide +kernel
theorem dX5_line_2 : decode cX5_line 2 = .ok (.putfield 47, 3) := by decide +kernel
theorem dX5_line_5 : decode cX5_line 5 = .ok (.aload_n 0, 1) := by decide +kernel
theorem dX5_line_6 : decode cX5_line 6 = .ok (.iload_n 1, 1) := by decide +kernel
theorem dX5_line_7 : decode cX5_line 7 = .ok (.invokevirtual 72, 3) := by decide +kernel
theorem dX5_line_10 : decode cX5_line 10 = .ok (.ifCond .ne 11, 3) := by decide +kernel
theorem dX5_line_13 : decode cX5_line 13 = .ok (.aload_n 0, 1) := by decide +kernel
theorem dX5_line_14 : decode cX5_line 14 = .ok (.iload_n 2, 1) := by decide +kernel
theorem dX5_line_15 : decode cX5_line 15 = .ok (.invokevirtual 72, 3) := by decide +kernel
theorem dX5_line_18 : decode cX5_line 18 = .ok (.ifCond .eq 7, 3) := by decide +kernel
theorem dX5_line_21 : decode cX5_line 21 = .ok (.sipush (-1001), 3) := by decide +kernel
theorem dX5_line_24 : decode cX5_line 24 = .ok (.ireturn, 1) := by decide +kernel
theorem dX5_line_25 : decode cX5_line 25 = .ok (.iload_n 3, 1) := by decide +kernel
theorem dX5_line_26 : decode cX5_line 26 = .ok (.i2l, 1) := by decide +kernel
theorem dX5_line_27 : decode cX5_line 27 = .ok (.iload 4, 2) := by decide +kernel
theorem dX5_line_29 : decode cX5_line 29 = .ok (.ifCond .eq 7, 3) := by decide +kernel
theorem dX5_line_32 : decode cX5_line 32 = .ok (.lconst 0, 1) := by decide +kernel
theorem dX5_line_33 : decode cX5_line 33 = .ok (.goto 6, 3) := by decide +kernel
theorem dX5_line_36 : decode cX5_line 36 = .ok (.ldc2_w 76, 3) := by decide +kernel
theorem dX5_line_39 : decode cX5_line 39 = .ok (.ldc2_w 78, 3) := by decide +kernel
theorem dX5_line_42 : decode cX5_line 42 = .ok (.invokestatic 50, 3) := by decide +kernel
theorem dX5_line_45 : decode cX5_line 45 = .ok (.ifCond .ne 7, 3) := by decide +kernel
theorem dX5_line_48 : decode cX5_line 48 = .ok (.sipush (-1002), 3) := by decide +kernel
theorem dX5_line_51 : decode cX5_line 51 = .ok (.ireturn, 1) := by decide +kernel
theorem dX5_line_52 : decode cX5_line 52 = .ok (.iload_n 1, 1) := by decide +kernel
theorem dX5_line_53 : decode cX5_line 53 = .ok (.iload_n 2, 1) := by decide +kernel
theorem dX5_line_54 : decode cX5_line 54 = .ok (.if_icmp .ne 7, 3) := by decide +kernel
theorem dX5_line_57 : decode cX5_line 57 = .ok (.sipush (-1003), 3) := by decide +kernel
theorem dX5_line_60 : decode cX5_line 60 = .ok (.ireturn, 1) := by decide +kernel
theorem dX5_line_61 : decode cX5_line 61 = .ok (.aload_n 0, 1) := by decide +kernel
theorem dX5_line_62 : decode cX5_line 62 = .ok (.sipush (-1000), 3) := by decide +kernel
theorem dX5_line_65 : decode cX5_line 65 = .ok (.sipush (-1000), 3) := by decide +kernel
theorem dX5_line_68 : decode cX5_line 68 = .ok (.invokevirtual 40, 3) := by decide +kernel
theorem dX5_line_71 : decode cX5_line 71 = .ok (.pop, 1) := by decide +kernel
theorem dX5_line_72 : decode cX5_line 72 = .ok (.aload_n 0, 1) := by decide +kernel
theorem dX5_line_73 : decode cX5_line 73 = .ok (.iload_n 2, 1) := by decide +kernel
theorem dX5_line_74 : decode cX5_line 74 = .ok (.iload_n 1, 1) := by decide +kernel
theorem dX5_line_75 : decode cX5_line 75 = .ok (.invokevirtual 80, 3) := by decide +kernel
theorem dX5_line_78 : decode cX5_line 78 = .ok (.istore 5, 2) := by decide +kernel
theorem dX5_line_80 : decode cX5_line 80 = .ok (.iload 4, 2) := by decide +kernel
theorem dX5_line_82 : decode cX5_line 82 = .ok (.ifCond .ne 18, 3) := by decide +kernel
theorem dX5_line_85 : decode cX5_line 85 = .ok (.iload 5, 2) := by decide +kernel
theorem dX5_line_87 : decode cX5_line 87 = .ok (.sipush (-1000), 3) := by decide +kernel
theorem dX5_line_90 : decode cX5_line 90 = .ok (.if_icmp .eq 10, 3) := by decide +kernel
theorem dX5_line_93 : decode cX5_line 93 = .ok (.iload 5, 2) := by decide +kernel
theorem dX5_line_95 : decode cX5_line 95 = .ok (.iload_n 3, 1) := by decide +kernel
theorem dX5_line_96 : decode cX5_line 96 = .ok (.iadd, 1) := by decide +kernel
theorem dX5_line_97 : decode cX5_line 97 = .ok (.ifCond .lt 46, 3) := by decide +kernel
theorem dX5_line_100 : decode cX5_line 100 = .ok (.iload 4, 2) := by decide +kernel
theorem dX5_line_102 : decode cX5_line 102 = .ok (.ifCond .eq 45, 3) := by decide +kernel
theorem dX5_line_105 : decode cX5_line 105 = .ok (.aload_n 0, 1) := by decide +kernel
theorem dX5_line_106 : decode cX5_line 106 = .ok (.iload_n 1, 1) := by decide +kernel
theorem dX5_line_107 : decode cX5_line 107 = .ok (.iload_n 2, 1) := by decide +kernel
theorem dX5_line_108 : decode cX5_line 108 = .ok (.invokevirtual 80, 3) := by decide +kernel
theorem dX5_line_111 : decode cX5_line 111 = .ok (.sipush (-1000), 3) := by decide +kernel
theorem dX5_line_114 : decode cX5_line 114 = .ok (.if_icmp .eq 14, 3) := by decide +kernel
theorem dX5_line_117 : decode cX5_line 117 = .ok (.aload_n 0, 1) := by decide +kernel
theorem dX5_line_118 : decode cX5_line 118 = .ok (.iload_n 1, 1) := by decide +kernel
theorem dX5_line_119 : decode cX5_line 119 = .ok (.iload_n 2, 1) := by decide +kernel
theorem dX5_line_120 : decode cX5_line 120 = .ok (.invokevirtual 80, 3) := by decide +kernel
theorem dX5_line_123 : decode cX5_line 123 = .ok (.iload_n 3, 1) := by decide +kernel
theorem dX5_line_124 : decode cX5_line 124 = .ok (.iadd, 1) := by decide +kernel
theorem dX5_line_125 : decode cX5_line 125 = .ok (.ifCond .lt 18, 3) := by decide +kernel
theorem dX5_line_128 : decode cX5_line 128 = .ok (.iload 5, 2) := by decide +kernel
theorem dX5_line_130 : decode cX5_line 130 = .ok (.sipush (-1000), 3) := by decide +kernel
theorem dX5_line_133 : decode cX5_line 133 = .ok (.if_icmp .eq 14, 3) := by decide +kernel
theorem dX5_line_136 : decode cX5_line 136 = .ok (.iload 5, 2) := by decide +kernel
theorem dX5_line_138 : decode cX5_line 138 = .ok (.iload_n 3, 1) := by decide +kernel
theorem dX5_line_139 : decode cX5_line 139 = .ok (.iadd, 1) := by decide +kernel
theorem dX5_line_140 : decode cX5_line 140 = .ok (.ifCond .ge 7, 3) := by decide +kernel
theorem dX5_line_143 : decode cX5_line 143 = .ok (.sipush (-1003), 3) := by decide +kernel
theorem dX5_line_146 : decode cX5_line 146 = .ok (.ireturn, 1) := by decide +kernel
theorem dX5_line_147 : decode cX5_line 147 = .ok (.aload_n 0, 1) := by decide +kernel
theorem dX5_line_148 : decode cX5_line 148 = .ok (.getfield 54, 3) := by decide +kernel
theorem dX5_line_151 : decode cX5_line 151 = .ok (.bipush 40, 2) := by decide +kernel
theorem dX5_line_153 : decode cX5_line 153 = .ok (.if_icmp .eq 13, 3) := by decide +kernel
theorem dX5_line_156 : decode cX5_line 156 = .ok (.aload_n 0, 1) := by decide +kernel
theorem dX5_line_157 : decode cX5_line 157 = .ok (.getfield 62, 3) := by decide +kernel
theorem dX5_line_160 : decode cX5_line 160 = .ok (.sipush 400, 3) := by decide +kernel
theorem dX5_line_163 : decode cX5_line 163 = .ok (.if_icmp .ne 7, 3) := by decide +kernel
theorem dX5_line_166 : decode cX5_line 166 = .ok (.sipush (-1004), 3) := by decide +kernel
theorem dX5_line_169 : decode cX5_line 169 = .ok (.ireturn, 1) := by decide +kernel
theorem dX5_line_170 : decode cX5_line 170 = .ok (.aload_n 0, 1) := by decide +kernel
theorem dX5_line_171 : decode cX5_line 171 = .ok (.getfield 13, 3) := by decide +kernel
theorem dX5_line_174 : decode cX5_line 174 = .ok (.aload_n 0, 1) := by decide +kernel
theorem dX5_line_175 : decode cX5_line 175 = .ok (.getfield 54, 3) := by decide +kernel
theorem dX5_line_178 : decode cX5_line 178 = .ok (.iload_n 1, 1) := by decide +kernel
theorem dX5_line_179 : decode cX5_line 179 = .ok (.iastore, 1) := by decide +kernel
theorem dX5_line_180 : decode cX5_line 180 = .ok (.aload_n 0, 1) := by decide +kernel
theorem dX5_line_181 : decode cX5_line 181 = .ok (.getfield 17, 3) := by decide +kernel
theorem dX5_line_184 : decode cX5_line 184 = .ok (.aload_n 0, 1) := by decide +kernel
theorem dX5_line_185 : decode cX5_line 185 = .ok (.getfield 54, 3) := by decide +kernel
theorem dX5_line_188 : decode cX5_line 188 = .ok (.iload_n 2, 1) := by decide +kernel
theorem dX5_line_189 : decode cX5_line 189 = .ok (.iastore, 1) := by decide +kernel
theorem dX5_line_190 : decode cX5_line 190 = .ok (.aload_n 0, 1) := by decide +kernel
theorem dX5_line_191 : decode cX5_line 191 = .ok (.getfield 20, 3) := by decide +kernel
theorem dX5_line_194 : decode cX5_line 194 = .ok (.aload_n 0, 1) := by decide +kernel
theorem dX5_line_195 : decode cX5_line 195 = .ok (.getfield 54, 3) := by decide +kernel
theorem dX5_line_198 : decode cX5_line 198 = .ok (.iload_n 3, 1) := by decide +kernel
theorem dX5_line_199 : decode cX5_line 199 = .ok (.iastore, 1) := by decide +kernel
theorem dX5_line_200 : decode cX5_line 200 = .ok (.aload_n 0, 1) := by decide +kernel
theorem dX5_line_201 : decode cX5_line 201 = .ok (.getfield 23, 3) := by decide +kernel
theorem dX5_line_204 : decode cX5_line 204 = .ok (.aload_n 0, 1) := by decide +kernel
theorem dX5_line_205 : decode cX5_line 205 = .ok (.getfield 54, 3) := by decide +kernel
theorem dX5_line_208 : decode cX5_line 208 = .ok (.iload 4, 2) := by decide +kernel
theorem dX5_line_210 : decode cX5_line 210 = .ok (.bastore, 1) := by decide +kernel
theorem dX5_line_211 : decode cX5_line 211 = .ok (.aload_n 0, 1) := by decide +kernel
theorem dX5_line_212 : decode cX5_line 212 = .ok (.getfield 27, 3) := by decide +kernel
theorem dX5_line_215 : decode cX5_line 215 = .ok (.aload_n 0, 1) := by decide +kernel
theorem dX5_line_216 : decode cX5_line 216 = .ok (.getfield 54, 3) := by decide +kernel
theorem dX5_line_219 : decode cX5_line 219 = .ok (.iconst 1, 1) := by decide +kernel
theorem dX5_line_220 : decode cX5_line 220 = .ok (.bastore, 1) := by decide +kernel
theorem dX5_line_221 : decode cX5_line 221 = .ok (.aload_n 0, 1) := by decide +kernel
theorem dX5_line_222 : decode cX5_line 222 = .ok (.dup, 1) := by decide +kernel
theorem dX5_line_223 : decode cX5_line 223 = .ok (.getfield 54, 3) := by decide +kernel
theorem dX5_line_226 : decode cX5_line 226 = .ok (.iconst 1, 1) := by decide +kernel
theorem dX5_line_227 : decode cX5_line 227 = .ok (.iadd, 1) := by decide +kernel
theorem dX5_line_228 : decode cX5_line 228 = .ok (.putfield 54, 3) := by decide +kernel
theorem dX5_line_231 : decode cX5_line 231 = .ok (.aload_n 0, 1) := by decide +kernel
theorem dX5_line_232 : decode cX5_line 232 = .ok (.invokevirtual 84, 3) := by decide +kernel
theorem dX5_line_235 : decode cX5_line 235 = .ok (.aload_n 0, 1) := by decide +kernel
theorem dX5_line_236 : decode cX5_line 236 = .ok (.getfield 54, 3) := by decide +kernel
theorem dX5_line_239 : decode cX5_line 239 = .ok (.iconst 1, 1) := by decide +kernel
theorem dX5_line_240 : decode cX5_line 240 = .ok (.isub, 1) := by decide +kernel
theorem dX5_line_241 : decode cX5_line 241 = .ok (.ireturn, 1) := by decide +kernel
theorem dX5_price_0 : decode cX5_price 0 = .ok (.aload_n 0, 1) := by decide +kernel
theorem dX5_price_1 : decode cX5_price 1 = .ok (.iconst 0, 1) := by decide +kernel
theorem dX5_price_2 : decode cX5_price 2 = .ok (.putfield 47, 3) := by decide +kernel
theorem dX5_price_5 : decode cX5_price 5 = .ok (.aload_n 0, 1) := by decide +kernel
theorem dX5_price_6 : decode cX5_price 6 = .ok (.iload_n 1, 1) := by decide +kernel
theorem dX5_price_7 : decode cX5_price 7 = .ok (.invokevirtual 87, 3) := by decide +kernel
theorem dX5_price_10 : decode cX5_price 10 = .ok (.ifCond .eq 7, 3) := by decide +kernel
theorem dX5_price_13 : decode cX5_price 13 = .ok (.sipush (-1001), 3) := by decide +kernel
theorem dX5_price_16 : decode cX5_price 16 = .ok (.ireturn, 1) := by decide +kernel
theorem dX5_price_17 : decode cX5_price 17 = .ok (.iload_n 2, 1) := by decide +kernel
theorem dX5_price_18 : decode cX5_price 18 = .ok (.i2l, 1) := by decide +kernel
theorem dX5_price_19 : decode cX5_price 19 = .ok (.aload_n 0, 1) := by decide +kernel
theorem dX5_price_20 : decode cX5_price 20 = .ok (.getfield 23, 3) := by decide +kernel
theorem dX5_price_23 : decode cX5_price 23 = .ok (.iload_n 1, 1) := by decide +kernel
theorem dX5_price_24 : decode cX5_price 24 = .ok (.baload, 1) := by decide +kernel
theorem dX5_price_25 : decode cX5_price 25 = .ok (.ifCond .eq 7, 3) := by decide +kernel
theorem dX5_price_28 : decode cX5_price 28 = .ok (.lconst 0, 1) := by decide +kernel
theorem dX5_price_29 : decode cX5_price 29 = .ok (.goto 6, 3) := by decide +kernel
theorem dX5_price_32 : decode cX5_price 32 = .ok (.ldc2_w 76, 3) := by decide +kernel
theorem dX5_price_35 : decode cX5_price 35 = .ok (.ldc2_w 78, 3) := by decide +kernel
theorem dX5_price_38 : decode cX5_price 38 = .ok (.invokestatic 50, 3) := by decide +kernel
theorem dX5_price_41 : decode cX5_price 41 = .ok (.ifCond .ne 7, 3) := by decide +kernel
theorem dX5_price_44 : decode cX5_price 44 = .ok (.sipush (-1002), 3) := by decide +kernel
theorem dX5_price_47 : decode cX5_price 47 = .ok (.ireturn, 1) := by decide +kernel
theorem dX5_price_48 : decode cX5_price 48 = .ok (.aload_n 0, 1) := by decide +kernel
theorem dX5_price_49 : decode cX5_price 49 = .ok (.getfield 20, 3) := by decide +kernel
theorem dX5_price_52 : decode cX5_price 52 = .ok (.iload_n 1, 1) := by decide +kernel
theorem dX5_price_53 : decode cX5_price 53 = .ok (.iaload, 1) := by decide +kernel
theorem dX5_price_54 : decode cX5_price 54 = .ok (.istore_n 3, 1) := by decide +kernel
theorem dX5_price_55 : decode cX5_price 55 = .ok (.iload_n 3, 1) := by decide +kernel
theorem dX5_price_56 : decode cX5_price 56 = .ok (.iload_n 2, 1) := by decide +kernel
theorem dX5_price_57 : decode cX5_price 57 = .ok (.if_icmp .ne 5, 3) := by decide +kernel
theorem dX5_price_60 : decode cX5_price 60 = .ok (.iload_n 3, 1) := by decide +kernel
theorem dX5_price_61 : decode cX5_price 61 = .ok (.ireturn, 1) := by decide +kernel
theorem dX5_price_62 : decode cX5_price 62 = .ok (.aload_n 0, 1) := by decide +kernel
theorem dX5_price_63 : decode cX5_price 63 = .ok (.getfield 20, 3) := by decide +kernel
theorem dX5_price_66 : decode cX5_price 66 = .ok (.iload_n 1, 1) := by decide +kernel
theorem dX5_price_67 : decode cX5_price 67 = .ok (.iload_n 2, 1) := by decide +kernel
theorem dX5_price_68 : decode cX5_price 68 = .ok (.iastore, 1) := by decide +kernel
theorem dX5_price_69 : decode cX5_price 69 = .ok (.aload_n 0, 1) := by decide +kernel
theorem dX5_price_70 : decode cX5_price 70 = .ok (.sipush (-1000), 3) := by decide +kernel
theorem dX5_price_73 : decode cX5_price 73 = .ok (.sipush (-1000), 3) := by decide +kernel
theorem dX5_price_76 : decode cX5_price 76 = .ok (.invokevirtual 40, 3) := by decide +kernel
theorem dX5_price_79 : decode cX5_price 79 = .ok (.ifCond .ne 14, 3) := by decide +kernel
theorem dX5_price_82 : decode cX5_price 82 = .ok (.aload_n 0, 1) := by decide +kernel
theorem dX5_price_83 : decode cX5_price 83 = .ok (.getfield 20, 3) := by decide +kernel
theorem dX5_price_86 : decode cX5_price 86 = .ok (.iload_n 1, 1) := by decide +kernel
theorem dX5_price_87 : decode cX5_price 87 = .ok (.iload_n 3, 1) := by decide +kernel
theorem dX5_price_88 : decode cX5_price 88 = .ok (.iastore, 1) := by decide +kernel
theorem dX5_price_89 : decode cX5_price 89 = .ok (.sipush (-1003), 3) := by decide +kernel
theorem dX5_price_92 : decode cX5_price 92 = .ok (.ireturn, 1) := by decide +kernel
theorem dX5_price_93 : decode cX5_price 93 = .ok (.aload_n 0, 1) := by decide +kernel
theorem dX5_price_94 : decode cX5_price 94 = .ok (.getfield 62, 3) := by decide +kernel
theorem dX5_price_97 : decode cX5_price 97 = .ok (.sipush 400, 3) := by decide +kernel
theorem dX5_price_100 : decode cX5_price 100 = .ok (.if_icmp .ne 14, 3) := by decide +kernel
theorem dX5_price_103 : decode cX5_price 103 = .ok (.aload_n 0, 1) := by decide +kernel
theorem dX5_price_104 : decode cX5_price 104 = .ok (.getfield 20, 3) := by decide +kernel
theorem dX5_price_107 : decode cX5_price 107 = .ok (.iload_n 1, 1) := by decide +kernel
theorem dX5_price_108 : decode cX5_price 108 = .ok (.iload_n 3, 1) := by decide +kernel
theorem dX5_price_109 : decode cX5_price 109 = .ok (.iastore, 1) := by decide +kernel
theorem dX5_price_110 : decode cX5_price 110 = .ok (.sipush (-1004), 3) := by decide +kernel
theorem dX5_price_113 : decode cX5_price 113 = .ok (.ireturn, 1) := by decide +kernel
theorem dX5_price_114 : decode cX5_price 114 = .ok (.aload_n 0, 1) := by decide +kernel
theorem dX5_price_115 : decode cX5_price 115 = .ok (.invokevirtual 84, 3) := by decide +kernel
theorem dX5_price_118 : decode cX5_price 118 = .ok (.iload_n 3, 1) := by decide +kernel
theorem dX5_price_119 : decode cX5_price 119 = .ok (.ireturn, 1) := by decide +kernel
theorem dX5_cut_0 : decode cX5_cut 0 = .ok (.aload_n 0, 1) := by decide +kernel
theorem dX5_cut_1 : decode cX5_cut 1 = .ok (.iconst 0, 1) := by decide +kernel
theorem dX5_cut_2 : decode cX5_cut 2 = .ok (.putfield 47, 3) := by decide +kernel
theorem dX5_cut_5 : decode cX5_cut 5 = .ok (.aload_n 0, 1) := by decide +kernel
theorem dX5_cut_6 : decode cX5_cut 6 = .ok (.iload_n 1, 1) := by decide +kernel
theorem dX5_cut_7 : decode cX5_cut 7 = .ok (.invokevirtual 87, 3) := by decide +kernel
theorem dX5_cut_10 : decode cX5_cut 10 = .ok (.ifCond .eq 7, 3) := by decide +kernel
theorem dX5_cut_13 : decode cX5_cut 13 = .ok (.sipush (-1001), 3) := by decide +kernel
theorem dX5_cut_16 : decode cX5_cut 16 = .ok (.ireturn, 1) := by decide +kernel
theorem dX5_cut_17 : decode cX5_cut 17 = .ok (.aload_n 0, 1) := by decide +kernel
theorem dX5_cut_18 : decode cX5_cut 18 = .ok (.getfield 27, 3) := by decide +kernel
theorem dX5_cut_21 : decode cX5_cut 21 = .ok (.iload_n 1, 1) := by decide +kernel
theorem dX5_cut_22 : decode cX5_cut 22 = .ok (.baload, 1) := by decide +kernel
theorem dX5_cut_23 : decode cX5_cut 23 = .ok (.ifCond .ne 7, 3) := by decide +kernel
theorem dX5_cut_26 : decode cX5_cut 26 = .ok (.sipush (-1003), 3) := by decide +kernel
theorem dX5_cut_29 : decode cX5_cut 29 = .ok (.ireturn, 1) := by decide +kernel
theorem dX5_cut_30 : decode cX5_cut 30 = .ok (.aload_n 0, 1) := by decide +kernel
theorem dX5_cut_31 : decode cX5_cut 31 = .ok (.getfield 62, 3) := by decide +kernel
theorem dX5_cut_34 : decode cX5_cut 34 = .ok (.sipush 400, 3) := by decide +kernel
theorem dX5_cut_37 : decode cX5_cut 37 = .ok (.if_icmp .ne 7, 3) := by decide +kernel
theorem dX5_cut_40 : decode cX5_cut 40 = .ok (.sipush (-1004), 3) := by decide +kernel
theorem dX5_cut_43 : decode cX5_cut 43 = .ok (.ireturn, 1) := by decide +kernel
theorem dX5_cut_44 : decode cX5_cut 44 = .ok (.aload_n 0, 1) := by decide +kernel
theorem dX5_cut_45 : decode cX5_cut 45 = .ok (.getfield 27, 3) := by decide +kernel
theorem dX5_cut_48 : decode cX5_cut 48 = .ok (.iload_n 1, 1) := by decide +kernel
theorem dX5_cut_49 : decode cX5_cut 49 = .ok (.iconst 0, 1) := by decide +kernel
theorem dX5_cut_50 : decode cX5_cut 50 = .ok (.bastore, 1) := by decide +kernel
theorem dX5_cut_51 : decode cX5_cut 51 = .ok (.aload_n 0, 1) := by decide +kernel
theorem dX5_cut_52 : decode cX5_cut 52 = .ok (.invokevirtual 84, 3) := by decide +kernel
theorem dX5_cut_55 : decode cX5_cut 55 = .ok (.aload_n 0, 1) := by decide +kernel
theorem dX5_cut_56 : decode cX5_cut 56 = .ok (.invokevirtual 90, 3) := by decide +kernel
theorem dX5_cut_59 : decode cX5_cut 59 = .ok (.ireturn, 1) := by decide +kernel
theorem dX5_back_0 : decode cX5_back 0 = .ok (.aload_n 0, 1) := by decide +kernel
theorem dX5_back_1 : decode cX5_back 1 = .ok (.iconst 0, 1) := by decide +kernel
theorem dX5_back_2 : decode cX5_back 2 = .ok (.putfield 47, 3) := by decide +kernel
theorem dX5_back_5 : decode cX5_back 5 = .ok (.aload_n 0, 1) := by decide +kernel
theorem dX5_back_6 : decode cX5_back 6 = .ok (.iload_n 1, 1) := by decide +kernel
theorem dX5_back_7 : decode cX5_back 7 = .ok (.invokevirtual 87, 3) := by decide +kernel
theorem dX5_back_10 : decode cX5_back 10 = .ok (.ifCond .eq 7, 3) := by decide +kernel
theorem dX5_back_13 : decode cX5_back 13 = .ok (.sipush (-1001), 3) := by decide +kernel
theorem dX5_back_16 : decode cX5_back 16 = .ok (.ireturn, 1) := by decide +kernel
theorem dX5_back_17 : decode cX5_back 17 = .ok (.aload_n 0, 1) := by decide +kernel
theorem dX5_back_18 : decode cX5_back 18 = .ok (.getfield 27, 3) := by decide +kernel
theorem dX5_back_21 : decode cX5_back 21 = .ok (.iload_n 1, 1) := by decide +kernel
theorem dX5_back_22 : decode cX5_back 22 = .ok (.baload, 1) := by decide +kernel
theorem dX5_back_23 : decode cX5_back 23 = .ok (.ifCond .eq 7, 3) := by decide +kernel
theorem dX5_back_26 : decode cX5_back 26 = .ok (.sipush (-1003), 3) := by decide +kernel
theorem dX5_back_29 : decode cX5_back 29 = .ok (.ireturn, 1) := by decide +kernel
theorem dX5_back_30 : decode cX5_back 30 = .ok (.aload_n 0, 1) := by decide +kernel
theorem dX5_back_31 : decode cX5_back 31 = .ok (.getfield 27, 3) := by decide +kernel
theorem dX5_back_34 : decode cX5_back 34 = .ok (.iload_n 1, 1) := by decide +kernel
theorem dX5_back_35 : decode cX5_back 35 = .ok (.iconst 1, 1) := by decide +kernel
theorem dX5_back_36 : decode cX5_back 36 = .ok (.bastore, 1) := by decide +kernel
theorem dX5_back_37 : decode cX5_back 37 = .ok (.aload_n 0, 1) := by decide +kernel
theorem dX5_back_38 : decode cX5_back 38 = .ok (.sipush (-1000), 3) := by decide +kernel
theorem dX5_back_41 : decode cX5_back 41 = .ok (.sipush (-1000), 3) := by decide +kernel
theorem dX5_back_44 : decode cX5_back 44 = .ok (.invokevirtual 40, 3) := by decide +kernel
theorem dX5_back_47 : decode cX5_back 47 = .ok (.istore_n 2, 1) := by decide +kernel
theorem dX5_back_48 : decode cX5_back 48 = .ok (.iload_n 2, 1) := by decide +kernel
theorem dX5_back_49 : decode cX5_back 49 = .ok (.ifCond .eq 13, 3) := by decide +kernel
theorem dX5_back_52 : decode cX5_back 52 = .ok (.aload_n 0, 1) := by decide +kernel
theorem dX5_back_53 : decode cX5_back 53 = .ok (.getfield 62, 3) := by decide +kernel
theorem dX5_back_56 : decode cX5_back 56 = .ok (.sipush 400, 3) := by decide +kernel
theorem dX5_back_59 : decode cX5_back 59 = .ok (.if_icmp .ne 24, 3) := by decide +kernel
theorem dX5_back_62 : decode cX5_back 62 = .ok (.aload_n 0, 1) := by decide +kernel
theorem dX5_back_63 : decode cX5_back 63 = .ok (.getfield 27, 3) := by decide +kernel
theorem dX5_back_66 : decode cX5_back 66 = .ok (.iload_n 1, 1) := by decide +kernel
theorem dX5_back_67 : decode cX5_back 67 = .ok (.iconst 0, 1) := by decide +kernel
theorem dX5_back_68 : decode cX5_back 68 = .ok (.bastore, 1) := by decide +kernel
theorem dX5_back_69 : decode cX5_back 69 = .ok (.iload_n 2, 1) := by decide +kernel
theorem dX5_back_70 : decode cX5_back 70 = .ok (.ifCond .eq 9, 3) := by decide +kernel
theorem dX5_back_73 : decode cX5_back 73 = .ok (.sipush (-1004), 3) := by decide +kernel
theorem dX5_back_76 : decode cX5_back 76 = .ok (.goto 6, 3) := by decide +kernel
theorem dX5_back_79 : decode cX5_back 79 = .ok (.sipush (-1003), 3) := by decide +kernel
theorem dX5_back_82 : decode cX5_back 82 = .ok (.ireturn, 1) := by decide +kernel
theorem dX5_back_83 : decode cX5_back 83 = .ok (.aload_n 0, 1) := by decide +kernel
theorem dX5_back_84 : decode cX5_back 84 = .ok (.invokevirtual 84, 3) := by decide +kernel
theorem dX5_back_87 : decode cX5_back 87 = .ok (.aload_n 0, 1) := by decide +kernel
theorem dX5_back_88 : decode cX5_back 88 = .ok (.invokevirtual 90, 3) := by decide +kernel
theorem dX5_back_91 : decode cX5_back 91 = .ok (.ireturn, 1) := by decide +kernel
theorem dX5_heightOf_0 : decode cX5_heightOf 0 = .ok (.iconst 0, 1) := by decide +kernel
theorem dX5_heightOf_1 : decode cX5_heightOf 1 = .ok (.istore_n 2, 1) := by decide +kernel
theorem dX5_heightOf_2 : decode cX5_heightOf 2 = .ok (.iconst 0, 1) := by decide +kernel
theorem dX5_heightOf_3 : decode cX5_heightOf 3 = .ok (.istore_n 3, 1) := by decide +kernel
theorem dX5_heightOf_4 : decode cX5_heightOf 4 = .ok (.iload_n 3, 1) := by decide +kernel
theorem dX5_heightOf_5 : decode cX5_heightOf 5 = .ok (.aload_n 0, 1) := by decide +kernel
theorem dX5_heightOf_6 : decode cX5_heightOf 6 = .ok (.getfield 7, 3) := by decide +kernel
theorem dX5_heightOf_9 : decode cX5_heightOf 9 = .ok (.if_icmp .ge 42, 3) := by decide +kernel
theorem dX5_heightOf_12 : decode cX5_heightOf 12 = .ok (.aload_n 0, 1) := by decide +kernel
theorem dX5_heightOf_13 : decode cX5_heightOf 13 = .ok (.iload_n 3, 1) := by decide +kernel
theorem dX5_heightOf_14 : decode cX5_heightOf 14 = .ok (.iload_n 1, 1) := by decide +kernel
theorem dX5_heightOf_15 : decode cX5_heightOf 15 = .ok (.invokevirtual 80, 3) := by decide +kernel
theorem dX5_heightOf_18 : decode cX5_heightOf 18 = .ok (.sipush (-1000), 3) := by decide +kernel
theorem dX5_heightOf_21 : decode cX5_heightOf 21 = .ok (.if_icmp .eq 22, 3) := by decide +kernel
theorem dX5_heightOf_24 : decode cX5_heightOf 24 = .ok (.aload_n 0, 1) := by decide +kernel
theorem dX5_heightOf_25 : decode cX5_heightOf 25 = .ok (.iload_n 3, 1) := by decide +kernel
theorem dX5_heightOf_26 : decode cX5_heightOf 26 = .ok (.iload_n 1, 1) := by decide +kernel
theorem dX5_heightOf_27 : decode cX5_heightOf 27 = .ok (.invokevirtual 80, 3) := by decide +kernel
theorem dX5_heightOf_30 : decode cX5_heightOf 30 = .ok (.iload_n 2, 1) := by decide +kernel
theorem dX5_heightOf_31 : decode cX5_heightOf 31 = .ok (.if_icmp .ge 12, 3) := by decide +kernel
theorem dX5_heightOf_34 : decode cX5_heightOf 34 = .ok (.aload_n 0, 1) := by decide +kernel
theorem dX5_heightOf_35 : decode cX5_heightOf 35 = .ok (.iload_n 3, 1) := by decide +kernel
theorem dX5_heightOf_36 : decode cX5_heightOf 36 = .ok (.iload_n 1, 1) := by decide +kernel
theorem dX5_heightOf_37 : decode cX5_heightOf 37 = .ok (.invokevirtual 80, 3) := by decide +kernel
theorem dX5_heightOf_40 : decode cX5_heightOf 40 = .ok (.goto 4, 3) := by decide +kernel
theorem dX5_heightOf_43 : decode cX5_heightOf 43 = .ok (.iload_n 2, 1) := by decide +kernel
theorem dX5_heightOf_44 : decode cX5_heightOf 44 = .ok (.istore_n 2, 1) := by decide +kernel
theorem dX5_heightOf_45 : decode cX5_heightOf 45 = .ok (.iinc 3 1, 3) := by decide +kernel
theorem dX5_heightOf_48 : decode cX5_heightOf 48 = .ok (.goto (-44), 3) := by decide +kernel
theorem dX5_heightOf_51 : decode cX5_heightOf 51 = .ok (.iload_n 2, 1) := by decide +kernel
theorem dX5_heightOf_52 : decode cX5_heightOf 52 = .ok (.ireturn, 1) := by decide +kernel
theorem dX5_told_0 : decode cX5_told 0 = .ok (.aload_n 0, 1) := by decide +kernel
theorem dX5_told_1 : decode cX5_told 1 = .ok (.iconst 0, 1) := by decide +kernel
theorem dX5_told_2 : decode cX5_told 2 = .ok (.putfield 47, 3) := by decide +kernel
theorem dX5_told_5 : decode cX5_told 5 = .ok (.aload_n 0, 1) := by decide +kernel
theorem dX5_told_6 : decode cX5_told 6 = .ok (.iload_n 1, 1) := by decide +kernel
theorem dX5_told_7 : decode cX5_told 7 = .ok (.invokevirtual 87, 3) := by decide +kernel
theorem dX5_told_10 : decode cX5_told 10 = .ok (.ifCond .eq 7, 3) := by decide +kernel
theorem dX5_told_13 : decode cX5_told 13 = .ok (.sipush (-1001), 3) := by decide +kernel
theorem dX5_told_16 : decode cX5_told 16 = .ok (.ireturn, 1) := by decide +kernel
theorem dX5_told_17 : decode cX5_told 17 = .ok (.iload_n 2, 1) := by decide +kernel
theorem dX5_told_18 : decode cX5_told 18 = .ok (.tableswitch 164 0 5 #[38, 45, 52, 59, 74, 89], 38) := by decide +kernel
theorem dX5_told_56 : decode cX5_told 56 = .ok (.aload_n 0, 1) := by decide +kernel
theorem dX5_told_57 : decode cX5_told 57 = .ok (.getfield 13, 3) := by decide +kernel
theorem dX5_told_60 : decode cX5_told 60 = .ok (.iload_n 1, 1) := by decide +kernel
theorem dX5_told_61 : decode cX5_told 61 = .ok (.iaload, 1) := by decide +kernel
theorem dX5_told_62 : decode cX5_told 62 = .ok (.ireturn, 1) := by decide +kernel
theorem dX5_told_63 : decode cX5_told 63 = .ok (.aload_n 0, 1) := by decide +kernel
theorem dX5_told_64 : decode cX5_told 64 = .ok (.getfield 17, 3) := by decide +kernel
theorem dX5_told_67 : decode cX5_told 67 = .ok (.iload_n 1, 1) := by decide +kernel
theorem dX5_told_68 : decode cX5_told 68 = .ok (.iaload, 1) := by decide +kernel
theorem dX5_told_69 : decode cX5_told 69 = .ok (.ireturn, 1) := by decide +kernel
theorem dX5_told_70 : decode cX5_told 70 = .ok (.aload_n 0, 1) := by decide +kernel
theorem dX5_told_71 : decode cX5_told 71 = .ok (.getfield 20, 3) := by decide +kernel
theorem dX5_told_74 : decode cX5_told 74 = .ok (.iload_n 1, 1) := by decide +kernel
theorem dX5_told_75 : decode cX5_told 75 = .ok (.iaload, 1) := by decide +kernel
theorem dX5_told_76 : decode cX5_told 76 = .ok (.ireturn, 1) := by decide +kernel
theorem dX5_told_77 : decode cX5_told 77 = .ok (.aload_n 0, 1) := by decide +kernel
theorem dX5_told_78 : decode cX5_told 78 = .ok (.getfield 23, 3) := by decide +kernel
theorem dX5_told_81 : decode cX5_told 81 = .ok (.iload_n 1, 1) := by decide +kernel
theorem dX5_told_82 : decode cX5_told 82 = .ok (.baload, 1) := by decide +kernel
theorem dX5_told_83 : decode cX5_told 83 = .ok (.ifCond .eq 7, 3) := by decide +kernel
theorem dX5_told_86 : decode cX5_told 86 = .ok (.iconst 1, 1) := by decide +kernel
theorem dX5_told_87 : decode cX5_told 87 = .ok (.goto 4, 3) := by decide +kernel
theorem dX5_told_90 : decode cX5_told 90 = .ok (.iconst 0, 1) := by decide +kernel
theorem dX5_told_91 : decode cX5_told 91 = .ok (.ireturn, 1) := by decide +kernel
theorem dX5_told_92 : decode cX5_told 92 = .ok (.aload_n 0, 1) := by decide +kernel
theorem dX5_told_93 : decode cX5_told 93 = .ok (.getfield 27, 3) := by decide +kernel
theorem dX5_told_96 : decode cX5_told 96 = .ok (.iload_n 1, 1) := by decide +kernel
theorem dX5_told_97 : decode cX5_told 97 = .ok (.baload, 1) := by decide +kernel
theorem dX5_told_98 : decode cX5_told 98 = .ok (.ifCond .eq 7, 3) := by decide +kernel
theorem dX5_told_101 : decode cX5_told 101 = .ok (.iconst 1, 1) := by decide +kernel
theorem dX5_told_102 : decode cX5_told 102 = .ok (.goto 4, 3) := by decide +kernel
theorem dX5_told_105 : decode cX5_told 105 = .ok (.iconst 0, 1) := by decide +kernel
theorem dX5_told_106 : decode cX5_told 106 = .ok (.ireturn, 1) := by decide +kernel
theorem dX5_told_107 : decode cX5_told 107 = .ok (.aload_n 0, 1) := by decide +kernel
theorem dX5_told_108 : decode cX5_told 108 = .ok (.sipush (-1000), 3) := by decide +kernel
theorem dX5_told_111 : decode cX5_told 111 = .ok (.sipush (-1000), 3) := by decide +kernel
theorem dX5_told_114 : decode cX5_told 114 = .ok (.invokevirtual 40, 3) := by decide +kernel
theorem dX5_told_117 : decode cX5_told 117 = .ok (.pop, 1) := by decide +kernel
theorem dX5_told_118 : decode cX5_told 118 = .ok (.aload_n 0, 1) := by decide +kernel
theorem dX5_told_119 : decode cX5_told 119 = .ok (.aload_n 0, 1) := by decide +kernel
theorem dX5_told_120 : decode cX5_told 120 = .ok (.getfield 13, 3) := by decide +kernel
theorem dX5_told_123 : decode cX5_told 123 = .ok (.iload_n 1, 1) := by decide +kernel
theorem dX5_told_124 : decode cX5_told 124 = .ok (.iaload, 1) := by decide +kernel
theorem dX5_told_125 : decode cX5_told 125 = .ok (.invokevirtual 94, 3) := by decide +kernel
theorem dX5_told_128 : decode cX5_told 128 = .ok (.aload_n 0, 1) := by decide +kernel
theorem dX5_told_129 : decode cX5_told 129 = .ok (.aload_n 0, 1) := by decide +kernel
theorem dX5_told_130 : decode cX5_told 130 = .ok (.getfield 17, 3) := by decide +kernel
theorem dX5_told_133 : decode cX5_told 133 = .ok (.iload_n 1, 1) := by decide +kernel
theorem dX5_told_134 : decode cX5_told 134 = .ok (.iaload, 1) := by decide +kernel
theorem dX5_told_135 : decode cX5_told 135 = .ok (.invokevirtual 94, 3) := by decide +kernel
theorem dX5_told_138 : decode cX5_told 138 = .ok (.isub, 1) := by decide +kernel
theorem dX5_told_139 : decode cX5_told 139 = .ok (.istore_n 3, 1) := by decide +kernel
theorem dX5_told_140 : decode cX5_told 140 = .ok (.aload_n 0, 1) := by decide +kernel
theorem dX5_told_141 : decode cX5_told 141 = .ok (.getfield 27, 3) := by decide +kernel
theorem dX5_told_144 : decode cX5_told 144 = .ok (.iload_n 1, 1) := by decide +kernel
end
section
theorem dX5_told_145 : decode cX5_told 145 = .ok (.baload, 1) := by decide +kernel
theorem dX5_told_146 : decode cX5_told 146 = .ok (.ifCond .ne 9, 3) := by decide +kernel
theorem dX5_told_149 : decode cX5_told 149 = .ok (.sipush (-1000), 3) := by decide +kernel
theorem dX5_told_152 : decode cX5_told 152 = .ok (.goto 29, 3) := by decide +kernel
theorem dX5_told_155 : decode cX5_told 155 = .ok (.aload_n 0, 1) := by decide +kernel
theorem dX5_told_156 : decode cX5_told 156 = .ok (.getfield 20, 3) := by decide +kernel
theorem dX5_told_159 : decode cX5_told 159 = .ok (.iload_n 1, 1) := by decide +kernel
theorem dX5_told_160 : decode cX5_told 160 = .ok (.iaload, 1) := by decide +kernel
theorem dX5_told_161 : decode cX5_told 161 = .ok (.aload_n 0, 1) := by decide +kernel
theorem dX5_told_162 : decode cX5_told 162 = .ok (.getfield 23, 3) := by decide +kernel
theorem dX5_told_165 : decode cX5_told 165 = .ok (.iload_n 1, 1) := by decide +kernel
theorem dX5_told_166 : decode cX5_told 166 = .ok (.baload, 1) := by decide +kernel
theorem dX5_told_167 : decode cX5_told 167 = .ok (.ifCond .eq 12, 3) := by decide +kernel
theorem dX5_told_170 : decode cX5_told 170 = .ok (.iload_n 3, 1) := by decide +kernel
theorem dX5_told_171 : decode cX5_told 171 = .ok (.ifCond .le 8, 3) := by decide +kernel
theorem dX5_told_174 : decode cX5_told 174 = .ok (.iload_n 3, 1) := by decide +kernel
theorem dX5_told_175 : decode cX5_told 175 = .ok (.ineg, 1) := by decide +kernel
theorem dX5_told_176 : decode cX5_told 176 = .ok (.goto 4, 3) := by decide +kernel
theorem dX5_told_179 : decode cX5_told 179 = .ok (.iload_n 3, 1) := by decide +kernel
theorem dX5_told_180 : decode cX5_told 180 = .ok (.iadd, 1) := by decide +kernel
theorem dX5_told_181 : decode cX5_told 181 = .ok (.ireturn, 1) := by decide +kernel
theorem dX5_told_182 : decode cX5_told 182 = .ok (.sipush (-1002), 3) := by decide +kernel
theorem dX5_told_185 : decode cX5_told 185 = .ok (.ireturn, 1) := by decide +kernel
theorem dX5_far_0 : decode cX5_far 0 = .ok (.aload_n 0, 1) := by decide +kernel
theorem dX5_far_1 : decode cX5_far 1 = .ok (.iconst 0, 1) := by decide +kernel
theorem dX5_far_2 : decode cX5_far 2 = .ok (.putfield 47, 3) := by decide +kernel
theorem dX5_far_5 : decode cX5_far 5 = .ok (.aload_n 0, 1) := by decide +kernel
theorem dX5_far_6 : decode cX5_far 6 = .ok (.iload_n 1, 1) := by decide +kernel
theorem dX5_far_7 : decode cX5_far 7 = .ok (.invokevirtual 72, 3) := by decide +kernel
theorem dX5_far_10 : decode cX5_far 10 = .ok (.ifCond .ne 11, 3) := by decide +kernel
theorem dX5_far_13 : decode cX5_far 13 = .ok (.aload_n 0, 1) := by decide +kernel
theorem dX5_far_14 : decode cX5_far 14 = .ok (.iload_n 2, 1) := by decide +kernel
theorem dX5_far_15 : decode cX5_far 15 = .ok (.invokevirtual 72, 3) := by decide +kernel
theorem dX5_far_18 : decode cX5_far 18 = .ok (.ifCond .eq 7, 3) := by decide +kernel
theorem dX5_far_21 : decode cX5_far 21 = .ok (.sipush (-1001), 3) := by decide +kernel
theorem dX5_far_24 : decode cX5_far 24 = .ok (.ireturn, 1) := by decide +kernel
theorem dX5_far_25 : decode cX5_far 25 = .ok (.aload_n 0, 1) := by decide +kernel
theorem dX5_far_26 : decode cX5_far 26 = .ok (.sipush (-1000), 3) := by decide +kernel
theorem dX5_far_29 : decode cX5_far 29 = .ok (.sipush (-1000), 3) := by decide +kernel
theorem dX5_far_32 : decode cX5_far 32 = .ok (.invokevirtual 40, 3) := by decide +kernel
theorem dX5_far_35 : decode cX5_far 35 = .ok (.pop, 1) := by decide +kernel
theorem dX5_far_36 : decode cX5_far 36 = .ok (.aload_n 0, 1) := by decide +kernel
theorem dX5_far_37 : decode cX5_far 37 = .ok (.iload_n 1, 1) := by decide +kernel
theorem dX5_far_38 : decode cX5_far 38 = .ok (.iload_n 2, 1) := by decide +kernel
theorem dX5_far_39 : decode cX5_far 39 = .ok (.invokevirtual 80, 3) := by decide +kernel
theorem dX5_far_42 : decode cX5_far 42 = .ok (.ireturn, 1) := by decide +kernel
theorem dX5_steps_0 : decode cX5_steps 0 = .ok (.aload_n 0, 1) := by decide +kernel
theorem dX5_steps_1 : decode cX5_steps 1 = .ok (.iconst 0, 1) := by decide +kernel
theorem dX5_steps_2 : decode cX5_steps 2 = .ok (.putfield 47, 3) := by decide +kernel
theorem dX5_steps_5 : decode cX5_steps 5 = .ok (.aload_n 0, 1) := by decide +kernel
theorem dX5_steps_6 : decode cX5_steps 6 = .ok (.iload_n 1, 1) := by decide +kernel
theorem dX5_steps_7 : decode cX5_steps 7 = .ok (.invokevirtual 72, 3) := by decide +kernel
theorem dX5_steps_10 : decode cX5_steps 10 = .ok (.ifCond .ne 11, 3) := by decide +kernel
theorem dX5_steps_13 : decode cX5_steps 13 = .ok (.aload_n 0, 1) := by decide +kernel
theorem dX5_steps_14 : decode cX5_steps 14 = .ok (.iload_n 2, 1) := by decide +kernel
theorem dX5_steps_15 : decode cX5_steps 15 = .ok (.invokevirtual 72, 3) := by decide +kernel
theorem dX5_steps_18 : decode cX5_steps 18 = .ok (.ifCond .eq 7, 3) := by decide +kernel
theorem dX5_steps_21 : decode cX5_steps 21 = .ok (.sipush (-1001), 3) := by decide +kernel
theorem dX5_steps_24 : decode cX5_steps 24 = .ok (.ireturn, 1) := by decide +kernel
theorem dX5_steps_25 : decode cX5_steps 25 = .ok (.aload_n 0, 1) := by decide +kernel
theorem dX5_steps_26 : decode cX5_steps 26 = .ok (.sipush (-1000), 3) := by decide +kernel
theorem dX5_steps_29 : decode cX5_steps 29 = .ok (.sipush (-1000), 3) := by decide +kernel
theorem dX5_steps_32 : decode cX5_steps 32 = .ok (.invokevirtual 40, 3) := by decide +kernel
theorem dX5_steps_35 : decode cX5_steps 35 = .ok (.pop, 1) := by decide +kernel
theorem dX5_steps_36 : decode cX5_steps 36 = .ok (.aload_n 0, 1) := by decide +kernel
theorem dX5_steps_37 : decode cX5_steps 37 = .ok (.getfield 30, 3) := by decide +kernel
theorem dX5_steps_40 : decode cX5_steps 40 = .ok (.bipush 10, 2) := by decide +kernel
theorem dX5_steps_42 : decode cX5_steps 42 = .ok (.iload_n 1, 1) := by decide +kernel
theorem dX5_steps_43 : decode cX5_steps 43 = .ok (.imul, 1) := by decide +kernel
theorem dX5_steps_44 : decode cX5_steps 44 = .ok (.iload_n 2, 1) := by decide +kernel
theorem dX5_steps_45 : decode cX5_steps 45 = .ok (.iadd, 1) := by decide +kernel
theorem dX5_steps_46 : decode cX5_steps 46 = .ok (.iaload, 1) := by decide +kernel
theorem dX5_steps_47 : decode cX5_steps 47 = .ok (.istore_n 3, 1) := by decide +kernel
theorem dX5_steps_48 : decode cX5_steps 48 = .ok (.iload_n 3, 1) := by decide +kernel
theorem dX5_steps_49 : decode cX5_steps 49 = .ok (.ldc 57, 2) := by decide +kernel
theorem dX5_steps_51 : decode cX5_steps 51 = .ok (.if_icmp .lt 9, 3) := by decide +kernel
theorem dX5_steps_54 : decode cX5_steps 54 = .ok (.sipush (-1000), 3) := by decide +kernel
theorem dX5_steps_57 : decode cX5_steps 57 = .ok (.goto 12, 3) := by decide +kernel
theorem dX5_steps_60 : decode cX5_steps 60 = .ok (.iload_n 3, 1) := by decide +kernel
theorem dX5_steps_61 : decode cX5_steps 61 = .ok (.bipush 64, 2) := by decide +kernel
theorem dX5_steps_63 : decode cX5_steps 63 = .ok (.iload_n 3, 1) := by decide +kernel
theorem dX5_steps_64 : decode cX5_steps 64 = .ok (.invokestatic 58, 3) := by decide +kernel
theorem dX5_steps_67 : decode cX5_steps 67 = .ok (.imul, 1) := by decide +kernel
theorem dX5_steps_68 : decode cX5_steps 68 = .ok (.isub, 1) := by decide +kernel
theorem dX5_steps_69 : decode cX5_steps 69 = .ok (.ireturn, 1) := by decide +kernel
theorem dX5_nextOf_0 : decode cX5_nextOf 0 = .ok (.iconst 0, 1) := by decide +kernel
theorem dX5_nextOf_1 : decode cX5_nextOf 1 = .ok (.istore_n 3, 1) := by decide +kernel
theorem dX5_nextOf_2 : decode cX5_nextOf 2 = .ok (.iload_n 3, 1) := by decide +kernel
theorem dX5_nextOf_3 : decode cX5_nextOf 3 = .ok (.aload_n 0, 1) := by decide +kernel
theorem dX5_nextOf_4 : decode cX5_nextOf 4 = .ok (.getfield 54, 3) := by decide +kernel
theorem dX5_nextOf_7 : decode cX5_nextOf 7 = .ok (.if_icmp .ge 135, 3) := by decide +kernel
theorem dX5_nextOf_10 : decode cX5_nextOf 10 = .ok (.aload_n 0, 1) := by decide +kernel
theorem dX5_nextOf_11 : decode cX5_nextOf 11 = .ok (.getfield 13, 3) := by decide +kernel
theorem dX5_nextOf_14 : decode cX5_nextOf 14 = .ok (.iload_n 3, 1) := by decide +kernel
theorem dX5_nextOf_15 : decode cX5_nextOf 15 = .ok (.iaload, 1) := by decide +kernel
theorem dX5_nextOf_16 : decode cX5_nextOf 16 = .ok (.iload_n 1, 1) := by decide +kernel
theorem dX5_nextOf_17 : decode cX5_nextOf 17 = .ok (.if_icmp .ne 12, 3) := by decide +kernel
theorem dX5_nextOf_20 : decode cX5_nextOf 20 = .ok (.aload_n 0, 1) := by decide +kernel
theorem dX5_nextOf_21 : decode cX5_nextOf 21 = .ok (.getfield 17, 3) := by decide +kernel
theorem dX5_nextOf_24 : decode cX5_nextOf 24 = .ok (.iload_n 3, 1) := by decide +kernel
theorem dX5_nextOf_25 : decode cX5_nextOf 25 = .ok (.iaload, 1) := by decide +kernel
theorem dX5_nextOf_26 : decode cX5_nextOf 26 = .ok (.goto 34, 3) := by decide +kernel
theorem dX5_nextOf_29 : decode cX5_nextOf 29 = .ok (.aload_n 0, 1) := by decide +kernel
theorem dX5_nextOf_30 : decode cX5_nextOf 30 = .ok (.getfield 23, 3) := by decide +kernel
theorem dX5_nextOf_33 : decode cX5_nextOf 33 = .ok (.iload_n 3, 1) := by decide +kernel
theorem dX5_nextOf_34 : decode cX5_nextOf 34 = .ok (.baload, 1) := by decide +kernel
theorem dX5_nextOf_35 : decode cX5_nextOf 35 = .ok (.ifCond .eq 22, 3) := by decide +kernel
theorem dX5_nextOf_38 : decode cX5_nextOf 38 = .ok (.aload_n 0, 1) := by decide +kernel
theorem dX5_nextOf_39 : decode cX5_nextOf 39 = .ok (.getfield 17, 3) := by decide +kernel
theorem dX5_nextOf_42 : decode cX5_nextOf 42 = .ok (.iload_n 3, 1) := by decide +kernel
theorem dX5_nextOf_43 : decode cX5_nextOf 43 = .ok (.iaload, 1) := by decide +kernel
theorem dX5_nextOf_44 : decode cX5_nextOf 44 = .ok (.iload_n 1, 1) := by decide +kernel
theorem dX5_nextOf_45 : decode cX5_nextOf 45 = .ok (.if_icmp .ne 12, 3) := by decide +kernel
theorem dX5_nextOf_48 : decode cX5_nextOf 48 = .ok (.aload_n 0, 1) := by decide +kernel
theorem dX5_nextOf_49 : decode cX5_nextOf 49 = .ok (.getfield 13, 3) := by decide +kernel
theorem dX5_nextOf_52 : decode cX5_nextOf 52 = .ok (.iload_n 3, 1) := by decide +kernel
theorem dX5_nextOf_53 : decode cX5_nextOf 53 = .ok (.iaload, 1) := by decide +kernel
theorem dX5_nextOf_54 : decode cX5_nextOf 54 = .ok (.goto 6, 3) := by decide +kernel
theorem dX5_nextOf_57 : decode cX5_nextOf 57 = .ok (.sipush (-1000), 3) := by decide +kernel
theorem dX5_nextOf_60 : decode cX5_nextOf 60 = .ok (.istore 4, 2) := by decide +kernel
theorem dX5_nextOf_62 : decode cX5_nextOf 62 = .ok (.aload_n 0, 1) := by decide +kernel
theorem dX5_nextOf_63 : decode cX5_nextOf 63 = .ok (.getfield 27, 3) := by decide +kernel
theorem dX5_nextOf_66 : decode cX5_nextOf 66 = .ok (.iload_n 3, 1) := by decide +kernel
theorem dX5_nextOf_67 : decode cX5_nextOf 67 = .ok (.baload, 1) := by decide +kernel
theorem dX5_nextOf_68 : decode cX5_nextOf 68 = .ok (.ifCond .eq 68, 3) := by decide +kernel
theorem dX5_nextOf_71 : decode cX5_nextOf 71 = .ok (.iload 4, 2) := by decide +kernel
theorem dX5_nextOf_73 : decode cX5_nextOf 73 = .ok (.sipush (-1000), 3) := by decide +kernel
theorem dX5_nextOf_76 : decode cX5_nextOf 76 = .ok (.if_icmp .eq 60, 3) := by decide +kernel
theorem dX5_nextOf_79 : decode cX5_nextOf 79 = .ok (.aload_n 0, 1) := by decide +kernel
theorem dX5_nextOf_80 : decode cX5_nextOf 80 = .ok (.getfield 30, 3) := by decide +kernel
theorem dX5_nextOf_83 : decode cX5_nextOf 83 = .ok (.bipush 10, 2) := by decide +kernel
theorem dX5_nextOf_85 : decode cX5_nextOf 85 = .ok (.iload 4, 2) := by decide +kernel
theorem dX5_nextOf_87 : decode cX5_nextOf 87 = .ok (.imul, 1) := by decide +kernel
theorem dX5_nextOf_88 : decode cX5_nextOf 88 = .ok (.iload_n 2, 1) := by decide +kernel
theorem dX5_nextOf_89 : decode cX5_nextOf 89 = .ok (.iadd, 1) := by decide +kernel
theorem dX5_nextOf_90 : decode cX5_nextOf 90 = .ok (.iaload, 1) := by decide +kernel
theorem dX5_nextOf_91 : decode cX5_nextOf 91 = .ok (.ldc 57, 2) := by decide +kernel
theorem dX5_nextOf_93 : decode cX5_nextOf 93 = .ok (.if_icmp .ge 43, 3) := by decide +kernel
theorem dX5_nextOf_96 : decode cX5_nextOf 96 = .ok (.bipush 64, 2) := by decide +kernel
theorem dX5_nextOf_98 : decode cX5_nextOf 98 = .ok (.aload_n 0, 1) := by decide +kernel
theorem dX5_nextOf_99 : decode cX5_nextOf 99 = .ok (.getfield 20, 3) := by decide +kernel
theorem dX5_nextOf_102 : decode cX5_nextOf 102 = .ok (.iload_n 3, 1) := by decide +kernel
theorem dX5_nextOf_103 : decode cX5_nextOf 103 = .ok (.iaload, 1) := by decide +kernel
theorem dX5_nextOf_104 : decode cX5_nextOf 104 = .ok (.imul, 1) := by decide +kernel
theorem dX5_nextOf_105 : decode cX5_nextOf 105 = .ok (.iconst 1, 1) := by decide +kernel
theorem dX5_nextOf_106 : decode cX5_nextOf 106 = .ok (.iadd, 1) := by decide +kernel
theorem dX5_nextOf_107 : decode cX5_nextOf 107 = .ok (.aload_n 0, 1) := by decide +kernel
theorem dX5_nextOf_108 : decode cX5_nextOf 108 = .ok (.getfield 30, 3) := by decide +kernel
theorem dX5_nextOf_111 : decode cX5_nextOf 111 = .ok (.bipush 10, 2) := by decide +kernel
theorem dX5_nextOf_113 : decode cX5_nextOf 113 = .ok (.iload 4, 2) := by decide +kernel
theorem dX5_nextOf_115 : decode cX5_nextOf 115 = .ok (.imul, 1) := by decide +kernel
theorem dX5_nextOf_116 : decode cX5_nextOf 116 = .ok (.iload_n 2, 1) := by decide +kernel
theorem dX5_nextOf_117 : decode cX5_nextOf 117 = .ok (.iadd, 1) := by decide +kernel
theorem dX5_nextOf_118 : decode cX5_nextOf 118 = .ok (.iaload, 1) := by decide +kernel
theorem dX5_nextOf_119 : decode cX5_nextOf 119 = .ok (.iadd, 1) := by decide +kernel
theorem dX5_nextOf_120 : decode cX5_nextOf 120 = .ok (.aload_n 0, 1) := by decide +kernel
theorem dX5_nextOf_121 : decode cX5_nextOf 121 = .ok (.getfield 30, 3) := by decide +kernel
theorem dX5_nextOf_124 : decode cX5_nextOf 124 = .ok (.bipush 10, 2) := by decide +kernel
theorem dX5_nextOf_126 : decode cX5_nextOf 126 = .ok (.iload_n 1, 1) := by decide +kernel
theorem dX5_nextOf_127 : decode cX5_nextOf 127 = .ok (.imul, 1) := by decide +kernel
theorem dX5_nextOf_128 : decode cX5_nextOf 128 = .ok (.iload_n 2, 1) := by decide +kernel
theorem dX5_nextOf_129 : decode cX5_nextOf 129 = .ok (.iadd, 1) := by decide +kernel
theorem dX5_nextOf_130 : decode cX5_nextOf 130 = .ok (.iaload, 1) := by decide +kernel
theorem dX5_nextOf_131 : decode cX5_nextOf 131 = .ok (.if_icmp .ne 5, 3) := by decide +kernel
theorem dX5_nextOf_134 : decode cX5_nextOf 134 = .ok (.iload_n 3, 1) := by decide +kernel
theorem dX5_nextOf_135 : decode cX5_nextOf 135 = .ok (.ireturn, 1) := by decide +kernel
theorem dX5_nextOf_136 : decode cX5_nextOf 136 = .ok (.iinc 3 1, 3) := by decide +kernel
theorem dX5_nextOf_139 : decode cX5_nextOf 139 = .ok (.goto (-137), 3) := by decide +kernel
theorem dX5_nextOf_142 : decode cX5_nextOf 142 = .ok (.sipush (-1000), 3) := by decide +kernel
theorem dX5_nextOf_145 : decode cX5_nextOf 145 = .ok (.ireturn, 1) := by decide +kernel
theorem dX5_other_0 : decode cX5_other 0 = .ok (.aload_n 0, 1) := by decide +kernel
theorem dX5_other_1 : decode cX5_other 1 = .ok (.getfield 13, 3) := by decide +kernel
theorem dX5_other_4 : decode cX5_other 4 = .ok (.iload_n 1, 1) := by decide +kernel
theorem dX5_other_5 : decode cX5_other 5 = .ok (.iaload, 1) := by decide +kernel
theorem dX5_other_6 : decode cX5_other 6 = .ok (.iload_n 2, 1) := by decide +kernel
theorem dX5_other_7 : decode cX5_other 7 = .ok (.if_icmp .ne 12, 3) := by decide +kernel
theorem dX5_other_10 : decode cX5_other 10 = .ok (.aload_n 0, 1) := by decide +kernel
theorem dX5_other_11 : decode cX5_other 11 = .ok (.getfield 17, 3) := by decide +kernel
theorem dX5_other_14 : decode cX5_other 14 = .ok (.iload_n 1, 1) := by decide +kernel
theorem dX5_other_15 : decode cX5_other 15 = .ok (.iaload, 1) := by decide +kernel
theorem dX5_other_16 : decode cX5_other 16 = .ok (.goto 9, 3) := by decide +kernel
theorem dX5_other_19 : decode cX5_other 19 = .ok (.aload_n 0, 1) := by decide +kernel
theorem dX5_other_20 : decode cX5_other 20 = .ok (.getfield 13, 3) := by decide +kernel
theorem dX5_other_23 : decode cX5_other 23 = .ok (.iload_n 1, 1) := by decide +kernel
theorem dX5_other_24 : decode cX5_other 24 = .ok (.iaload, 1) := by decide +kernel
theorem dX5_other_25 : decode cX5_other 25 = .ok (.ireturn, 1) := by decide +kernel
theorem dX5_way_0 : decode cX5_way 0 = .ok (.aload_n 0, 1) := by decide +kernel
theorem dX5_way_1 : decode cX5_way 1 = .ok (.iconst 0, 1) := by decide +kernel
theorem dX5_way_2 : decode cX5_way 2 = .ok (.putfield 47, 3) := by decide +kernel
theorem dX5_way_5 : decode cX5_way 5 = .ok (.aload_n 0, 1) := by decide +kernel
theorem dX5_way_6 : decode cX5_way 6 = .ok (.iload_n 1, 1) := by decide +kernel
theorem dX5_way_7 : decode cX5_way 7 = .ok (.invokevirtual 72, 3) := by decide +kernel
theorem dX5_way_10 : decode cX5_way 10 = .ok (.ifCond .ne 11, 3) := by decide +kernel
theorem dX5_way_13 : decode cX5_way 13 = .ok (.aload_n 0, 1) := by decide +kernel
theorem dX5_way_14 : decode cX5_way 14 = .ok (.iload_n 2, 1) := by decide +kernel
theorem dX5_way_15 : decode cX5_way 15 = .ok (.invokevirtual 72, 3) := by decide +kernel
theorem dX5_way_18 : decode cX5_way 18 = .ok (.ifCond .eq 7, 3) := by decide +kernel
theorem dX5_way_21 : decode cX5_way 21 = .ok (.sipush (-1001), 3) := by decide +kernel
theorem dX5_way_24 : decode cX5_way 24 = .ok (.ireturn, 1) := by decide +kernel
theorem dX5_way_25 : decode cX5_way 25 = .ok (.aload_n 0, 1) := by decide +kernel
theorem dX5_way_26 : decode cX5_way 26 = .ok (.sipush (-1000), 3) := by decide +kernel
theorem dX5_way_29 : decode cX5_way 29 = .ok (.sipush (-1000), 3) := by decide +kernel
theorem dX5_way_32 : decode cX5_way 32 = .ok (.invokevirtual 40, 3) := by decide +kernel
theorem dX5_way_35 : decode cX5_way 35 = .ok (.pop, 1) := by decide +kernel
theorem dX5_way_36 : decode cX5_way 36 = .ok (.aload_n 0, 1) := by decide +kernel
theorem dX5_way_37 : decode cX5_way 37 = .ok (.getfield 30, 3) := by decide +kernel
theorem dX5_way_40 : decode cX5_way 40 = .ok (.bipush 10, 2) := by decide +kernel
theorem dX5_way_42 : decode cX5_way 42 = .ok (.iload_n 1, 1) := by decide +kernel
theorem dX5_way_43 : decode cX5_way 43 = .ok (.imul, 1) := by decide +kernel
theorem dX5_way_44 : decode cX5_way 44 = .ok (.iload_n 2, 1) := by decide +kernel
theorem dX5_way_45 : decode cX5_way 45 = .ok (.iadd, 1) := by decide +kernel
theorem dX5_way_46 : decode cX5_way 46 = .ok (.iaload, 1) := by decide +kernel
theorem dX5_way_47 : decode cX5_way 47 = .ok (.istore 4, 2) := by decide +kernel
theorem dX5_way_49 : decode cX5_way 49 = .ok (.iload 4, 2) := by decide +kernel
theorem dX5_way_51 : decode cX5_way 51 = .ok (.ldc 57, 2) := by decide +kernel
theorem dX5_way_53 : decode cX5_way 53 = .ok (.if_icmp .ge 26, 3) := by decide +kernel
theorem dX5_way_56 : decode cX5_way 56 = .ok (.iload_n 3, 1) := by decide +kernel
theorem dX5_way_57 : decode cX5_way 57 = .ok (.i2l, 1) := by decide +kernel
theorem dX5_way_58 : decode cX5_way 58 = .ok (.lconst 0, 1) := by decide +kernel
theorem dX5_way_59 : decode cX5_way 59 = .ok (.iload 4, 2) := by decide +kernel
theorem dX5_way_61 : decode cX5_way 61 = .ok (.bipush 64, 2) := by decide +kernel
theorem dX5_way_63 : decode cX5_way 63 = .ok (.iload 4, 2) := by decide +kernel
theorem dX5_way_65 : decode cX5_way 65 = .ok (.invokestatic 58, 3) := by decide +kernel
theorem dX5_way_68 : decode cX5_way 68 = .ok (.imul, 1) := by decide +kernel
theorem dX5_way_69 : decode cX5_way 69 = .ok (.isub, 1) := by decide +kernel
theorem dX5_way_70 : decode cX5_way 70 = .ok (.iconst 1, 1) := by decide +kernel
theorem dX5_way_71 : decode cX5_way 71 = .ok (.isub, 1) := by decide +kernel
theorem dX5_way_72 : decode cX5_way 72 = .ok (.i2l, 1) := by decide +kernel
theorem dX5_way_73 : decode cX5_way 73 = .ok (.invokestatic 50, 3) := by decide +kernel
theorem dX5_way_76 : decode cX5_way 76 = .ok (.ifCond .ne 7, 3) := by decide +kernel
theorem dX5_way_79 : decode cX5_way 79 = .ok (.sipush (-1000), 3) := by decide +kernel
theorem dX5_way_82 : decode cX5_way 82 = .ok (.ireturn, 1) := by decide +kernel
theorem dX5_way_83 : decode cX5_way 83 = .ok (.iload_n 1, 1) := by decide +kernel
theorem dX5_way_84 : decode cX5_way 84 = .ok (.istore 5, 2) := by decide +kernel
theorem dX5_way_86 : decode cX5_way 86 = .ok (.aload_n 0, 1) := by decide +kernel
theorem dX5_way_87 : decode cX5_way 87 = .ok (.iload 5, 2) := by decide +kernel
theorem dX5_way_89 : decode cX5_way 89 = .ok (.iload_n 2, 1) := by decide +kernel
theorem dX5_way_90 : decode cX5_way 90 = .ok (.invokevirtual 97, 3) := by decide +kernel
theorem dX5_way_93 : decode cX5_way 93 = .ok (.istore 6, 2) := by decide +kernel
theorem dX5_way_95 : decode cX5_way 95 = .ok (.iconst 0, 1) := by decide +kernel
theorem dX5_way_96 : decode cX5_way 96 = .ok (.istore 7, 2) := by decide +kernel
theorem dX5_way_98 : decode cX5_way 98 = .ok (.iload 7, 2) := by decide +kernel
theorem dX5_way_100 : decode cX5_way 100 = .ok (.iload_n 3, 1) := by decide +kernel
theorem dX5_way_101 : decode cX5_way 101 = .ok (.if_icmp .ge 28, 3) := by decide +kernel
theorem dX5_way_104 : decode cX5_way 104 = .ok (.aload_n 0, 1) := by decide +kernel
theorem dX5_way_105 : decode cX5_way 105 = .ok (.iload 6, 2) := by decide +kernel
theorem dX5_way_107 : decode cX5_way 107 = .ok (.iload 5, 2) := by decide +kernel
theorem dX5_way_109 : decode cX5_way 109 = .ok (.invokevirtual 100, 3) := by decide +kernel
theorem dX5_way_112 : decode cX5_way 112 = .ok (.istore 5, 2) := by decide +kernel
theorem dX5_way_114 : decode cX5_way 114 = .ok (.aload_n 0, 1) := by decide +kernel
theorem dX5_way_115 : decode cX5_way 115 = .ok (.iload 5, 2) := by decide +kernel
theorem dX5_way_117 : decode cX5_way 117 = .ok (.iload_n 2, 1) := by decide +kernel
theorem dX5_way_118 : decode cX5_way 118 = .ok (.invokevirtual 97, 3) := by decide +kernel
theorem dX5_way_121 : decode cX5_way 121 = .ok (.istore 6, 2) := by decide +kernel
theorem dX5_way_123 : decode cX5_way 123 = .ok (.iinc 7 1, 3) := by decide +kernel
theorem dX5_way_126 : decode cX5_way 126 = .ok (.goto (-28), 3) := by decide +kernel
theorem dX5_way_129 : decode cX5_way 129 = .ok (.iload 6, 2) := by decide +kernel
theorem dX5_way_131 : decode cX5_way 131 = .ok (.ireturn, 1) := by decide +kernel
theorem dX5_without_0 : decode cX5_without 0 = .ok (.aload_n 0, 1) := by decide +kernel
theorem dX5_without_1 : decode cX5_without 1 = .ok (.iconst 0, 1) := by decide +kernel
theorem dX5_without_2 : decode cX5_without 2 = .ok (.putfield 47, 3) := by decide +kernel
theorem dX5_without_5 : decode cX5_without 5 = .ok (.aload_n 0, 1) := by decide +kernel
theorem dX5_without_6 : decode cX5_without 6 = .ok (.iload_n 1, 1) := by decide +kernel
theorem dX5_without_7 : decode cX5_without 7 = .ok (.invokevirtual 72, 3) := by decide +kernel
theorem dX5_without_10 : decode cX5_without 10 = .ok (.ifCond .ne 19, 3) := by decide +kernel
theorem dX5_without_13 : decode cX5_without 13 = .ok (.aload_n 0, 1) := by decide +kernel
theorem dX5_without_14 : decode cX5_without 14 = .ok (.iload_n 2, 1) := by decide +kernel
theorem dX5_without_15 : decode cX5_without 15 = .ok (.invokevirtual 72, 3) := by decide +kernel
theorem dX5_without_18 : decode cX5_without 18 = .ok (.ifCond .ne 11, 3) := by decide +kernel
theorem dX5_without_21 : decode cX5_without 21 = .ok (.aload_n 0, 1) := by decide +kernel
theorem dX5_without_22 : decode cX5_without 22 = .ok (.iload_n 3, 1) := by decide +kernel
theorem dX5_without_23 : decode cX5_without 23 = .ok (.invokevirtual 87, 3) := by decide +kernel
theorem dX5_without_26 : decode cX5_without 26 = .ok (.ifCond .eq 7, 3) := by decide +kernel
theorem dX5_without_29 : decode cX5_without 29 = .ok (.sipush (-1001), 3) := by decide +kernel
theorem dX5_without_32 : decode cX5_without 32 = .ok (.ireturn, 1) := by decide +kernel
theorem dX5_without_33 : decode cX5_without 33 = .ok (.aload_n 0, 1) := by decide +kernel
theorem dX5_without_34 : decode cX5_without 34 = .ok (.iload_n 3, 1) := by decide +kernel
theorem dX5_without_35 : decode cX5_without 35 = .ok (.sipush (-1000), 3) := by decide +kernel
theorem dX5_without_38 : decode cX5_without 38 = .ok (.invokevirtual 40, 3) := by decide +kernel
theorem dX5_without_41 : decode cX5_without 41 = .ok (.pop, 1) := by decide +kernel
theorem dX5_without_42 : decode cX5_without 42 = .ok (.aload_n 0, 1) := by decide +kernel
theorem dX5_without_43 : decode cX5_without 43 = .ok (.iload_n 1, 1) := by decide +kernel
theorem dX5_without_44 : decode cX5_without 44 = .ok (.iload_n 2, 1) := by decide +kernel
theorem dX5_without_45 : decode cX5_without 45 = .ok (.invokevirtual 80, 3) := by decide +kernel
theorem dX5_without_48 : decode cX5_without 48 = .ok (.ireturn, 1) := by decide +kernel
theorem dX5_vital_0 : decode cX5_vital 0 = .ok (.aload_n 0, 1) := by decide +kernel
theorem dX5_vital_1 : decode cX5_vital 1 = .ok (.iconst 0, 1) := by decide +kernel
theorem dX5_vital_2 : decode cX5_vital 2 = .ok (.putfield 47, 3) := by decide +kernel
theorem dX5_vital_5 : decode cX5_vital 5 = .ok (.aload_n 0, 1) := by decide +kernel
theorem dX5_vital_6 : decode cX5_vital 6 = .ok (.iload_n 1, 1) := by decide +kernel
theorem dX5_vital_7 : decode cX5_vital 7 = .ok (.invokevirtual 72, 3) := by decide +kernel
theorem dX5_vital_10 : decode cX5_vital 10 = .ok (.ifCond .ne 11, 3) := by decide +kernel
theorem dX5_vital_13 : decode cX5_vital 13 = .ok (.aload_n 0, 1) := by decide +kernel
theorem dX5_vital_14 : decode cX5_vital 14 = .ok (.iload_n 2, 1) := by decide +kernel
theorem dX5_vital_15 : decode cX5_vital 15 = .ok (.invokevirtual 72, 3) := by decide +kernel
theorem dX5_vital_18 : decode cX5_vital 18 = .ok (.ifCond .eq 7, 3) := by decide +kernel
theorem dX5_vital_21 : decode cX5_vital 21 = .ok (.sipush (-1001), 3) := by decide +kernel
theorem dX5_vital_24 : decode cX5_vital 24 = .ok (.ireturn, 1) := by decide +kernel
theorem dX5_vital_25 : decode cX5_vital 25 = .ok (.aload_n 0, 1) := by decide +kernel
theorem dX5_vital_26 : decode cX5_vital 26 = .ok (.sipush (-1000), 3) := by decide +kernel
theorem dX5_vital_29 : decode cX5_vital 29 = .ok (.sipush (-1000), 3) := by decide +kernel
theorem dX5_vital_32 : decode cX5_vital 32 = .ok (.invokevirtual 40, 3) := by decide +kernel
theorem dX5_vital_35 : decode cX5_vital 35 = .ok (.pop, 1) := by decide +kernel
theorem dX5_vital_36 : decode cX5_vital 36 = .ok (.aload_n 0, 1) := by decide +kernel
theorem dX5_vital_37 : decode cX5_vital 37 = .ok (.iload_n 1, 1) := by decide +kernel
theorem dX5_vital_38 : decode cX5_vital 38 = .ok (.iload_n 2, 1) := by decide +kernel
theorem dX5_vital_39 : decode cX5_vital 39 = .ok (.invokevirtual 80, 3) := by decide +kernel
theorem dX5_vital_42 : decode cX5_vital 42 = .ok (.istore 4, 2) := by decide +kernel
theorem dX5_vital_44 : decode cX5_vital 44 = .ok (.iconst 0, 1) := by decide +kernel
theorem dX5_vital_45 : decode cX5_vital 45 = .ok (.istore 5, 2) := by decide +kernel
theorem dX5_vital_47 : decode cX5_vital 47 = .ok (.iconst 0, 1) := by decide +kernel
theorem dX5_vital_48 : decode cX5_vital 48 = .ok (.istore 6, 2) := by decide +kernel
theorem dX5_vital_50 : decode cX5_vital 50 = .ok (.iload 6, 2) := by decide +kernel
theorem dX5_vital_52 : decode cX5_vital 52 = .ok (.aload_n 0, 1) := by decide +kernel
theorem dX5_vital_53 : decode cX5_vital 53 = .ok (.getfield 54, 3) := by decide +kernel
theorem dX5_vital_56 : decode cX5_vital 56 = .ok (.if_icmp .ge 50, 3) := by decide +kernel
theorem dX5_vital_59 : decode cX5_vital 59 = .ok (.iload 4, 2) := by decide +kernel
theorem dX5_vital_61 : decode cX5_vital 61 = .ok (.sipush (-1000), 3) := by decide +kernel
theorem dX5_vital_64 : decode cX5_vital 64 = .ok (.if_icmp .eq 42, 3) := by decide +kernel
theorem dX5_vital_67 : decode cX5_vital 67 = .ok (.aload_n 0, 1) := by decide +kernel
theorem dX5_vital_68 : decode cX5_vital 68 = .ok (.iload 6, 2) := by decide +kernel
theorem dX5_vital_70 : decode cX5_vital 70 = .ok (.sipush (-1000), 3) := by decide +kernel
theorem dX5_vital_73 : decode cX5_vital 73 = .ok (.invokevirtual 40, 3) := by decide +kernel
theorem dX5_vital_76 : decode cX5_vital 76 = .ok (.pop, 1) := by decide +kernel
theorem dX5_vital_77 : decode cX5_vital 77 = .ok (.aload_n 0, 1) := by decide +kernel
theorem dX5_vital_78 : decode cX5_vital 78 = .ok (.iload_n 1, 1) := by decide +kernel
theorem dX5_vital_79 : decode cX5_vital 79 = .ok (.iload_n 2, 1) := by decide +kernel
theorem dX5_vital_80 : decode cX5_vital 80 = .ok (.invokevirtual 80, 3) := by decide +kernel
theorem dX5_vital_83 : decode cX5_vital 83 = .ok (.iload 4, 2) := by decide +kernel
theorem dX5_vital_85 : decode cX5_vital 85 = .ok (.if_icmp .eq 15, 3) := by decide +kernel
theorem dX5_vital_88 : decode cX5_vital 88 = .ok (.iload 5, 2) := by decide +kernel
theorem dX5_vital_90 : decode cX5_vital 90 = .ok (.iload_n 3, 1) := by decide +kernel
theorem dX5_vital_91 : decode cX5_vital 91 = .ok (.if_icmp .ne 6, 3) := by decide +kernel
theorem dX5_vital_94 : decode cX5_vital 94 = .ok (.iload 6, 2) := by decide +kernel
theorem dX5_vital_96 : decode cX5_vital 96 = .ok (.ireturn, 1) := by decide +kernel
theorem dX5_vital_97 : decode cX5_vital 97 = .ok (.iinc 5 1, 3) := by decide +kernel
theorem dX5_vital_100 : decode cX5_vital 100 = .ok (.iinc 6 1, 3) := by decide +kernel
theorem dX5_vital_103 : decode cX5_vital 103 = .ok (.goto (-53), 3) := by decide +kernel
theorem dX5_vital_106 : decode cX5_vital 106 = .ok (.sipush (-1000), 3) := by decide +kernel
theorem dX5_vital_109 : decode cX5_vital 109 = .ok (.ireturn, 1) := by decide +kernel
theorem dX5_about_0 : decode cX5_about 0 = .ok (.aload_n 0, 1) := by decide +kernel
theorem dX5_about_1 : decode cX5_about 1 = .ok (.iconst 0, 1) := by decide +kernel
theorem dX5_about_2 : decode cX5_about 2 = .ok (.putfield 47, 3) := by decide +kernel
theorem dX5_about_5 : decode cX5_about 5 = .ok (.aload_n 0, 1) := by decide +kernel
theorem dX5_about_6 : decode cX5_about 6 = .ok (.iload_n 1, 1) := by decide +kernel
theorem dX5_about_7 : decode cX5_about 7 = .ok (.invokevirtual 72, 3) := by decide +kernel
theorem dX5_about_10 : decode cX5_about 10 = .ok (.ifCond .ne 19, 3) := by decide +kernel
theorem dX5_about_13 : decode cX5_about 13 = .ok (.aload_n 0, 1) := by decide +kernel
theorem dX5_about_14 : decode cX5_about 14 = .ok (.iload_n 2, 1) := by decide +kernel
theorem dX5_about_15 : decode cX5_about 15 = .ok (.invokevirtual 72, 3) := by decide +kernel
theorem dX5_about_18 : decode cX5_about 18 = .ok (.ifCond .ne 11, 3) := by decide +kernel
theorem dX5_about_21 : decode cX5_about 21 = .ok (.aload_n 0, 1) := by decide +kernel
theorem dX5_about_22 : decode cX5_about 22 = .ok (.iload_n 3, 1) := by decide +kernel
theorem dX5_about_23 : decode cX5_about 23 = .ok (.invokevirtual 72, 3) := by decide +kernel
theorem dX5_about_26 : decode cX5_about 26 = .ok (.ifCond .eq 7, 3) := by decide +kernel
theorem dX5_about_29 : decode cX5_about 29 = .ok (.sipush (-1001), 3) := by decide +kernel
theorem dX5_about_32 : decode cX5_about 32 = .ok (.ireturn, 1) := by decide +kernel
theorem dX5_about_33 : decode cX5_about 33 = .ok (.iload_n 3, 1) := by decide +kernel
theorem dX5_about_34 : decode cX5_about 34 = .ok (.iload_n 1, 1) := by decide +kernel
theorem dX5_about_35 : decode cX5_about 35 = .ok (.if_icmp .eq 8, 3) := by decide +kernel
theorem dX5_about_38 : decode cX5_about 38 = .ok (.iload_n 3, 1) := by decide +kernel
theorem dX5_about_39 : decode cX5_about 39 = .ok (.iload_n 2, 1) := by decide +kernel
theorem dX5_about_40 : decode cX5_about 40 = .ok (.if_icmp .ne 7, 3) := by decide +kernel
theorem dX5_about_43 : decode cX5_about 43 = .ok (.sipush (-1003), 3) := by decide +kernel
theorem dX5_about_46 : decode cX5_about 46 = .ok (.ireturn, 1) := by decide +kernel
theorem dX5_about_47 : decode cX5_about 47 = .ok (.aload_n 0, 1) := by decide +kernel
theorem dX5_about_48 : decode cX5_about 48 = .ok (.sipush (-1000), 3) := by decide +kernel
theorem dX5_about_51 : decode cX5_about 51 = .ok (.iload_n 3, 1) := by decide +kernel
theorem dX5_about_52 : decode cX5_about 52 = .ok (.invokevirtual 40, 3) := by decide +kernel
theorem dX5_about_55 : decode cX5_about 55 = .ok (.pop, 1) := by decide +kernel
theorem dX5_about_56 : decode cX5_about 56 = .ok (.aload_n 0, 1) := by decide +kernel
theorem dX5_about_57 : decode cX5_about 57 = .ok (.iload_n 1, 1) := by decide +kernel
theorem dX5_about_58 : decode cX5_about 58 = .ok (.iload_n 2, 1) := by decide +kernel
theorem dX5_about_59 : decode cX5_about 59 = .ok (.invokevirtual 80, 3) := by decide +kernel
theorem dX5_about_62 : decode cX5_about 62 = .ok (.ireturn, 1) := by decide +kernel
theorem dX5_ring_0 : decode cX5_ring 0 = .ok (.aload_n 0, 1) := by decide +kernel
theorem dX5_ring_1 : decode cX5_ring 1 = .ok (.iconst 0, 1) := by decide +kernel
theorem dX5_ring_2 : decode cX5_ring 2 = .ok (.putfield 47, 3) := by decide +kernel
theorem dX5_ring_5 : decode cX5_ring 5 = .ok (.aload_n 0, 1) := by decide +kernel
theorem dX5_ring_6 : decode cX5_ring 6 = .ok (.sipush (-1000), 3) := by decide +kernel
theorem dX5_ring_9 : decode cX5_ring 9 = .ok (.sipush (-1000), 3) := by decide +kernel
theorem dX5_ring_12 : decode cX5_ring 12 = .ok (.invokevirtual 40, 3) := by decide +kernel
theorem dX5_ring_15 : decode cX5_ring 15 = .ok (.pop, 1) := by decide +kernel
theorem dX5_ring_16 : decode cX5_ring 16 = .ok (.sipush (-1000), 3) := by decide +kernel
theorem dX5_ring_19 : decode cX5_ring 19 = .ok (.istore_n 1, 1) := by decide +kernel
theorem dX5_ring_20 : decode cX5_ring 20 = .ok (.iconst 0, 1) := by decide +kernel
theorem dX5_ring_21 : decode cX5_ring 21 = .ok (.istore_n 2, 1) := by decide +kernel
theorem dX5_ring_22 : decode cX5_ring 22 = .ok (.iload_n 2, 1) := by decide +kernel
theorem dX5_ring_23 : decode cX5_ring 23 = .ok (.aload_n 0, 1) := by decide +kernel
theorem dX5_ring_24 : decode cX5_ring 24 = .ok (.getfield 54, 3) := by decide +kernel
theorem dX5_ring_27 : decode cX5_ring 27 = .ok (.if_icmp .ge 123, 3) := by decide +kernel
theorem dX5_ring_30 : decode cX5_ring 30 = .ok (.iconst 0, 1) := by decide +kernel
theorem dX5_ring_31 : decode cX5_ring 31 = .ok (.istore_n 3, 1) := by decide +kernel
theorem dX5_ring_32 : decode cX5_ring 32 = .ok (.iload_n 3, 1) := by decide +kernel
theorem dX5_ring_33 : decode cX5_ring 33 = .ok (.aload_n 0, 1) := by decide +kernel
theorem dX5_ring_34 : decode cX5_ring 34 = .ok (.getfield 23, 3) := by decide +kernel
theorem dX5_ring_37 : decode cX5_ring 37 = .ok (.iload_n 2, 1) := by decide +kernel
theorem dX5_ring_38 : decode cX5_ring 38 = .ok (.baload, 1) := by decide +kernel
theorem dX5_ring_39 : decode cX5_ring 39 = .ok (.ifCond .eq 7, 3) := by decide +kernel
theorem dX5_ring_42 : decode cX5_ring 42 = .ok (.iconst 2, 1) := by decide +kernel
theorem dX5_ring_43 : decode cX5_ring 43 = .ok (.goto 4, 3) := by decide +kernel
theorem dX5_ring_46 : decode cX5_ring 46 = .ok (.iconst 1, 1) := by decide +kernel
theorem dX5_ring_47 : decode cX5_ring 47 = .ok (.if_icmp .ge 97, 3) := by decide +kernel
theorem dX5_ring_50 : decode cX5_ring 50 = .ok (.iload_n 3, 1) := by decide +kernel
theorem dX5_ring_51 : decode cX5_ring 51 = .ok (.ifCond .ne 22, 3) := by decide +kernel
theorem dX5_ring_54 : decode cX5_ring 54 = .ok (.aload_n 0, 1) := by decide +kernel
theorem dX5_ring_55 : decode cX5_ring 55 = .ok (.aload_n 0, 1) := by decide +kernel
theorem dX5_ring_56 : decode cX5_ring 56 = .ok (.getfield 17, 3) := by decide +kernel
theorem dX5_ring_59 : decode cX5_ring 59 = .ok (.iload_n 2, 1) := by decide +kernel
theorem dX5_ring_60 : decode cX5_ring 60 = .ok (.iaload, 1) := by decide +kernel
theorem dX5_ring_61 : decode cX5_ring 61 = .ok (.aload_n 0, 1) := by decide +kernel
theorem dX5_ring_62 : decode cX5_ring 62 = .ok (.getfield 13, 3) := by decide +kernel
theorem dX5_ring_65 : decode cX5_ring 65 = .ok (.iload_n 2, 1) := by decide +kernel
theorem dX5_ring_66 : decode cX5_ring 66 = .ok (.iaload, 1) := by decide +kernel
theorem dX5_ring_67 : decode cX5_ring 67 = .ok (.invokevirtual 80, 3) := by decide +kernel
theorem dX5_ring_70 : decode cX5_ring 70 = .ok (.goto 19, 3) := by decide +kernel
theorem dX5_ring_73 : decode cX5_ring 73 = .ok (.aload_n 0, 1) := by decide +kernel
theorem dX5_ring_74 : decode cX5_ring 74 = .ok (.aload_n 0, 1) := by decide +kernel
theorem dX5_ring_75 : decode cX5_ring 75 = .ok (.getfield 13, 3) := by decide +kernel
theorem dX5_ring_78 : decode cX5_ring 78 = .ok (.iload_n 2, 1) := by decide +kernel
theorem dX5_ring_79 : decode cX5_ring 79 = .ok (.iaload, 1) := by decide +kernel
theorem dX5_ring_80 : decode cX5_ring 80 = .ok (.aload_n 0, 1) := by decide +kernel
theorem dX5_ring_81 : decode cX5_ring 81 = .ok (.getfield 17, 3) := by decide +kernel
theorem dX5_ring_84 : decode cX5_ring 84 = .ok (.iload_n 2, 1) := by decide +kernel
theorem dX5_ring_85 : decode cX5_ring 85 = .ok (.iaload, 1) := by decide +kernel
theorem dX5_ring_86 : decode cX5_ring 86 = .ok (.invokevirtual 80, 3) := by decide +kernel
theorem dX5_ring_89 : decode cX5_ring 89 = .ok (.istore 4, 2) := by decide +kernel
theorem dX5_ring_91 : decode cX5_ring 91 = .ok (.aload_n 0, 1) := by decide +kernel
theorem dX5_ring_92 : decode cX5_ring 92 = .ok (.getfield 27, 3) := by decide +kernel
theorem dX5_ring_95 : decode cX5_ring 95 = .ok (.iload_n 2, 1) := by decide +kernel
theorem dX5_ring_96 : decode cX5_ring 96 = .ok (.baload, 1) := by decide +kernel
theorem dX5_ring_97 : decode cX5_ring 97 = .ok (.ifCond .eq 41, 3) := by decide +kernel
theorem dX5_ring_100 : decode cX5_ring 100 = .ok (.iload 4, 2) := by decide +kernel
theorem dX5_ring_102 : decode cX5_ring 102 = .ok (.sipush (-1000), 3) := by decide +kernel
theorem dX5_ring_105 : decode cX5_ring 105 = .ok (.if_icmp .eq 33, 3) := by decide +kernel
theorem dX5_ring_108 : decode cX5_ring 108 = .ok (.iload_n 1, 1) := by decide +kernel
theorem dX5_ring_109 : decode cX5_ring 109 = .ok (.sipush (-1000), 3) := by decide +kernel
theorem dX5_ring_112 : decode cX5_ring 112 = .ok (.if_icmp .eq 16, 3) := by decide +kernel
theorem dX5_ring_115 : decode cX5_ring 115 = .ok (.aload_n 0, 1) := by decide +kernel
theorem dX5_ring_116 : decode cX5_ring 116 = .ok (.getfield 20, 3) := by decide +kernel
theorem dX5_ring_119 : decode cX5_ring 119 = .ok (.iload_n 2, 1) := by decide +kernel
theorem dX5_ring_120 : decode cX5_ring 120 = .ok (.iaload, 1) := by decide +kernel
theorem dX5_ring_121 : decode cX5_ring 121 = .ok (.iload 4, 2) := by decide +kernel
theorem dX5_ring_123 : decode cX5_ring 123 = .ok (.iadd, 1) := by decide +kernel
theorem dX5_ring_124 : decode cX5_ring 124 = .ok (.iload_n 1, 1) := by decide +kernel
theorem dX5_ring_125 : decode cX5_ring 125 = .ok (.if_icmp .ge 13, 3) := by decide +kernel
theorem dX5_ring_128 : decode cX5_ring 128 = .ok (.aload_n 0, 1) := by decide +kernel
theorem dX5_ring_129 : decode cX5_ring 129 = .ok (.getfield 20, 3) := by decide +kernel
theorem dX5_ring_132 : decode cX5_ring 132 = .ok (.iload_n 2, 1) := by decide +kernel
theorem dX5_ring_133 : decode cX5_ring 133 = .ok (.iaload, 1) := by decide +kernel
theorem dX5_ring_134 : decode cX5_ring 134 = .ok (.iload 4, 2) := by decide +kernel
theorem dX5_ring_136 : decode cX5_ring 136 = .ok (.iadd, 1) := by decide +kernel
theorem dX5_ring_137 : decode cX5_ring 137 = .ok (.istore_n 1, 1) := by decide +kernel
theorem dX5_ring_138 : decode cX5_ring 138 = .ok (.iinc 3 1, 3) := by decide +kernel
theorem dX5_ring_141 : decode cX5_ring 141 = .ok (.goto (-109), 3) := by decide +kernel
theorem dX5_ring_144 : decode cX5_ring 144 = .ok (.iinc 2 1, 3) := by decide +kernel
theorem dX5_ring_147 : decode cX5_ring 147 = .ok (.goto (-125), 3) := by decide +kernel
theorem dX5_ring_150 : decode cX5_ring 150 = .ok (.iload_n 1, 1) := by decide +kernel
theorem dX5_ring_151 : decode cX5_ring 151 = .ok (.ireturn, 1) := by decide +kernel
theorem dX5_height_0 : decode cX5_height 0 = .ok (.aload_n 0, 1) := by decide +kernel
theorem dX5_height_1 : decode cX5_height 1 = .ok (.iconst 0, 1) := by decide +kernel
theorem dX5_height_2 : decode cX5_height 2 = .ok (.putfield 47, 3) := by decide +kernel
theorem dX5_height_5 : decode cX5_height 5 = .ok (.aload_n 0, 1) := by decide +kernel
theorem dX5_height_6 : decode cX5_height 6 = .ok (.iload_n 1, 1) := by decide +kernel
theorem dX5_height_7 : decode cX5_height 7 = .ok (.invokevirtual 72, 3) := by decide +kernel
theorem dX5_height_10 : decode cX5_height 10 = .ok (.ifCond .eq 7, 3) := by decide +kernel
theorem dX5_height_13 : decode cX5_height 13 = .ok (.sipush (-1001), 3) := by decide +kernel
theorem dX5_height_16 : decode cX5_height 16 = .ok (.ireturn, 1) := by decide +kernel
theorem dX5_height_17 : decode cX5_height 17 = .ok (.aload_n 0, 1) := by decide +kernel
theorem dX5_height_18 : decode cX5_height 18 = .ok (.sipush (-1000), 3) := by decide +kernel
theorem dX5_height_21 : decode cX5_height 21 = .ok (.sipush (-1000), 3) := by decide +kernel
theorem dX5_height_24 : decode cX5_height 24 = .ok (.invokevirtual 40, 3) := by decide +kernel
theorem dX5_height_27 : decode cX5_height 27 = .ok (.pop, 1) := by decide +kernel
theorem dX5_height_28 : decode cX5_height 28 = .ok (.aload_n 0, 1) := by decide +kernel
theorem dX5_height_29 : decode cX5_height 29 = .ok (.iload_n 1, 1) := by decide +kernel
theorem dX5_height_30 : decode cX5_height 30 = .ok (.invokevirtual 94, 3) := by decide +kernel
theorem dX5_height_33 : decode cX5_height 33 = .ok (.ireturn, 1) := by decide +kernel
theorem dX5_acts_0 : decode cX5_acts 0 = .ok (.aload_n 0, 1) := by decide +kernel
theorem dX5_acts_1 : decode cX5_acts 1 = .ok (.iconst 0, 1) := by decide +kernel
theorem dX5_acts_2 : decode cX5_acts 2 = .ok (.putfield 47, 3) := by decide +kernel
theorem dX5_acts_5 : decode cX5_acts 5 = .ok (.aload_n 0, 1) := by decide +kernel
theorem dX5_acts_6 : decode cX5_acts 6 = .ok (.getfield 62, 3) := by decide +kernel
theorem dX5_acts_9 : decode cX5_acts 9 = .ok (.ireturn, 1) := by decide +kernel
theorem dX5_isMoved_0 : decode cX5_isMoved 0 = .ok (.iload_n 2, 1) := by decide +kernel
theorem dX5_isMoved_1 : decode cX5_isMoved 1 = .ok (.bipush 10, 2) := by decide +kernel
theorem dX5_isMoved_3 : decode cX5_isMoved 3 = .ok (.idiv, 1) := by decide +kernel
theorem dX5_isMoved_4 : decode cX5_isMoved 4 = .ok (.aload_n 0, 1) := by decide +kernel
theorem dX5_isMoved_5 : decode cX5_isMoved 5 = .ok (.getfield 7, 3) := by decide +kernel
theorem dX5_isMoved_8 : decode cX5_isMoved 8 = .ok (.if_icmp .ge 46, 3) := by decide +kernel
theorem dX5_isMoved_11 : decode cX5_isMoved 11 = .ok (.iload_n 2, 1) := by decide +kernel
theorem dX5_isMoved_12 : decode cX5_isMoved 12 = .ok (.bipush 10, 2) := by decide +kernel
theorem dX5_isMoved_14 : decode cX5_isMoved 14 = .ok (.irem, 1) := by decide +kernel
theorem dX5_isMoved_15 : decode cX5_isMoved 15 = .ok (.aload_n 0, 1) := by decide +kernel
theorem dX5_isMoved_16 : decode cX5_isMoved 16 = .ok (.getfield 7, 3) := by decide +kernel
theorem dX5_isMoved_19 : decode cX5_isMoved 19 = .ok (.if_icmp .ge 35, 3) := by decide +kernel
theorem dX5_isMoved_22 : decode cX5_isMoved 22 = .ok (.aload_n 0, 1) := by decide +kernel
theorem dX5_isMoved_23 : decode cX5_isMoved 23 = .ok (.getfield 34, 3) := by decide +kernel
theorem dX5_isMoved_26 : decode cX5_isMoved 26 = .ok (.bipush 100, 2) := by decide +kernel
theorem dX5_isMoved_28 : decode cX5_isMoved 28 = .ok (.iload_n 1, 1) := by decide +kernel
theorem dX5_isMoved_29 : decode cX5_isMoved 29 = .ok (.imul, 1) := by decide +kernel
theorem dX5_isMoved_30 : decode cX5_isMoved 30 = .ok (.iload_n 2, 1) := by decide +kernel
theorem dX5_isMoved_31 : decode cX5_isMoved 31 = .ok (.iadd, 1) := by decide +kernel
theorem dX5_isMoved_32 : decode cX5_isMoved 32 = .ok (.iaload, 1) := by decide +kernel
theorem dX5_isMoved_33 : decode cX5_isMoved 33 = .ok (.aload_n 0, 1) := by decide +kernel
theorem dX5_isMoved_34 : decode cX5_isMoved 34 = .ok (.getfield 34, 3) := by decide +kernel
theorem dX5_isMoved_37 : decode cX5_isMoved 37 = .ok (.bipush 100, 2) := by decide +kernel
theorem dX5_isMoved_39 : decode cX5_isMoved 39 = .ok (.iload_n 1, 1) := by decide +kernel
theorem dX5_isMoved_40 : decode cX5_isMoved 40 = .ok (.imul, 1) := by decide +kernel
theorem dX5_isMoved_41 : decode cX5_isMoved 41 = .ok (.bipush 100, 2) := by decide +kernel
theorem dX5_isMoved_43 : decode cX5_isMoved 43 = .ok (.isub, 1) := by decide +kernel
theorem dX5_isMoved_44 : decode cX5_isMoved 44 = .ok (.iload_n 2, 1) := by decide +kernel
theorem dX5_isMoved_45 : decode cX5_isMoved 45 = .ok (.iadd, 1) := by decide +kernel
theorem dX5_isMoved_46 : decode cX5_isMoved 46 = .ok (.iaload, 1) := by decide +kernel
theorem dX5_isMoved_47 : decode cX5_isMoved 47 = .ok (.if_icmp .eq 7, 3) := by decide +kernel
theorem dX5_isMoved_50 : decode cX5_isMoved 50 = .ok (.iconst 1, 1) := by decide +kernel
theorem dX5_isMoved_51 : decode cX5_isMoved 51 = .ok (.goto 4, 3) := by decide +kernel
theorem dX5_isMoved_54 : decode cX5_isMoved 54 = .ok (.iconst 0, 1) := by decide +kernel
theorem dX5_isMoved_55 : decode cX5_isMoved 55 = .ok (.ireturn, 1) := by decide +kernel
theorem dX5_moved_0 : decode cX5_moved 0 = .ok (.aload_n 0, 1) := by decide +kernel
theorem dX5_moved_1 : decode cX5_moved 1 = .ok (.iconst 0, 1) := by decide +kernel
theorem dX5_moved_2 : decode cX5_moved 2 = .ok (.putfield 47, 3) := by decide +kernel
theorem dX5_moved_5 : decode cX5_moved 5 = .ok (.iload_n 1, 1) := by decide +kernel
theorem dX5_moved_6 : decode cX5_moved 6 = .ok (.i2l, 1) := by decide +kernel
theorem dX5_moved_7 : decode cX5_moved 7 = .ok (.lconst 1, 1) := by decide +kernel
theorem dX5_moved_8 : decode cX5_moved 8 = .ok (.aload_n 0, 1) := by decide +kernel
theorem dX5_moved_9 : decode cX5_moved 9 = .ok (.getfield 62, 3) := by decide +kernel
theorem dX5_moved_12 : decode cX5_moved 12 = .ok (.i2l, 1) := by decide +kernel
theorem dX5_moved_13 : decode cX5_moved 13 = .ok (.invokestatic 50, 3) := by decide +kernel
theorem dX5_moved_16 : decode cX5_moved 16 = .ok (.ifCond .ne 7, 3) := by decide +kernel
theorem dX5_moved_19 : decode cX5_moved 19 = .ok (.sipush (-1001), 3) := by decide +kernel
theorem dX5_moved_22 : decode cX5_moved 22 = .ok (.ireturn, 1) := by decide +kernel
theorem dX5_moved_23 : decode cX5_moved 23 = .ok (.iconst 0, 1) := by decide +kernel
theorem dX5_moved_24 : decode cX5_moved 24 = .ok (.istore_n 2, 1) := by decide +kernel
theorem dX5_moved_25 : decode cX5_moved 25 = .ok (.iconst 0, 1) := by decide +kernel
theorem dX5_moved_26 : decode cX5_moved 26 = .ok (.istore_n 3, 1) := by decide +kernel
theorem dX5_moved_27 : decode cX5_moved 27 = .ok (.iload_n 3, 1) := by decide +kernel
theorem dX5_moved_28 : decode cX5_moved 28 = .ok (.bipush 100, 2) := by decide +kernel
theorem dX5_moved_30 : decode cX5_moved 30 = .ok (.if_icmp .ge 26, 3) := by decide +kernel
theorem dX5_moved_33 : decode cX5_moved 33 = .ok (.iload_n 2, 1) := by decide +kernel
theorem dX5_moved_34 : decode cX5_moved 34 = .ok (.aload_n 0, 1) := by decide +kernel
theorem dX5_moved_35 : decode cX5_moved 35 = .ok (.iload_n 1, 1) := by decide +kernel
theorem dX5_moved_36 : decode cX5_moved 36 = .ok (.iload_n 3, 1) := by decide +kernel
theorem dX5_moved_37 : decode cX5_moved 37 = .ok (.invokevirtual 103, 3) := by decide +kernel
theorem dX5_moved_40 : decode cX5_moved 40 = .ok (.ifCond .eq 7, 3) := by decide +kernel
theorem dX5_moved_43 : decode cX5_moved 43 = .ok (.iconst 1, 1) := by decide +kernel
theorem dX5_moved_44 : decode cX5_moved 44 = .ok (.goto 4, 3) := by decide +kernel
theorem dX5_moved_47 : decode cX5_moved 47 = .ok (.iconst 0, 1) := by decide +kernel
theorem dX5_moved_48 : decode cX5_moved 48 = .ok (.iadd, 1) := by decide +kernel
theorem dX5_moved_49 : decode cX5_moved 49 = .ok (.istore_n 2, 1) := by decide +kernel
theorem dX5_moved_50 : decode cX5_moved 50 = .ok (.iinc 3 1, 3) := by decide +kernel
theorem dX5_moved_53 : decode cX5_moved 53 = .ok (.goto (-26), 3) := by decide +kernel
theorem dX5_moved_56 : decode cX5_moved 56 = .ok (.iload_n 2, 1) := by decide +kernel
theorem dX5_moved_57 : decode cX5_moved 57 = .ok (.ireturn, 1) := by decide +kernel
theorem dX5_pair_0 : decode cX5_pair 0 = .ok (.aload_n 0, 1) := by decide +kernel
theorem dX5_pair_1 : decode cX5_pair 1 = .ok (.iconst 0, 1) := by decide +kernel
theorem dX5_pair_2 : decode cX5_pair 2 = .ok (.putfield 47, 3) := by decide +kernel
theorem dX5_pair_5 : decode cX5_pair 5 = .ok (.iload_n 1, 1) := by decide +kernel
theorem dX5_pair_6 : decode cX5_pair 6 = .ok (.i2l, 1) := by decide +kernel
theorem dX5_pair_7 : decode cX5_pair 7 = .ok (.lconst 1, 1) := by decide +kernel
theorem dX5_pair_8 : decode cX5_pair 8 = .ok (.aload_n 0, 1) := by decide +kernel
theorem dX5_pair_9 : decode cX5_pair 9 = .ok (.getfield 62, 3) := by decide +kernel
theorem dX5_pair_12 : decode cX5_pair 12 = .ok (.i2l, 1) := by decide +kernel
theorem dX5_pair_13 : decode cX5_pair 13 = .ok (.invokestatic 50, 3) := by decide +kernel
theorem dX5_pair_16 : decode cX5_pair 16 = .ok (.ifCond .ne 7, 3) := by decide +kernel
theorem dX5_pair_19 : decode cX5_pair 19 = .ok (.sipush (-1001), 3) := by decide +kernel
theorem dX5_pair_22 : decode cX5_pair 22 = .ok (.ireturn, 1) := by decide +kernel
theorem dX5_pair_23 : decode cX5_pair 23 = .ok (.iconst 0, 1) := by decide +kernel
theorem dX5_pair_24 : decode cX5_pair 24 = .ok (.istore_n 3, 1) := by decide +kernel
theorem dX5_pair_25 : decode cX5_pair 25 = .ok (.iconst 0, 1) := by decide +kernel
theorem dX5_pair_26 : decode cX5_pair 26 = .ok (.istore 4, 2) := by decide +kernel
theorem dX5_pair_28 : decode cX5_pair 28 = .ok (.iload 4, 2) := by decide +kernel
theorem dX5_pair_30 : decode cX5_pair 30 = .ok (.bipush 100, 2) := by decide +kernel
theorem dX5_pair_32 : decode cX5_pair 32 = .ok (.if_icmp .ge 30, 3) := by decide +kernel
theorem dX5_pair_35 : decode cX5_pair 35 = .ok (.aload_n 0, 1) := by decide +kernel
theorem dX5_pair_36 : decode cX5_pair 36 = .ok (.iload_n 1, 1) := by decide +kernel
theorem dX5_pair_37 : decode cX5_pair 37 = .ok (.iload 4, 2) := by decide +kernel
theorem dX5_pair_39 : decode cX5_pair 39 = .ok (.invokevirtual 103, 3) := by decide +kernel
theorem dX5_pair_42 : decode cX5_pair 42 = .ok (.ifCond .eq 14, 3) := by decide +kernel
theorem dX5_pair_45 : decode cX5_pair 45 = .ok (.iload_n 3, 1) := by decide +kernel
theorem dX5_pair_46 : decode cX5_pair 46 = .ok (.iload_n 2, 1) := by decide +kernel
theorem dX5_pair_47 : decode cX5_pair 47 = .ok (.if_icmp .ne 6, 3) := by decide +kernel
theorem dX5_pair_50 : decode cX5_pair 50 = .ok (.iload 4, 2) := by decide +kernel
theorem dX5_pair_52 : decode cX5_pair 52 = .ok (.ireturn, 1) := by decide +kernel
theorem dX5_pair_53 : decode cX5_pair 53 = .ok (.iinc 3 1, 3) := by decide +kernel
theorem dX5_pair_56 : decode cX5_pair 56 = .ok (.iinc 4 1, 3) := by decide +kernel
theorem dX5_pair_59 : decode cX5_pair 59 = .ok (.goto (-31), 3) := by decide +kernel
theorem dX5_pair_62 : decode cX5_pair 62 = .ok (.sipush (-1000), 3) := by decide +kernel
theorem dX5_pair_65 : decode cX5_pair 65 = .ok (.ireturn, 1) := by decide +kernel
theorem dX5_then_0 : decode cX5_then 0 = .ok (.aload_n 0, 1) := by decide +kernel
theorem dX5_then_1 : decode cX5_then 1 = .ok (.iconst 0, 1) := by decide +kernel
theorem dX5_then_2 : decode cX5_then 2 = .ok (.putfield 47, 3) := by decide +kernel
theorem dX5_then_5 : decode cX5_then 5 = .ok (.aload_n 0, 1) := by decide +kernel
theorem dX5_then_6 : decode cX5_then 6 = .ok (.iload_n 2, 1) := by decide +kernel
theorem dX5_then_7 : decode cX5_then 7 = .ok (.invokevirtual 72, 3) := by decide +kernel
theorem dX5_then_10 : decode cX5_then 10 = .ok (.ifCond .ne 25, 3) := by decide +kernel
theorem dX5_then_13 : decode cX5_then 13 = .ok (.aload_n 0, 1) := by decide +kernel
theorem dX5_then_14 : decode cX5_then 14 = .ok (.iload_n 3, 1) := by decide +kernel
theorem dX5_then_15 : decode cX5_then 15 = .ok (.invokevirtual 72, 3) := by decide +kernel
theorem dX5_then_18 : decode cX5_then 18 = .ok (.ifCond .ne 17, 3) := by decide +kernel
theorem dX5_then_21 : decode cX5_then 21 = .ok (.iload_n 1, 1) := by decide +kernel
theorem dX5_then_22 : decode cX5_then 22 = .ok (.i2l, 1) := by decide +kernel
theorem dX5_then_23 : decode cX5_then 23 = .ok (.lconst 0, 1) := by decide +kernel
theorem dX5_then_24 : decode cX5_then 24 = .ok (.aload_n 0, 1) := by decide +kernel
theorem dX5_then_25 : decode cX5_then 25 = .ok (.getfield 62, 3) := by decide +kernel
theorem dX5_then_28 : decode cX5_then 28 = .ok (.i2l, 1) := by decide +kernel
theorem dX5_then_29 : decode cX5_then 29 = .ok (.invokestatic 50, 3) := by decide +kernel
theorem dX5_then_32 : decode cX5_then 32 = .ok (.ifCond .ne 9, 3) := by decide +kernel
theorem dX5_then_35 : decode cX5_then 35 = .ok (.sipush (-1001), 3) := by decide +kernel
theorem dX5_then_38 : decode cX5_then 38 = .ok (.goto 19, 3) := by decide +kernel
theorem dX5_then_41 : decode cX5_then 41 = .ok (.aload_n 0, 1) := by decide +kernel
theorem dX5_then_42 : decode cX5_then 42 = .ok (.getfield 34, 3) := by decide +kernel
theorem dX5_then_45 : decode cX5_then 45 = .ok (.bipush 100, 2) := by decide +kernel
theorem dX5_then_47 : decode cX5_then 47 = .ok (.iload_n 1, 1) := by decide +kernel
theorem dX5_then_48 : decode cX5_then 48 = .ok (.imul, 1) := by decide +kernel
theorem dX5_then_49 : decode cX5_then 49 = .ok (.bipush 10, 2) := by decide +kernel
theorem dX5_then_51 : decode cX5_then 51 = .ok (.iload_n 2, 1) := by decide +kernel
theorem dX5_then_52 : decode cX5_then 52 = .ok (.imul, 1) := by decide +kernel
theorem dX5_then_53 : decode cX5_then 53 = .ok (.iadd, 1) := by decide +kernel
theorem dX5_then_54 : decode cX5_then 54 = .ok (.iload_n 3, 1) := by decide +kernel
theorem dX5_then_55 : decode cX5_then 55 = .ok (.iadd, 1) := by decide +kernel
theorem dX5_then_56 : decode cX5_then 56 = .ok (.iaload, 1) := by decide +kernel
theorem dX5_then_57 : decode cX5_then 57 = .ok (.ireturn, 1) := by decide +kernel
theorem dX5_since_0 : decode cX5_since 0 = .ok (.aload_n 0, 1) := by decide +kernel
theorem dX5_since_1 : decode cX5_since 1 = .ok (.iconst 0, 1) := by decide +kernel
theorem dX5_since_2 : decode cX5_since 2 = .ok (.putfield 47, 3) := by decide +kernel
theorem dX5_since_5 : decode cX5_since 5 = .ok (.aload_n 0, 1) := by decide +kernel
theorem dX5_since_6 : decode cX5_since 6 = .ok (.iload_n 2, 1) := by decide +kernel
theorem dX5_since_7 : decode cX5_since 7 = .ok (.invokevirtual 72, 3) := by decide +kernel
theorem dX5_since_10 : decode cX5_since 10 = .ok (.ifCond .ne 25, 3) := by decide +kernel
theorem dX5_since_13 : decode cX5_since 13 = .ok (.aload_n 0, 1) := by decide +kernel
theorem dX5_since_14 : decode cX5_since 14 = .ok (.iload_n 3, 1) := by decide +kernel
theorem dX5_since_15 : decode cX5_since 15 = .ok (.invokevirtual 72, 3) := by decide +kernel
theorem dX5_since_18 : decode cX5_since 18 = .ok (.ifCond .ne 17, 3) := by decide +kernel
theorem dX5_since_21 : decode cX5_since 21 = .ok (.iload_n 1, 1) := by decide +kernel
theorem dX5_since_22 : decode cX5_since 22 = .ok (.i2l, 1) := by decide +kernel
theorem dX5_since_23 : decode cX5_since 23 = .ok (.lconst 1, 1) := by decide +kernel
theorem dX5_since_24 : decode cX5_since 24 = .ok (.aload_n 0, 1) := by decide +kernel
theorem dX5_since_25 : decode cX5_since 25 = .ok (.getfield 62, 3) := by decide +kernel
theorem dX5_since_28 : decode cX5_since 28 = .ok (.i2l, 1) := by decide +kernel
theorem dX5_since_29 : decode cX5_since 29 = .ok (.invokestatic 50, 3) := by decide +kernel
theorem dX5_since_32 : decode cX5_since 32 = .ok (.ifCond .ne 7, 3) := by decide +kernel
theorem dX5_since_35 : decode cX5_since 35 = .ok (.sipush (-1001), 3) := by decide +kernel
theorem dX5_since_38 : decode cX5_since 38 = .ok (.ireturn, 1) := by decide +kernel
theorem dX5_since_39 : decode cX5_since 39 = .ok (.iload 4, 2) := by decide +kernel
theorem dX5_since_41 : decode cX5_since 41 = .ok (.i2l, 1) := by decide +kernel
theorem dX5_since_42 : decode cX5_since 42 = .ok (.ldc2_w 106, 3) := by decide +kernel
theorem dX5_since_45 : decode cX5_since 45 = .ok (.ldc2_w 108, 3) := by decide +kernel
theorem dX5_since_48 : decode cX5_since 48 = .ok (.invokestatic 50, 3) := by decide +kernel
theorem dX5_since_51 : decode cX5_since 51 = .ok (.ifCond .ne 7, 3) := by decide +kernel
theorem dX5_since_54 : decode cX5_since 54 = .ok (.sipush (-1002), 3) := by decide +kernel
theorem dX5_since_57 : decode cX5_since 57 = .ok (.ireturn, 1) := by decide +kernel
theorem dX5_since_58 : decode cX5_since 58 = .ok (.iload_n 1, 1) := by decide +kernel
theorem dX5_since_59 : decode cX5_since 59 = .ok (.istore 5, 2) := by decide +kernel
theorem dX5_since_61 : decode cX5_since 61 = .ok (.iload 5, 2) := by decide +kernel
theorem dX5_since_63 : decode cX5_since 63 = .ok (.aload_n 0, 1) := by decide +kernel
theorem dX5_since_64 : decode cX5_since 64 = .ok (.getfield 62, 3) := by decide +kernel
theorem dX5_since_67 : decode cX5_since 67 = .ok (.if_icmp .gt 46, 3) := by decide +kernel
theorem dX5_since_70 : decode cX5_since 70 = .ok (.aload_n 0, 1) := by decide +kernel
theorem dX5_since_71 : decode cX5_since 71 = .ok (.getfield 34, 3) := by decide +kernel
theorem dX5_since_74 : decode cX5_since 74 = .ok (.bipush 100, 2) := by decide +kernel
theorem dX5_since_76 : decode cX5_since 76 = .ok (.iload 5, 2) := by decide +kernel
theorem dX5_since_78 : decode cX5_since 78 = .ok (.imul, 1) := by decide +kernel
theorem dX5_since_79 : decode cX5_since 79 = .ok (.bipush 10, 2) := by decide +kernel
theorem dX5_since_81 : decode cX5_since 81 = .ok (.iload_n 2, 1) := by decide +kernel
theorem dX5_since_82 : decode cX5_since 82 = .ok (.imul, 1) := by decide +kernel
theorem dX5_since_83 : decode cX5_since 83 = .ok (.iadd, 1) := by decide +kernel
theorem dX5_since_84 : decode cX5_since 84 = .ok (.iload_n 3, 1) := by decide +kernel
theorem dX5_since_85 : decode cX5_since 85 = .ok (.iadd, 1) := by decide +kernel
theorem dX5_since_86 : decode cX5_since 86 = .ok (.iaload, 1) := by decide +kernel
theorem dX5_since_87 : decode cX5_since 87 = .ok (.istore 6, 2) := by decide +kernel
theorem dX5_since_89 : decode cX5_since 89 = .ok (.iload 6, 2) := by decide +kernel
theorem dX5_since_91 : decode cX5_since 91 = .ok (.sipush (-1000), 3) := by decide +kernel
theorem dX5_since_94 : decode cX5_since 94 = .ok (.if_icmp .eq 13, 3) := by decide +kernel
theorem dX5_since_97 : decode cX5_since 97 = .ok (.iload 6, 2) := by decide +kernel
theorem dX5_since_99 : decode cX5_since 99 = .ok (.iload 4, 2) := by decide +kernel
theorem dX5_since_101 : decode cX5_since 101 = .ok (.if_icmp .gt 6, 3) := by decide +kernel
theorem dX5_since_104 : decode cX5_since 104 = .ok (.iload 5, 2) := by decide +kernel
theorem dX5_since_106 : decode cX5_since 106 = .ok (.ireturn, 1) := by decide +kernel
theorem dX5_since_107 : decode cX5_since 107 = .ok (.iinc 5 1, 3) := by decide +kernel
theorem dX5_since_110 : decode cX5_since 110 = .ok (.goto (-49), 3) := by decide +kernel
theorem dX5_since_113 : decode cX5_since 113 = .ok (.sipush (-1000), 3) := by decide +kernel
theorem dX5_since_116 : decode cX5_since 116 = .ok (.ireturn, 1) := by decide +kernel
theorem dX5_marks_0 : decode cX5_marks 0 = .ok (.aload_n 0, 1) := by decide +kernel
theorem dX5_marks_1 : decode cX5_marks 1 = .ok (.iconst 0, 1) := by decide +kernel
theorem dX5_marks_2 : decode cX5_marks 2 = .ok (.putfield 47, 3) := by decide +kernel
theorem dX5_marks_5 : decode cX5_marks 5 = .ok (.iload_n 1, 1) := by decide +kernel
theorem dX5_marks_6 : decode cX5_marks 6 = .ok (.ifCond .lt 12, 3) := by decide +kernel
theorem dX5_marks_9 : decode cX5_marks 9 = .ok (.iload_n 1, 1) := by decide +kernel
theorem dX5_marks_10 : decode cX5_marks 10 = .ok (.aload_n 0, 1) := by decide +kernel
theorem dX5_marks_11 : decode cX5_marks 11 = .ok (.getfield 7, 3) := by decide +kernel
theorem dX5_marks_14 : decode cX5_marks 14 = .ok (.ishr, 1) := by decide +kernel
theorem dX5_marks_15 : decode cX5_marks 15 = .ok (.ifCond .eq 7, 3) := by decide +kernel
theorem dX5_marks_18 : decode cX5_marks 18 = .ok (.sipush (-1002), 3) := by decide +kernel
theorem dX5_marks_21 : decode cX5_marks 21 = .ok (.ireturn, 1) := by decide +kernel
theorem dX5_marks_22 : decode cX5_marks 22 = .ok (.aload_n 0, 1) := by decide +kernel
theorem dX5_marks_23 : decode cX5_marks 23 = .ok (.getfield 69, 3) := by decide +kernel
theorem dX5_marks_26 : decode cX5_marks 26 = .ok (.istore_n 2, 1) := by decide +kernel
theorem dX5_marks_27 : decode cX5_marks 27 = .ok (.aload_n 0, 1) := by decide +kernel
theorem dX5_marks_28 : decode cX5_marks 28 = .ok (.iload_n 1, 1) := by decide +kernel
theorem dX5_marks_29 : decode cX5_marks 29 = .ok (.putfield 69, 3) := by decide +kernel
end
section
theorem dX5_marks_32 : decode cX5_marks 32 = .ok (.iload_n 2, 1) := by decide +kernel
theorem dX5_marks_33 : decode cX5_marks 33 = .ok (.ireturn, 1) := by decide +kernel
theorem dX5_nearOf_0 : decode cX5_nearOf 0 = .ok (.sipush (-1000), 3) := by decide +kernel
theorem dX5_nearOf_3 : decode cX5_nearOf 3 = .ok (.istore_n 3, 1) := by decide +kernel
theorem dX5_nearOf_4 : decode cX5_nearOf 4 = .ok (.iconst 0, 1) := by decide +kernel
theorem dX5_nearOf_5 : decode cX5_nearOf 5 = .ok (.istore 4, 2) := by decide +kernel
theorem dX5_nearOf_7 : decode cX5_nearOf 7 = .ok (.iload 4, 2) := by decide +kernel
theorem dX5_nearOf_9 : decode cX5_nearOf 9 = .ok (.aload_n 0, 1) := by decide +kernel
theorem dX5_nearOf_10 : decode cX5_nearOf 10 = .ok (.getfield 7, 3) := by decide +kernel
theorem dX5_nearOf_13 : decode cX5_nearOf 13 = .ok (.if_icmp .ge 85, 3) := by decide +kernel
theorem dX5_nearOf_16 : decode cX5_nearOf 16 = .ok (.aload_n 0, 1) := by decide +kernel
theorem dX5_nearOf_17 : decode cX5_nearOf 17 = .ok (.getfield 69, 3) := by decide +kernel
theorem dX5_nearOf_20 : decode cX5_nearOf 20 = .ok (.iload 4, 2) := by decide +kernel
theorem dX5_nearOf_22 : decode cX5_nearOf 22 = .ok (.ishr, 1) := by decide +kernel
theorem dX5_nearOf_23 : decode cX5_nearOf 23 = .ok (.iconst 1, 1) := by decide +kernel
theorem dX5_nearOf_24 : decode cX5_nearOf 24 = .ok (.iand, 1) := by decide +kernel
theorem dX5_nearOf_25 : decode cX5_nearOf 25 = .ok (.iconst 1, 1) := by decide +kernel
theorem dX5_nearOf_26 : decode cX5_nearOf 26 = .ok (.if_icmp .ne 66, 3) := by decide +kernel
theorem dX5_nearOf_29 : decode cX5_nearOf 29 = .ok (.aload_n 0, 1) := by decide +kernel
theorem dX5_nearOf_30 : decode cX5_nearOf 30 = .ok (.iload_n 1, 1) := by decide +kernel
theorem dX5_nearOf_31 : decode cX5_nearOf 31 = .ok (.iload 4, 2) := by decide +kernel
theorem dX5_nearOf_33 : decode cX5_nearOf 33 = .ok (.invokevirtual 80, 3) := by decide +kernel
theorem dX5_nearOf_36 : decode cX5_nearOf 36 = .ok (.sipush (-1000), 3) := by decide +kernel
theorem dX5_nearOf_39 : decode cX5_nearOf 39 = .ok (.if_icmp .eq 53, 3) := by decide +kernel
theorem dX5_nearOf_42 : decode cX5_nearOf 42 = .ok (.aload_n 0, 1) := by decide +kernel
theorem dX5_nearOf_43 : decode cX5_nearOf 43 = .ok (.iload 4, 2) := by decide +kernel
theorem dX5_nearOf_45 : decode cX5_nearOf 45 = .ok (.iload_n 2, 1) := by decide +kernel
theorem dX5_nearOf_46 : decode cX5_nearOf 46 = .ok (.invokevirtual 80, 3) := by decide +kernel
theorem dX5_nearOf_49 : decode cX5_nearOf 49 = .ok (.sipush (-1000), 3) := by decide +kernel
theorem dX5_nearOf_52 : decode cX5_nearOf 52 = .ok (.if_icmp .eq 40, 3) := by decide +kernel
theorem dX5_nearOf_55 : decode cX5_nearOf 55 = .ok (.aload_n 0, 1) := by decide +kernel
theorem dX5_nearOf_56 : decode cX5_nearOf 56 = .ok (.iload_n 1, 1) := by decide +kernel
theorem dX5_nearOf_57 : decode cX5_nearOf 57 = .ok (.iload 4, 2) := by decide +kernel
theorem dX5_nearOf_59 : decode cX5_nearOf 59 = .ok (.invokevirtual 80, 3) := by decide +kernel
theorem dX5_nearOf_62 : decode cX5_nearOf 62 = .ok (.aload_n 0, 1) := by decide +kernel
theorem dX5_nearOf_63 : decode cX5_nearOf 63 = .ok (.iload 4, 2) := by decide +kernel
theorem dX5_nearOf_65 : decode cX5_nearOf 65 = .ok (.iload_n 2, 1) := by decide +kernel
theorem dX5_nearOf_66 : decode cX5_nearOf 66 = .ok (.invokevirtual 80, 3) := by decide +kernel
theorem dX5_nearOf_69 : decode cX5_nearOf 69 = .ok (.iadd, 1) := by decide +kernel
theorem dX5_nearOf_70 : decode cX5_nearOf 70 = .ok (.istore 5, 2) := by decide +kernel
theorem dX5_nearOf_72 : decode cX5_nearOf 72 = .ok (.iload_n 3, 1) := by decide +kernel
theorem dX5_nearOf_73 : decode cX5_nearOf 73 = .ok (.sipush (-1000), 3) := by decide +kernel
theorem dX5_nearOf_76 : decode cX5_nearOf 76 = .ok (.if_icmp .eq 9, 3) := by decide +kernel
theorem dX5_nearOf_79 : decode cX5_nearOf 79 = .ok (.iload 5, 2) := by decide +kernel
theorem dX5_nearOf_81 : decode cX5_nearOf 81 = .ok (.iload_n 3, 1) := by decide +kernel
theorem dX5_nearOf_82 : decode cX5_nearOf 82 = .ok (.if_icmp .ge 8, 3) := by decide +kernel
theorem dX5_nearOf_85 : decode cX5_nearOf 85 = .ok (.iload 5, 2) := by decide +kernel
theorem dX5_nearOf_87 : decode cX5_nearOf 87 = .ok (.goto 4, 3) := by decide +kernel
theorem dX5_nearOf_90 : decode cX5_nearOf 90 = .ok (.iload_n 3, 1) := by decide +kernel
theorem dX5_nearOf_91 : decode cX5_nearOf 91 = .ok (.istore_n 3, 1) := by decide +kernel
theorem dX5_nearOf_92 : decode cX5_nearOf 92 = .ok (.iinc 4 1, 3) := by decide +kernel
theorem dX5_nearOf_95 : decode cX5_nearOf 95 = .ok (.goto (-88), 3) := by decide +kernel
theorem dX5_nearOf_98 : decode cX5_nearOf 98 = .ok (.iload_n 3, 1) := by decide +kernel
theorem dX5_nearOf_99 : decode cX5_nearOf 99 = .ok (.ireturn, 1) := by decide +kernel
theorem dX5_near_0 : decode cX5_near 0 = .ok (.aload_n 0, 1) := by decide +kernel
theorem dX5_near_1 : decode cX5_near 1 = .ok (.iconst 0, 1) := by decide +kernel
theorem dX5_near_2 : decode cX5_near 2 = .ok (.putfield 47, 3) := by decide +kernel
theorem dX5_near_5 : decode cX5_near 5 = .ok (.aload_n 0, 1) := by decide +kernel
theorem dX5_near_6 : decode cX5_near 6 = .ok (.iload_n 1, 1) := by decide +kernel
theorem dX5_near_7 : decode cX5_near 7 = .ok (.invokevirtual 72, 3) := by decide +kernel
theorem dX5_near_10 : decode cX5_near 10 = .ok (.ifCond .ne 11, 3) := by decide +kernel
theorem dX5_near_13 : decode cX5_near 13 = .ok (.aload_n 0, 1) := by decide +kernel
theorem dX5_near_14 : decode cX5_near 14 = .ok (.iload_n 2, 1) := by decide +kernel
theorem dX5_near_15 : decode cX5_near 15 = .ok (.invokevirtual 72, 3) := by decide +kernel
theorem dX5_near_18 : decode cX5_near 18 = .ok (.ifCond .eq 7, 3) := by decide +kernel
theorem dX5_near_21 : decode cX5_near 21 = .ok (.sipush (-1001), 3) := by decide +kernel
theorem dX5_near_24 : decode cX5_near 24 = .ok (.ireturn, 1) := by decide +kernel
theorem dX5_near_25 : decode cX5_near 25 = .ok (.aload_n 0, 1) := by decide +kernel
theorem dX5_near_26 : decode cX5_near 26 = .ok (.sipush (-1000), 3) := by decide +kernel
theorem dX5_near_29 : decode cX5_near 29 = .ok (.sipush (-1000), 3) := by decide +kernel
theorem dX5_near_32 : decode cX5_near 32 = .ok (.invokevirtual 40, 3) := by decide +kernel
theorem dX5_near_35 : decode cX5_near 35 = .ok (.pop, 1) := by decide +kernel
theorem dX5_near_36 : decode cX5_near 36 = .ok (.aload_n 0, 1) := by decide +kernel
theorem dX5_near_37 : decode cX5_near 37 = .ok (.iload_n 1, 1) := by decide +kernel
theorem dX5_near_38 : decode cX5_near 38 = .ok (.iload_n 2, 1) := by decide +kernel
theorem dX5_near_39 : decode cX5_near 39 = .ok (.invokevirtual 110, 3) := by decide +kernel
theorem dX5_near_42 : decode cX5_near 42 = .ok (.ireturn, 1) := by decide +kernel
theorem dX5_worst_0 : decode cX5_worst 0 = .ok (.aload_n 0, 1) := by decide +kernel
theorem dX5_worst_1 : decode cX5_worst 1 = .ok (.iconst 0, 1) := by decide +kernel
theorem dX5_worst_2 : decode cX5_worst 2 = .ok (.putfield 47, 3) := by decide +kernel
theorem dX5_worst_5 : decode cX5_worst 5 = .ok (.aload_n 0, 1) := by decide +kernel
theorem dX5_worst_6 : decode cX5_worst 6 = .ok (.sipush (-1000), 3) := by decide +kernel
theorem dX5_worst_9 : decode cX5_worst 9 = .ok (.sipush (-1000), 3) := by decide +kernel
theorem dX5_worst_12 : decode cX5_worst 12 = .ok (.invokevirtual 40, 3) := by decide +kernel
theorem dX5_worst_15 : decode cX5_worst 15 = .ok (.pop, 1) := by decide +kernel
theorem dX5_worst_16 : decode cX5_worst 16 = .ok (.iconst 0, 1) := by decide +kernel
theorem dX5_worst_17 : decode cX5_worst 17 = .ok (.istore_n 1, 1) := by decide +kernel
theorem dX5_worst_18 : decode cX5_worst 18 = .ok (.iconst 0, 1) := by decide +kernel
theorem dX5_worst_19 : decode cX5_worst 19 = .ok (.istore_n 2, 1) := by decide +kernel
theorem dX5_worst_20 : decode cX5_worst 20 = .ok (.iload_n 2, 1) := by decide +kernel
theorem dX5_worst_21 : decode cX5_worst 21 = .ok (.aload_n 0, 1) := by decide +kernel
theorem dX5_worst_22 : decode cX5_worst 22 = .ok (.getfield 7, 3) := by decide +kernel
theorem dX5_worst_25 : decode cX5_worst 25 = .ok (.if_icmp .ge 88, 3) := by decide +kernel
theorem dX5_worst_28 : decode cX5_worst 28 = .ok (.iconst 0, 1) := by decide +kernel
theorem dX5_worst_29 : decode cX5_worst 29 = .ok (.istore_n 3, 1) := by decide +kernel
theorem dX5_worst_30 : decode cX5_worst 30 = .ok (.iload_n 3, 1) := by decide +kernel
theorem dX5_worst_31 : decode cX5_worst 31 = .ok (.aload_n 0, 1) := by decide +kernel
theorem dX5_worst_32 : decode cX5_worst 32 = .ok (.getfield 7, 3) := by decide +kernel
theorem dX5_worst_35 : decode cX5_worst 35 = .ok (.if_icmp .ge 72, 3) := by decide +kernel
theorem dX5_worst_38 : decode cX5_worst 38 = .ok (.aload_n 0, 1) := by decide +kernel
theorem dX5_worst_39 : decode cX5_worst 39 = .ok (.iload_n 2, 1) := by decide +kernel
theorem dX5_worst_40 : decode cX5_worst 40 = .ok (.iload_n 3, 1) := by decide +kernel
theorem dX5_worst_41 : decode cX5_worst 41 = .ok (.invokevirtual 80, 3) := by decide +kernel
theorem dX5_worst_44 : decode cX5_worst 44 = .ok (.sipush (-1000), 3) := by decide +kernel
theorem dX5_worst_47 : decode cX5_worst 47 = .ok (.if_icmp .eq 54, 3) := by decide +kernel
theorem dX5_worst_50 : decode cX5_worst 50 = .ok (.aload_n 0, 1) := by decide +kernel
theorem dX5_worst_51 : decode cX5_worst 51 = .ok (.iload_n 2, 1) := by decide +kernel
theorem dX5_worst_52 : decode cX5_worst 52 = .ok (.iload_n 3, 1) := by decide +kernel
theorem dX5_worst_53 : decode cX5_worst 53 = .ok (.invokevirtual 110, 3) := by decide +kernel
theorem dX5_worst_56 : decode cX5_worst 56 = .ok (.sipush (-1000), 3) := by decide +kernel
theorem dX5_worst_59 : decode cX5_worst 59 = .ok (.if_icmp .ne 7, 3) := by decide +kernel
theorem dX5_worst_62 : decode cX5_worst 62 = .ok (.sipush (-1000), 3) := by decide +kernel
theorem dX5_worst_65 : decode cX5_worst 65 = .ok (.ireturn, 1) := by decide +kernel
theorem dX5_worst_66 : decode cX5_worst 66 = .ok (.aload_n 0, 1) := by decide +kernel
theorem dX5_worst_67 : decode cX5_worst 67 = .ok (.iload_n 2, 1) := by decide +kernel
theorem dX5_worst_68 : decode cX5_worst 68 = .ok (.iload_n 3, 1) := by decide +kernel
theorem dX5_worst_69 : decode cX5_worst 69 = .ok (.invokevirtual 110, 3) := by decide +kernel
theorem dX5_worst_72 : decode cX5_worst 72 = .ok (.aload_n 0, 1) := by decide +kernel
theorem dX5_worst_73 : decode cX5_worst 73 = .ok (.iload_n 2, 1) := by decide +kernel
theorem dX5_worst_74 : decode cX5_worst 74 = .ok (.iload_n 3, 1) := by decide +kernel
theorem dX5_worst_75 : decode cX5_worst 75 = .ok (.invokevirtual 80, 3) := by decide +kernel
theorem dX5_worst_78 : decode cX5_worst 78 = .ok (.isub, 1) := by decide +kernel
theorem dX5_worst_79 : decode cX5_worst 79 = .ok (.iload_n 1, 1) := by decide +kernel
theorem dX5_worst_80 : decode cX5_worst 80 = .ok (.if_icmp .le 19, 3) := by decide +kernel
theorem dX5_worst_83 : decode cX5_worst 83 = .ok (.aload_n 0, 1) := by decide +kernel
theorem dX5_worst_84 : decode cX5_worst 84 = .ok (.iload_n 2, 1) := by decide +kernel
theorem dX5_worst_85 : decode cX5_worst 85 = .ok (.iload_n 3, 1) := by decide +kernel
theorem dX5_worst_86 : decode cX5_worst 86 = .ok (.invokevirtual 110, 3) := by decide +kernel
theorem dX5_worst_89 : decode cX5_worst 89 = .ok (.aload_n 0, 1) := by decide +kernel
theorem dX5_worst_90 : decode cX5_worst 90 = .ok (.iload_n 2, 1) := by decide +kernel
theorem dX5_worst_91 : decode cX5_worst 91 = .ok (.iload_n 3, 1) := by decide +kernel
theorem dX5_worst_92 : decode cX5_worst 92 = .ok (.invokevirtual 80, 3) := by decide +kernel
theorem dX5_worst_95 : decode cX5_worst 95 = .ok (.isub, 1) := by decide +kernel
theorem dX5_worst_96 : decode cX5_worst 96 = .ok (.goto 4, 3) := by decide +kernel
theorem dX5_worst_99 : decode cX5_worst 99 = .ok (.iload_n 1, 1) := by decide +kernel
theorem dX5_worst_100 : decode cX5_worst 100 = .ok (.istore_n 1, 1) := by decide +kernel
theorem dX5_worst_101 : decode cX5_worst 101 = .ok (.iinc 3 1, 3) := by decide +kernel
theorem dX5_worst_104 : decode cX5_worst 104 = .ok (.goto (-74), 3) := by decide +kernel
theorem dX5_worst_107 : decode cX5_worst 107 = .ok (.iinc 2 1, 3) := by decide +kernel
theorem dX5_worst_110 : decode cX5_worst 110 = .ok (.goto (-90), 3) := by decide +kernel
theorem dX5_worst_113 : decode cX5_worst 113 = .ok (.iload_n 1, 1) := by decide +kernel
theorem dX5_worst_114 : decode cX5_worst 114 = .ok (.ireturn, 1) := by decide +kernel
theorem dX5_bits_0 : decode cX5_bits 0 = .ok (.iconst 0, 1) := by decide +kernel
theorem dX5_bits_1 : decode cX5_bits 1 = .ok (.istore_n 1, 1) := by decide +kernel
theorem dX5_bits_2 : decode cX5_bits 2 = .ok (.iconst 0, 1) := by decide +kernel
theorem dX5_bits_3 : decode cX5_bits 3 = .ok (.istore_n 2, 1) := by decide +kernel
theorem dX5_bits_4 : decode cX5_bits 4 = .ok (.iload_n 2, 1) := by decide +kernel
theorem dX5_bits_5 : decode cX5_bits 5 = .ok (.bipush 10, 2) := by decide +kernel
theorem dX5_bits_7 : decode cX5_bits 7 = .ok (.if_icmp .ge 17, 3) := by decide +kernel
theorem dX5_bits_10 : decode cX5_bits 10 = .ok (.iload_n 1, 1) := by decide +kernel
theorem dX5_bits_11 : decode cX5_bits 11 = .ok (.iload_n 0, 1) := by decide +kernel
theorem dX5_bits_12 : decode cX5_bits 12 = .ok (.iload_n 2, 1) := by decide +kernel
theorem dX5_bits_13 : decode cX5_bits 13 = .ok (.ishr, 1) := by decide +kernel
theorem dX5_bits_14 : decode cX5_bits 14 = .ok (.iconst 1, 1) := by decide +kernel
theorem dX5_bits_15 : decode cX5_bits 15 = .ok (.iand, 1) := by decide +kernel
theorem dX5_bits_16 : decode cX5_bits 16 = .ok (.iadd, 1) := by decide +kernel
theorem dX5_bits_17 : decode cX5_bits 17 = .ok (.istore_n 1, 1) := by decide +kernel
theorem dX5_bits_18 : decode cX5_bits 18 = .ok (.iinc 2 1, 3) := by decide +kernel
theorem dX5_bits_21 : decode cX5_bits 21 = .ok (.goto (-17), 3) := by decide +kernel
theorem dX5_bits_24 : decode cX5_bits 24 = .ok (.iload_n 1, 1) := by decide +kernel
theorem dX5_bits_25 : decode cX5_bits 25 = .ok (.ireturn, 1) := by decide +kernel
theorem dX5_hits_0 : decode cX5_hits 0 = .ok (.aload_n 0, 1) := by decide +kernel
theorem dX5_hits_1 : decode cX5_hits 1 = .ok (.iconst 0, 1) := by decide +kernel
theorem dX5_hits_2 : decode cX5_hits 2 = .ok (.putfield 47, 3) := by decide +kernel
theorem dX5_hits_5 : decode cX5_hits 5 = .ok (.iload_n 1, 1) := by decide +kernel
theorem dX5_hits_6 : decode cX5_hits 6 = .ok (.i2l, 1) := by decide +kernel
theorem dX5_hits_7 : decode cX5_hits 7 = .ok (.lconst 1, 1) := by decide +kernel
theorem dX5_hits_8 : decode cX5_hits 8 = .ok (.ldc2_w 113, 3) := by decide +kernel
theorem dX5_hits_11 : decode cX5_hits 11 = .ok (.invokestatic 50, 3) := by decide +kernel
theorem dX5_hits_14 : decode cX5_hits 14 = .ok (.ifCond .ne 7, 3) := by decide +kernel
theorem dX5_hits_17 : decode cX5_hits 17 = .ok (.sipush (-1002), 3) := by decide +kernel
theorem dX5_hits_20 : decode cX5_hits 20 = .ok (.ireturn, 1) := by decide +kernel
theorem dX5_hits_21 : decode cX5_hits 21 = .ok (.aload_n 0, 1) := by decide +kernel
theorem dX5_hits_22 : decode cX5_hits 22 = .ok (.sipush (-1000), 3) := by decide +kernel
theorem dX5_hits_25 : decode cX5_hits 25 = .ok (.sipush (-1000), 3) := by decide +kernel
theorem dX5_hits_28 : decode cX5_hits 28 = .ok (.invokevirtual 40, 3) := by decide +kernel
theorem dX5_hits_31 : decode cX5_hits 31 = .ok (.pop, 1) := by decide +kernel
theorem dX5_hits_32 : decode cX5_hits 32 = .ok (.iconst 0, 1) := by decide +kernel
theorem dX5_hits_33 : decode cX5_hits 33 = .ok (.istore_n 2, 1) := by decide +kernel
theorem dX5_hits_34 : decode cX5_hits 34 = .ok (.iconst 0, 1) := by decide +kernel
theorem dX5_hits_35 : decode cX5_hits 35 = .ok (.istore_n 3, 1) := by decide +kernel
theorem dX5_hits_36 : decode cX5_hits 36 = .ok (.iload_n 3, 1) := by decide +kernel
theorem dX5_hits_37 : decode cX5_hits 37 = .ok (.aload_n 0, 1) := by decide +kernel
theorem dX5_hits_38 : decode cX5_hits 38 = .ok (.getfield 7, 3) := by decide +kernel
theorem dX5_hits_41 : decode cX5_hits 41 = .ok (.if_icmp .ge 136, 3) := by decide +kernel
theorem dX5_hits_44 : decode cX5_hits 44 = .ok (.iconst 0, 1) := by decide +kernel
theorem dX5_hits_45 : decode cX5_hits 45 = .ok (.istore 4, 2) := by decide +kernel
theorem dX5_hits_47 : decode cX5_hits 47 = .ok (.iload 4, 2) := by decide +kernel
theorem dX5_hits_49 : decode cX5_hits 49 = .ok (.aload_n 0, 1) := by decide +kernel
theorem dX5_hits_50 : decode cX5_hits 50 = .ok (.getfield 7, 3) := by decide +kernel
theorem dX5_hits_53 : decode cX5_hits 53 = .ok (.if_icmp .ge 118, 3) := by decide +kernel
theorem dX5_hits_56 : decode cX5_hits 56 = .ok (.aload_n 0, 1) := by decide +kernel
theorem dX5_hits_57 : decode cX5_hits 57 = .ok (.getfield 30, 3) := by decide +kernel
theorem dX5_hits_60 : decode cX5_hits 60 = .ok (.bipush 10, 2) := by decide +kernel
theorem dX5_hits_62 : decode cX5_hits 62 = .ok (.iload_n 3, 1) := by decide +kernel
theorem dX5_hits_63 : decode cX5_hits 63 = .ok (.imul, 1) := by decide +kernel
theorem dX5_hits_64 : decode cX5_hits 64 = .ok (.iload 4, 2) := by decide +kernel
theorem dX5_hits_66 : decode cX5_hits 66 = .ok (.iadd, 1) := by decide +kernel
theorem dX5_hits_67 : decode cX5_hits 67 = .ok (.iaload, 1) := by decide +kernel
theorem dX5_hits_68 : decode cX5_hits 68 = .ok (.istore 5, 2) := by decide +kernel
theorem dX5_hits_70 : decode cX5_hits 70 = .ok (.iload_n 3, 1) := by decide +kernel
theorem dX5_hits_71 : decode cX5_hits 71 = .ok (.iload 4, 2) := by decide +kernel
theorem dX5_hits_73 : decode cX5_hits 73 = .ok (.if_icmp .eq 92, 3) := by decide +kernel
theorem dX5_hits_76 : decode cX5_hits 76 = .ok (.iload 5, 2) := by decide +kernel
theorem dX5_hits_78 : decode cX5_hits 78 = .ok (.ldc 57, 2) := by decide +kernel
theorem dX5_hits_80 : decode cX5_hits 80 = .ok (.if_icmp .ge 85, 3) := by decide +kernel
theorem dX5_hits_83 : decode cX5_hits 83 = .ok (.iload 5, 2) := by decide +kernel
theorem dX5_hits_85 : decode cX5_hits 85 = .ok (.bipush 64, 2) := by decide +kernel
theorem dX5_hits_87 : decode cX5_hits 87 = .ok (.iload 5, 2) := by decide +kernel
theorem dX5_hits_89 : decode cX5_hits 89 = .ok (.invokestatic 58, 3) := by decide +kernel
theorem dX5_hits_92 : decode cX5_hits 92 = .ok (.imul, 1) := by decide +kernel
theorem dX5_hits_93 : decode cX5_hits 93 = .ok (.isub, 1) := by decide +kernel
theorem dX5_hits_94 : decode cX5_hits 94 = .ok (.iload_n 1, 1) := by decide +kernel
theorem dX5_hits_95 : decode cX5_hits 95 = .ok (.if_icmp .lt 70, 3) := by decide +kernel
theorem dX5_hits_98 : decode cX5_hits 98 = .ok (.iconst 0, 1) := by decide +kernel
theorem dX5_hits_99 : decode cX5_hits 99 = .ok (.istore 6, 2) := by decide +kernel
theorem dX5_hits_101 : decode cX5_hits 101 = .ok (.iload_n 3, 1) := by decide +kernel
theorem dX5_hits_102 : decode cX5_hits 102 = .ok (.istore 7, 2) := by decide +kernel
theorem dX5_hits_104 : decode cX5_hits 104 = .ok (.iconst 1, 1) := by decide +kernel
theorem dX5_hits_105 : decode cX5_hits 105 = .ok (.istore 8, 2) := by decide +kernel
theorem dX5_hits_107 : decode cX5_hits 107 = .ok (.iload 8, 2) := by decide +kernel
theorem dX5_hits_109 : decode cX5_hits 109 = .ok (.iload 5, 2) := by decide +kernel
theorem dX5_hits_111 : decode cX5_hits 111 = .ok (.bipush 64, 2) := by decide +kernel
theorem dX5_hits_113 : decode cX5_hits 113 = .ok (.iload 5, 2) := by decide +kernel
theorem dX5_hits_115 : decode cX5_hits 115 = .ok (.invokestatic 58, 3) := by decide +kernel
theorem dX5_hits_118 : decode cX5_hits 118 = .ok (.imul, 1) := by decide +kernel
theorem dX5_hits_119 : decode cX5_hits 119 = .ok (.isub, 1) := by decide +kernel
theorem dX5_hits_120 : decode cX5_hits 120 = .ok (.if_icmp .ge 34, 3) := by decide +kernel
theorem dX5_hits_123 : decode cX5_hits 123 = .ok (.aload_n 0, 1) := by decide +kernel
theorem dX5_hits_124 : decode cX5_hits 124 = .ok (.aload_n 0, 1) := by decide +kernel
theorem dX5_hits_125 : decode cX5_hits 125 = .ok (.iload 7, 2) := by decide +kernel
theorem dX5_hits_127 : decode cX5_hits 127 = .ok (.iload 4, 2) := by decide +kernel
theorem dX5_hits_129 : decode cX5_hits 129 = .ok (.invokevirtual 97, 3) := by decide +kernel
theorem dX5_hits_132 : decode cX5_hits 132 = .ok (.iload 7, 2) := by decide +kernel
theorem dX5_hits_134 : decode cX5_hits 134 = .ok (.invokevirtual 100, 3) := by decide +kernel
theorem dX5_hits_137 : decode cX5_hits 137 = .ok (.istore 7, 2) := by decide +kernel
theorem dX5_hits_139 : decode cX5_hits 139 = .ok (.iload 6, 2) := by decide +kernel
theorem dX5_hits_141 : decode cX5_hits 141 = .ok (.iconst 1, 1) := by decide +kernel
theorem dX5_hits_142 : decode cX5_hits 142 = .ok (.iload 7, 2) := by decide +kernel
theorem dX5_hits_144 : decode cX5_hits 144 = .ok (.ishl, 1) := by decide +kernel
theorem dX5_hits_145 : decode cX5_hits 145 = .ok (.ior, 1) := by decide +kernel
theorem dX5_hits_146 : decode cX5_hits 146 = .ok (.istore 6, 2) := by decide +kernel
theorem dX5_hits_148 : decode cX5_hits 148 = .ok (.iinc 8 1, 3) := by decide +kernel
theorem dX5_hits_151 : decode cX5_hits 151 = .ok (.goto (-44), 3) := by decide +kernel
theorem dX5_hits_154 : decode cX5_hits 154 = .ok (.aload_n 0, 1) := by decide +kernel
theorem dX5_hits_155 : decode cX5_hits 155 = .ok (.getfield 37, 3) := by decide +kernel
theorem dX5_hits_158 : decode cX5_hits 158 = .ok (.iload_n 2, 1) := by decide +kernel
theorem dX5_hits_159 : decode cX5_hits 159 = .ok (.iload 6, 2) := by decide +kernel
theorem dX5_hits_161 : decode cX5_hits 161 = .ok (.iastore, 1) := by decide +kernel
theorem dX5_hits_162 : decode cX5_hits 162 = .ok (.iinc 2 1, 3) := by decide +kernel
theorem dX5_hits_165 : decode cX5_hits 165 = .ok (.iinc 4 1, 3) := by decide +kernel
theorem dX5_hits_168 : decode cX5_hits 168 = .ok (.goto (-121), 3) := by decide +kernel
theorem dX5_hits_171 : decode cX5_hits 171 = .ok (.iinc 3 1, 3) := by decide +kernel
theorem dX5_hits_174 : decode cX5_hits 174 = .ok (.goto (-138), 3) := by decide +kernel
theorem dX5_hits_177 : decode cX5_hits 177 = .ok (.sipush (-1000), 3) := by decide +kernel
theorem dX5_hits_180 : decode cX5_hits 180 = .ok (.istore_n 3, 1) := by decide +kernel
theorem dX5_hits_181 : decode cX5_hits 181 = .ok (.iconst 0, 1) := by decide +kernel
theorem dX5_hits_182 : decode cX5_hits 182 = .ok (.istore 4, 2) := by decide +kernel
theorem dX5_hits_184 : decode cX5_hits 184 = .ok (.iload 4, 2) := by decide +kernel
theorem dX5_hits_186 : decode cX5_hits 186 = .ok (.iconst 1, 1) := by decide +kernel
theorem dX5_hits_187 : decode cX5_hits 187 = .ok (.aload_n 0, 1) := by decide +kernel
theorem dX5_hits_188 : decode cX5_hits 188 = .ok (.getfield 7, 3) := by decide +kernel
theorem dX5_hits_191 : decode cX5_hits 191 = .ok (.ishl, 1) := by decide +kernel
theorem dX5_hits_192 : decode cX5_hits 192 = .ok (.if_icmp .ge 87, 3) := by decide +kernel
theorem dX5_hits_195 : decode cX5_hits 195 = .ok (.iload_n 3, 1) := by decide +kernel
theorem dX5_hits_196 : decode cX5_hits 196 = .ok (.sipush (-1000), 3) := by decide +kernel
theorem dX5_hits_199 : decode cX5_hits 199 = .ok (.if_icmp .eq 15, 3) := by decide +kernel
theorem dX5_hits_202 : decode cX5_hits 202 = .ok (.iload 4, 2) := by decide +kernel
theorem dX5_hits_204 : decode cX5_hits 204 = .ok (.invokestatic 115, 3) := by decide +kernel
theorem dX5_hits_207 : decode cX5_hits 207 = .ok (.iload_n 3, 1) := by decide +kernel
theorem dX5_hits_208 : decode cX5_hits 208 = .ok (.invokestatic 115, 3) := by decide +kernel
theorem dX5_hits_211 : decode cX5_hits 211 = .ok (.if_icmp .ge 7, 3) := by decide +kernel
theorem dX5_hits_214 : decode cX5_hits 214 = .ok (.iconst 1, 1) := by decide +kernel
theorem dX5_hits_215 : decode cX5_hits 215 = .ok (.goto 4, 3) := by decide +kernel
theorem dX5_hits_218 : decode cX5_hits 218 = .ok (.iconst 0, 1) := by decide +kernel
theorem dX5_hits_219 : decode cX5_hits 219 = .ok (.istore 5, 2) := by decide +kernel
theorem dX5_hits_221 : decode cX5_hits 221 = .ok (.iconst 0, 1) := by decide +kernel
theorem dX5_hits_222 : decode cX5_hits 222 = .ok (.istore 6, 2) := by decide +kernel
theorem dX5_hits_224 : decode cX5_hits 224 = .ok (.iload 6, 2) := by decide +kernel
theorem dX5_hits_226 : decode cX5_hits 226 = .ok (.iload_n 2, 1) := by decide +kernel
theorem dX5_hits_227 : decode cX5_hits 227 = .ok (.if_icmp .ge 34, 3) := by decide +kernel
theorem dX5_hits_230 : decode cX5_hits 230 = .ok (.iload 5, 2) := by decide +kernel
theorem dX5_hits_232 : decode cX5_hits 232 = .ok (.ifCond .eq 29, 3) := by decide +kernel
theorem dX5_hits_235 : decode cX5_hits 235 = .ok (.aload_n 0, 1) := by decide +kernel
theorem dX5_hits_236 : decode cX5_hits 236 = .ok (.getfield 37, 3) := by decide +kernel
theorem dX5_hits_239 : decode cX5_hits 239 = .ok (.iload 6, 2) := by decide +kernel
theorem dX5_hits_241 : decode cX5_hits 241 = .ok (.iaload, 1) := by decide +kernel
theorem dX5_hits_242 : decode cX5_hits 242 = .ok (.iload 4, 2) := by decide +kernel
theorem dX5_hits_244 : decode cX5_hits 244 = .ok (.iand, 1) := by decide +kernel
theorem dX5_hits_245 : decode cX5_hits 245 = .ok (.ifCond .eq 7, 3) := by decide +kernel
theorem dX5_hits_248 : decode cX5_hits 248 = .ok (.iconst 1, 1) := by decide +kernel
theorem dX5_hits_249 : decode cX5_hits 249 = .ok (.goto 4, 3) := by decide +kernel
theorem dX5_hits_252 : decode cX5_hits 252 = .ok (.iconst 0, 1) := by decide +kernel
theorem dX5_hits_253 : decode cX5_hits 253 = .ok (.istore 5, 2) := by decide +kernel
theorem dX5_hits_255 : decode cX5_hits 255 = .ok (.iinc 6 1, 3) := by decide +kernel
theorem dX5_hits_258 : decode cX5_hits 258 = .ok (.goto (-34), 3) := by decide +kernel
theorem dX5_hits_261 : decode cX5_hits 261 = .ok (.iload 5, 2) := by decide +kernel
theorem dX5_hits_263 : decode cX5_hits 263 = .ok (.ifCond .eq 8, 3) := by decide +kernel
theorem dX5_hits_266 : decode cX5_hits 266 = .ok (.iload 4, 2) := by decide +kernel
theorem dX5_hits_268 : decode cX5_hits 268 = .ok (.goto 4, 3) := by decide +kernel
theorem dX5_hits_271 : decode cX5_hits 271 = .ok (.iload_n 3, 1) := by decide +kernel
theorem dX5_hits_272 : decode cX5_hits 272 = .ok (.istore_n 3, 1) := by decide +kernel
theorem dX5_hits_273 : decode cX5_hits 273 = .ok (.iinc 4 1, 3) := by decide +kernel
theorem dX5_hits_276 : decode cX5_hits 276 = .ok (.goto (-92), 3) := by decide +kernel
theorem dX5_hits_279 : decode cX5_hits 279 = .ok (.iload_n 3, 1) := by decide +kernel
theorem dX5_hits_280 : decode cX5_hits 280 = .ok (.ireturn, 1) := by decide +kernel
theorem dX5_count_0 : decode cX5_count 0 = .ok (.aload_n 0, 1) := by decide +kernel
theorem dX5_count_1 : decode cX5_count 1 = .ok (.iconst 0, 1) := by decide +kernel
theorem dX5_count_2 : decode cX5_count 2 = .ok (.putfield 47, 3) := by decide +kernel
theorem dX5_count_5 : decode cX5_count 5 = .ok (.aload_n 0, 1) := by decide +kernel
theorem dX5_count_6 : decode cX5_count 6 = .ok (.sipush (-1000), 3) := by decide +kernel
theorem dX5_count_9 : decode cX5_count 9 = .ok (.sipush (-1000), 3) := by decide +kernel
theorem dX5_count_12 : decode cX5_count 12 = .ok (.invokevirtual 40, 3) := by decide +kernel
theorem dX5_count_15 : decode cX5_count 15 = .ok (.pop, 1) := by decide +kernel
theorem dX5_count_16 : decode cX5_count 16 = .ok (.iconst 0, 1) := by decide +kernel
theorem dX5_count_17 : decode cX5_count 17 = .ok (.istore_n 2, 1) := by decide +kernel
theorem dX5_count_18 : decode cX5_count 18 = .ok (.iconst 0, 1) := by decide +kernel
theorem dX5_count_19 : decode cX5_count 19 = .ok (.istore_n 3, 1) := by decide +kernel
theorem dX5_count_20 : decode cX5_count 20 = .ok (.iload_n 3, 1) := by decide +kernel
theorem dX5_count_21 : decode cX5_count 21 = .ok (.aload_n 0, 1) := by decide +kernel
theorem dX5_count_22 : decode cX5_count 22 = .ok (.getfield 7, 3) := by decide +kernel
theorem dX5_count_25 : decode cX5_count 25 = .ok (.if_icmp .ge 54, 3) := by decide +kernel
theorem dX5_count_28 : decode cX5_count 28 = .ok (.iconst 0, 1) := by decide +kernel
theorem dX5_count_29 : decode cX5_count 29 = .ok (.istore 4, 2) := by decide +kernel
theorem dX5_count_31 : decode cX5_count 31 = .ok (.iload 4, 2) := by decide +kernel
theorem dX5_count_33 : decode cX5_count 33 = .ok (.aload_n 0, 1) := by decide +kernel
theorem dX5_count_34 : decode cX5_count 34 = .ok (.getfield 7, 3) := by decide +kernel
theorem dX5_count_37 : decode cX5_count 37 = .ok (.if_icmp .ge 36, 3) := by decide +kernel
theorem dX5_count_40 : decode cX5_count 40 = .ok (.iload_n 2, 1) := by decide +kernel
theorem dX5_count_41 : decode cX5_count 41 = .ok (.iload_n 3, 1) := by decide +kernel
theorem dX5_count_42 : decode cX5_count 42 = .ok (.iload 4, 2) := by decide +kernel
theorem dX5_count_44 : decode cX5_count 44 = .ok (.if_icmp .eq 20, 3) := by decide +kernel
theorem dX5_count_47 : decode cX5_count 47 = .ok (.aload_n 0, 1) := by decide +kernel
theorem dX5_count_48 : decode cX5_count 48 = .ok (.iload_n 3, 1) := by decide +kernel
theorem dX5_count_49 : decode cX5_count 49 = .ok (.iload 4, 2) := by decide +kernel
theorem dX5_count_51 : decode cX5_count 51 = .ok (.invokevirtual 80, 3) := by decide +kernel
theorem dX5_count_54 : decode cX5_count 54 = .ok (.sipush (-1000), 3) := by decide +kernel
theorem dX5_count_57 : decode cX5_count 57 = .ok (.if_icmp .eq 7, 3) := by decide +kernel
theorem dX5_count_60 : decode cX5_count 60 = .ok (.iconst 1, 1) := by decide +kernel
theorem dX5_count_61 : decode cX5_count 61 = .ok (.goto 4, 3) := by decide +kernel
theorem dX5_count_64 : decode cX5_count 64 = .ok (.iconst 0, 1) := by decide +kernel
theorem dX5_count_65 : decode cX5_count 65 = .ok (.iadd, 1) := by decide +kernel
theorem dX5_count_66 : decode cX5_count 66 = .ok (.istore_n 2, 1) := by decide +kernel
theorem dX5_count_67 : decode cX5_count 67 = .ok (.iinc 4 1, 3) := by decide +kernel
theorem dX5_count_70 : decode cX5_count 70 = .ok (.goto (-39), 3) := by decide +kernel
theorem dX5_count_73 : decode cX5_count 73 = .ok (.iinc 3 1, 3) := by decide +kernel
theorem dX5_count_76 : decode cX5_count 76 = .ok (.goto (-56), 3) := by decide +kernel
theorem dX5_count_79 : decode cX5_count 79 = .ok (.iload_n 1, 1) := by decide +kernel
theorem dX5_count_80 : decode cX5_count 80 = .ok (.ifCond .ne 10, 3) := by decide +kernel
theorem dX5_count_83 : decode cX5_count 83 = .ok (.aload_n 0, 1) := by decide +kernel
theorem dX5_count_84 : decode cX5_count 84 = .ok (.getfield 7, 3) := by decide +kernel
theorem dX5_count_87 : decode cX5_count 87 = .ok (.goto 54, 3) := by decide +kernel
theorem dX5_count_90 : decode cX5_count 90 = .ok (.iload_n 1, 1) := by decide +kernel
theorem dX5_count_91 : decode cX5_count 91 = .ok (.iconst 1, 1) := by decide +kernel
theorem dX5_count_92 : decode cX5_count 92 = .ok (.if_icmp .ne 10, 3) := by decide +kernel
theorem dX5_count_95 : decode cX5_count 95 = .ok (.aload_n 0, 1) := by decide +kernel
theorem dX5_count_96 : decode cX5_count 96 = .ok (.getfield 54, 3) := by decide +kernel
theorem dX5_count_99 : decode cX5_count 99 = .ok (.goto 42, 3) := by decide +kernel
theorem dX5_count_102 : decode cX5_count 102 = .ok (.iload_n 1, 1) := by decide +kernel
theorem dX5_count_103 : decode cX5_count 103 = .ok (.iconst 2, 1) := by decide +kernel
theorem dX5_count_104 : decode cX5_count 104 = .ok (.if_icmp .ne 10, 3) := by decide +kernel
theorem dX5_count_107 : decode cX5_count 107 = .ok (.aload_n 0, 1) := by decide +kernel
theorem dX5_count_108 : decode cX5_count 108 = .ok (.invokevirtual 90, 3) := by decide +kernel
theorem dX5_count_111 : decode cX5_count 111 = .ok (.goto 30, 3) := by decide +kernel
theorem dX5_count_114 : decode cX5_count 114 = .ok (.iload_n 1, 1) := by decide +kernel
theorem dX5_count_115 : decode cX5_count 115 = .ok (.iconst 3, 1) := by decide +kernel
theorem dX5_count_116 : decode cX5_count 116 = .ok (.if_icmp .ne 7, 3) := by decide +kernel
theorem dX5_count_119 : decode cX5_count 119 = .ok (.iload_n 2, 1) := by decide +kernel
theorem dX5_count_120 : decode cX5_count 120 = .ok (.goto 21, 3) := by decide +kernel
theorem dX5_count_123 : decode cX5_count 123 = .ok (.iload_n 1, 1) := by decide +kernel
theorem dX5_count_124 : decode cX5_count 124 = .ok (.iconst 4, 1) := by decide +kernel
theorem dX5_count_125 : decode cX5_count 125 = .ok (.if_icmp .ne 13, 3) := by decide +kernel
theorem dX5_count_128 : decode cX5_count 128 = .ok (.aload_n 0, 1) := by decide +kernel
theorem dX5_count_129 : decode cX5_count 129 = .ok (.getfield 69, 3) := by decide +kernel
theorem dX5_count_132 : decode cX5_count 132 = .ok (.invokestatic 115, 3) := by decide +kernel
theorem dX5_count_135 : decode cX5_count 135 = .ok (.goto 6, 3) := by decide +kernel
theorem dX5_count_138 : decode cX5_count 138 = .ok (.sipush (-1002), 3) := by decide +kernel
theorem dX5_count_141 : decode cX5_count 141 = .ok (.ireturn, 1) := by decide +kernel
end
section
theorem dL_law_0 : decode cL_law 0 = .ok (.new 7, 3) := by decide +kernel
theorem dL_law_3 : decode cL_law 3 = .ok (.dup, 1) := by decide +kernel
theorem dL_law_4 : decode cL_law 4 = .ok (.invokespecial 9, 3) := by decide +kernel
theorem dL_law_7 : decode cL_law 7 = .ok (.astore_n 1, 1) := by decide +kernel
theorem dL_law_8 : decode cL_law 8 = .ok (.new 10, 3) := by decide +kernel
theorem dL_law_11 : decode cL_law 11 = .ok (.dup, 1) := by decide +kernel
theorem dL_law_12 : decode cL_law 12 = .ok (.invokespecial 12, 3) := by decide +kernel
theorem dL_law_15 : decode cL_law 15 = .ok (.astore_n 2, 1) := by decide +kernel
theorem dL_law_16 : decode cL_law 16 = .ok (.iconst 0, 1) := by decide +kernel
theorem dL_law_17 : decode cL_law 17 = .ok (.istore_n 3, 1) := by decide +kernel
theorem dL_law_18 : decode cL_law 18 = .ok (.iload_n 3, 1) := by decide +kernel
theorem dL_law_19 : decode cL_law 19 = .ok (.aload_n 0, 1) := by decide +kernel
theorem dL_law_20 : decode cL_law 20 = .ok (.arraylength, 1) := by decide +kernel
theorem dL_law_21 : decode cL_law 21 = .ok (.iconst 5, 1) := by decide +kernel
theorem dL_law_22 : decode cL_law 22 = .ok (.isub, 1) := by decide +kernel
theorem dL_law_23 : decode cL_law 23 = .ok (.if_icmp .gt 885, 3) := by decide +kernel
theorem dL_law_26 : decode cL_law 26 = .ok (.aload_n 0, 1) := by decide +kernel
theorem dL_law_27 : decode cL_law 27 = .ok (.iload_n 3, 1) := by decide +kernel
theorem dL_law_28 : decode cL_law 28 = .ok (.iaload, 1) := by decide +kernel
theorem dL_law_29 : decode cL_law 29 = .ok (.bipush 31, 2) := by decide +kernel
theorem dL_law_31 : decode cL_law 31 = .ok (.iand, 1) := by decide +kernel
theorem dL_law_32 : decode cL_law 32 = .ok (.tableswitch 870 0 23 #[112, 135, 204, 237, 260, 283, 316, 349, 382, 425, 468, 511, 554, 567, 590, 603, 626, 659, 702, 755, 778, 811, 824, 847], 112) := by decide +kernel
theorem dL_law_144 : decode cL_law 144 = .ok (.aload_n 1, 1) := by decide +kernel
theorem dL_law_145 : decode cL_law 145 = .ok (.aload_n 0, 1) := by decide +kernel
theorem dL_law_146 : decode cL_law 146 = .ok (.iload_n 3, 1) := by decide +kernel
theorem dL_law_147 : decode cL_law 147 = .ok (.iconst 1, 1) := by decide +kernel
theorem dL_law_148 : decode cL_law 148 = .ok (.iadd, 1) := by decide +kernel
theorem dL_law_149 : decode cL_law 149 = .ok (.iaload, 1) := by decide +kernel
theorem dL_law_150 : decode cL_law 150 = .ok (.invokevirtual 13, 3) := by decide +kernel
theorem dL_law_153 : decode cL_law 153 = .ok (.aload_n 2, 1) := by decide +kernel
theorem dL_law_154 : decode cL_law 154 = .ok (.aload_n 0, 1) := by decide +kernel
theorem dL_law_155 : decode cL_law 155 = .ok (.iload_n 3, 1) := by decide +kernel
theorem dL_law_156 : decode cL_law 156 = .ok (.iconst 1, 1) := by decide +kernel
theorem dL_law_157 : decode cL_law 157 = .ok (.iadd, 1) := by decide +kernel
theorem dL_law_158 : decode cL_law 158 = .ok (.iaload, 1) := by decide +kernel
theorem dL_law_159 : decode cL_law 159 = .ok (.invokevirtual 17, 3) := by decide +kernel
theorem dL_law_162 : decode cL_law 162 = .ok (.if_icmp .eq 740, 3) := by decide +kernel
theorem dL_law_165 : decode cL_law 165 = .ok (.iconst 0, 1) := by decide +kernel
theorem dL_law_166 : decode cL_law 166 = .ok (.ireturn, 1) := by decide +kernel
theorem dL_law_167 : decode cL_law 167 = .ok (.aload_n 1, 1) := by decide +kernel
theorem dL_law_168 : decode cL_law 168 = .ok (.aload_n 0, 1) := by decide +kernel
theorem dL_law_169 : decode cL_law 169 = .ok (.iload_n 3, 1) := by decide +kernel
theorem dL_law_170 : decode cL_law 170 = .ok (.iconst 1, 1) := by decide +kernel
theorem dL_law_171 : decode cL_law 171 = .ok (.iadd, 1) := by decide +kernel
theorem dL_law_172 : decode cL_law 172 = .ok (.iaload, 1) := by decide +kernel
theorem dL_law_173 : decode cL_law 173 = .ok (.aload_n 0, 1) := by decide +kernel
theorem dL_law_174 : decode cL_law 174 = .ok (.iload_n 3, 1) := by decide +kernel
theorem dL_law_175 : decode cL_law 175 = .ok (.iconst 2, 1) := by decide +kernel
theorem dL_law_176 : decode cL_law 176 = .ok (.iadd, 1) := by decide +kernel
theorem dL_law_177 : decode cL_law 177 = .ok (.iaload, 1) := by decide +kernel
theorem dL_law_178 : decode cL_law 178 = .ok (.aload_n 0, 1) := by decide +kernel
theorem dL_law_179 : decode cL_law 179 = .ok (.iload_n 3, 1) := by decide +kernel
theorem dL_law_180 : decode cL_law 180 = .ok (.iconst 3, 1) := by decide +kernel
theorem dL_law_181 : decode cL_law 181 = .ok (.iadd, 1) := by decide +kernel
theorem dL_law_182 : decode cL_law 182 = .ok (.iaload, 1) := by decide +kernel
theorem dL_law_183 : decode cL_law 183 = .ok (.aload_n 0, 1) := by decide +kernel
theorem dL_law_184 : decode cL_law 184 = .ok (.iload_n 3, 1) := by decide +kernel
theorem dL_law_185 : decode cL_law 185 = .ok (.iconst 4, 1) := by decide +kernel
theorem dL_law_186 : decode cL_law 186 = .ok (.iadd, 1) := by decide +kernel
theorem dL_law_187 : decode cL_law 187 = .ok (.iaload, 1) := by decide +kernel
theorem dL_law_188 : decode cL_law 188 = .ok (.ifCond .eq 7, 3) := by decide +kernel
theorem dL_law_191 : decode cL_law 191 = .ok (.iconst 1, 1) := by decide +kernel
theorem dL_law_192 : decode cL_law 192 = .ok (.goto 4, 3) := by decide +kernel
theorem dL_law_195 : decode cL_law 195 = .ok (.iconst 0, 1) := by decide +kernel
theorem dL_law_196 : decode cL_law 196 = .ok (.invokevirtual 18, 3) := by decide +kernel
theorem dL_law_199 : decode cL_law 199 = .ok (.aload_n 2, 1) := by decide +kernel
theorem dL_law_200 : decode cL_law 200 = .ok (.aload_n 0, 1) := by decide +kernel
theorem dL_law_201 : decode cL_law 201 = .ok (.iload_n 3, 1) := by decide +kernel
theorem dL_law_202 : decode cL_law 202 = .ok (.iconst 1, 1) := by decide +kernel
theorem dL_law_203 : decode cL_law 203 = .ok (.iadd, 1) := by decide +kernel
theorem dL_law_204 : decode cL_law 204 = .ok (.iaload, 1) := by decide +kernel
theorem dL_law_205 : decode cL_law 205 = .ok (.aload_n 0, 1) := by decide +kernel
theorem dL_law_206 : decode cL_law 206 = .ok (.iload_n 3, 1) := by decide +kernel
theorem dL_law_207 : decode cL_law 207 = .ok (.iconst 2, 1) := by decide +kernel
theorem dL_law_208 : decode cL_law 208 = .ok (.iadd, 1) := by decide +kernel
theorem dL_law_209 : decode cL_law 209 = .ok (.iaload, 1) := by decide +kernel
theorem dL_law_210 : decode cL_law 210 = .ok (.aload_n 0, 1) := by decide +kernel
theorem dL_law_211 : decode cL_law 211 = .ok (.iload_n 3, 1) := by decide +kernel
theorem dL_law_212 : decode cL_law 212 = .ok (.iconst 3, 1) := by decide +kernel
theorem dL_law_213 : decode cL_law 213 = .ok (.iadd, 1) := by decide +kernel
theorem dL_law_214 : decode cL_law 214 = .ok (.iaload, 1) := by decide +kernel
theorem dL_law_215 : decode cL_law 215 = .ok (.aload_n 0, 1) := by decide +kernel
theorem dL_law_216 : decode cL_law 216 = .ok (.iload_n 3, 1) := by decide +kernel
theorem dL_law_217 : decode cL_law 217 = .ok (.iconst 4, 1) := by decide +kernel
theorem dL_law_218 : decode cL_law 218 = .ok (.iadd, 1) := by decide +kernel
theorem dL_law_219 : decode cL_law 219 = .ok (.iaload, 1) := by decide +kernel
theorem dL_law_220 : decode cL_law 220 = .ok (.ifCond .eq 7, 3) := by decide +kernel
theorem dL_law_223 : decode cL_law 223 = .ok (.iconst 1, 1) := by decide +kernel
theorem dL_law_224 : decode cL_law 224 = .ok (.goto 4, 3) := by decide +kernel
theorem dL_law_227 : decode cL_law 227 = .ok (.iconst 0, 1) := by decide +kernel
theorem dL_law_228 : decode cL_law 228 = .ok (.invokevirtual 22, 3) := by decide +kernel
theorem dL_law_231 : decode cL_law 231 = .ok (.if_icmp .eq 671, 3) := by decide +kernel
theorem dL_law_234 : decode cL_law 234 = .ok (.iconst 0, 1) := by decide +kernel
theorem dL_law_235 : decode cL_law 235 = .ok (.ireturn, 1) := by decide +kernel
theorem dL_law_236 : decode cL_law 236 = .ok (.aload_n 1, 1) := by decide +kernel
theorem dL_law_237 : decode cL_law 237 = .ok (.aload_n 0, 1) := by decide +kernel
theorem dL_law_238 : decode cL_law 238 = .ok (.iload_n 3, 1) := by decide +kernel
theorem dL_law_239 : decode cL_law 239 = .ok (.iconst 1, 1) := by decide +kernel
theorem dL_law_240 : decode cL_law 240 = .ok (.iadd, 1) := by decide +kernel
theorem dL_law_241 : decode cL_law 241 = .ok (.iaload, 1) := by decide +kernel
theorem dL_law_242 : decode cL_law 242 = .ok (.aload_n 0, 1) := by decide +kernel
theorem dL_law_243 : decode cL_law 243 = .ok (.iload_n 3, 1) := by decide +kernel
theorem dL_law_244 : decode cL_law 244 = .ok (.iconst 2, 1) := by decide +kernel
theorem dL_law_245 : decode cL_law 245 = .ok (.iadd, 1) := by decide +kernel
theorem dL_law_246 : decode cL_law 246 = .ok (.iaload, 1) := by decide +kernel
theorem dL_law_247 : decode cL_law 247 = .ok (.invokevirtual 23, 3) := by decide +kernel
theorem dL_law_250 : decode cL_law 250 = .ok (.aload_n 2, 1) := by decide +kernel
theorem dL_law_251 : decode cL_law 251 = .ok (.aload_n 0, 1) := by decide +kernel
theorem dL_law_252 : decode cL_law 252 = .ok (.iload_n 3, 1) := by decide +kernel
theorem dL_law_253 : decode cL_law 253 = .ok (.iconst 1, 1) := by decide +kernel
end
section
theorem dL_law_254 : decode cL_law 254 = .ok (.iadd, 1) := by decide +kernel
theorem dL_law_255 : decode cL_law 255 = .ok (.iaload, 1) := by decide +kernel
theorem dL_law_256 : decode cL_law 256 = .ok (.aload_n 0, 1) := by decide +kernel
theorem dL_law_257 : decode cL_law 257 = .ok (.iload_n 3, 1) := by decide +kernel
theorem dL_law_258 : decode cL_law 258 = .ok (.iconst 2, 1) := by decide +kernel
theorem dL_law_259 : decode cL_law 259 = .ok (.iadd, 1) := by decide +kernel
theorem dL_law_260 : decode cL_law 260 = .ok (.iaload, 1) := by decide +kernel
theorem dL_law_261 : decode cL_law 261 = .ok (.invokevirtual 27, 3) := by decide +kernel
theorem dL_law_264 : decode cL_law 264 = .ok (.if_icmp .eq 638, 3) := by decide +kernel
theorem dL_law_267 : decode cL_law 267 = .ok (.iconst 0, 1) := by decide +kernel
theorem dL_law_268 : decode cL_law 268 = .ok (.ireturn, 1) := by decide +kernel
theorem dL_law_269 : decode cL_law 269 = .ok (.aload_n 1, 1) := by decide +kernel
theorem dL_law_270 : decode cL_law 270 = .ok (.aload_n 0, 1) := by decide +kernel
theorem dL_law_271 : decode cL_law 271 = .ok (.iload_n 3, 1) := by decide +kernel
theorem dL_law_272 : decode cL_law 272 = .ok (.iconst 1, 1) := by decide +kernel
theorem dL_law_273 : decode cL_law 273 = .ok (.iadd, 1) := by decide +kernel
theorem dL_law_274 : decode cL_law 274 = .ok (.iaload, 1) := by decide +kernel
theorem dL_law_275 : decode cL_law 275 = .ok (.invokevirtual 28, 3) := by decide +kernel
theorem dL_law_278 : decode cL_law 278 = .ok (.aload_n 2, 1) := by decide +kernel
theorem dL_law_279 : decode cL_law 279 = .ok (.aload_n 0, 1) := by decide +kernel
theorem dL_law_280 : decode cL_law 280 = .ok (.iload_n 3, 1) := by decide +kernel
theorem dL_law_281 : decode cL_law 281 = .ok (.iconst 1, 1) := by decide +kernel
theorem dL_law_282 : decode cL_law 282 = .ok (.iadd, 1) := by decide +kernel
theorem dL_law_283 : decode cL_law 283 = .ok (.iaload, 1) := by decide +kernel
theorem dL_law_284 : decode cL_law 284 = .ok (.invokevirtual 31, 3) := by decide +kernel
theorem dL_law_287 : decode cL_law 287 = .ok (.if_icmp .eq 615, 3) := by decide +kernel
theorem dL_law_290 : decode cL_law 290 = .ok (.iconst 0, 1) := by decide +kernel
theorem dL_law_291 : decode cL_law 291 = .ok (.ireturn, 1) := by decide +kernel
theorem dL_law_292 : decode cL_law 292 = .ok (.aload_n 1, 1) := by decide +kernel
theorem dL_law_293 : decode cL_law 293 = .ok (.aload_n 0, 1) := by decide +kernel
theorem dL_law_294 : decode cL_law 294 = .ok (.iload_n 3, 1) := by decide +kernel
theorem dL_law_295 : decode cL_law 295 = .ok (.iconst 1, 1) := by decide +kernel
theorem dL_law_296 : decode cL_law 296 = .ok (.iadd, 1) := by decide +kernel
theorem dL_law_297 : decode cL_law 297 = .ok (.iaload, 1) := by decide +kernel
theorem dL_law_298 : decode cL_law 298 = .ok (.invokevirtual 32, 3) := by decide +kernel
theorem dL_law_301 : decode cL_law 301 = .ok (.aload_n 2, 1) := by decide +kernel
theorem dL_law_302 : decode cL_law 302 = .ok (.aload_n 0, 1) := by decide +kernel
theorem dL_law_303 : decode cL_law 303 = .ok (.iload_n 3, 1) := by decide +kernel
theorem dL_law_304 : decode cL_law 304 = .ok (.iconst 1, 1) := by decide +kernel
theorem dL_law_305 : decode cL_law 305 = .ok (.iadd, 1) := by decide +kernel
theorem dL_law_306 : decode cL_law 306 = .ok (.iaload, 1) := by decide +kernel
theorem dL_law_307 : decode cL_law 307 = .ok (.invokevirtual 35, 3) := by decide +kernel
theorem dL_law_310 : decode cL_law 310 = .ok (.if_icmp .eq 592, 3) := by decide +kernel
theorem dL_law_313 : decode cL_law 313 = .ok (.iconst 0, 1) := by decide +kernel
theorem dL_law_314 : decode cL_law 314 = .ok (.ireturn, 1) := by decide +kernel
theorem dL_law_315 : decode cL_law 315 = .ok (.aload_n 1, 1) := by decide +kernel
theorem dL_law_316 : decode cL_law 316 = .ok (.aload_n 0, 1) := by decide +kernel
theorem dL_law_317 : decode cL_law 317 = .ok (.iload_n 3, 1) := by decide +kernel
theorem dL_law_318 : decode cL_law 318 = .ok (.iconst 1, 1) := by decide +kernel
theorem dL_law_319 : decode cL_law 319 = .ok (.iadd, 1) := by decide +kernel
theorem dL_law_320 : decode cL_law 320 = .ok (.iaload, 1) := by decide +kernel
theorem dL_law_321 : decode cL_law 321 = .ok (.aload_n 0, 1) := by decide +kernel
theorem dL_law_322 : decode cL_law 322 = .ok (.iload_n 3, 1) := by decide +kernel
theorem dL_law_323 : decode cL_law 323 = .ok (.iconst 2, 1) := by decide +kernel
theorem dL_law_324 : decode cL_law 324 = .ok (.iadd, 1) := by decide +kernel
theorem dL_law_325 : decode cL_law 325 = .ok (.iaload, 1) := by decide +kernel
theorem dL_law_326 : decode cL_law 326 = .ok (.invokevirtual 36, 3) := by decide +kernel
theorem dL_law_329 : decode cL_law 329 = .ok (.aload_n 2, 1) := by decide +kernel
theorem dL_law_330 : decode cL_law 330 = .ok (.aload_n 0, 1) := by decide +kernel
theorem dL_law_331 : decode cL_law 331 = .ok (.iload_n 3, 1) := by decide +kernel
theorem dL_law_332 : decode cL_law 332 = .ok (.iconst 1, 1) := by decide +kernel
theorem dL_law_333 : decode cL_law 333 = .ok (.iadd, 1) := by decide +kernel
theorem dL_law_334 : decode cL_law 334 = .ok (.iaload, 1) := by decide +kernel
theorem dL_law_335 : decode cL_law 335 = .ok (.aload_n 0, 1) := by decide +kernel
theorem dL_law_336 : decode cL_law 336 = .ok (.iload_n 3, 1) := by decide +kernel
theorem dL_law_337 : decode cL_law 337 = .ok (.iconst 2, 1) := by decide +kernel
theorem dL_law_338 : decode cL_law 338 = .ok (.iadd, 1) := by decide +kernel
theorem dL_law_339 : decode cL_law 339 = .ok (.iaload, 1) := by decide +kernel
theorem dL_law_340 : decode cL_law 340 = .ok (.invokevirtual 39, 3) := by decide +kernel
theorem dL_law_343 : decode cL_law 343 = .ok (.if_icmp .eq 559, 3) := by decide +kernel
theorem dL_law_346 : decode cL_law 346 = .ok (.iconst 0, 1) := by decide +kernel
theorem dL_law_347 : decode cL_law 347 = .ok (.ireturn, 1) := by decide +kernel
theorem dL_law_348 : decode cL_law 348 = .ok (.aload_n 1, 1) := by decide +kernel
theorem dL_law_349 : decode cL_law 349 = .ok (.aload_n 0, 1) := by decide +kernel
theorem dL_law_350 : decode cL_law 350 = .ok (.iload_n 3, 1) := by decide +kernel
theorem dL_law_351 : decode cL_law 351 = .ok (.iconst 1, 1) := by decide +kernel
theorem dL_law_352 : decode cL_law 352 = .ok (.iadd, 1) := by decide +kernel
theorem dL_law_353 : decode cL_law 353 = .ok (.iaload, 1) := by decide +kernel
theorem dL_law_354 : decode cL_law 354 = .ok (.aload_n 0, 1) := by decide +kernel
theorem dL_law_355 : decode cL_law 355 = .ok (.iload_n 3, 1) := by decide +kernel
theorem dL_law_356 : decode cL_law 356 = .ok (.iconst 2, 1) := by decide +kernel
theorem dL_law_357 : decode cL_law 357 = .ok (.iadd, 1) := by decide +kernel
theorem dL_law_358 : decode cL_law 358 = .ok (.iaload, 1) := by decide +kernel
theorem dL_law_359 : decode cL_law 359 = .ok (.invokevirtual 40, 3) := by decide +kernel
theorem dL_law_362 : decode cL_law 362 = .ok (.aload_n 2, 1) := by decide +kernel
theorem dL_law_363 : decode cL_law 363 = .ok (.aload_n 0, 1) := by decide +kernel
theorem dL_law_364 : decode cL_law 364 = .ok (.iload_n 3, 1) := by decide +kernel
theorem dL_law_365 : decode cL_law 365 = .ok (.iconst 1, 1) := by decide +kernel
theorem dL_law_366 : decode cL_law 366 = .ok (.iadd, 1) := by decide +kernel
theorem dL_law_367 : decode cL_law 367 = .ok (.iaload, 1) := by decide +kernel
theorem dL_law_368 : decode cL_law 368 = .ok (.aload_n 0, 1) := by decide +kernel
theorem dL_law_369 : decode cL_law 369 = .ok (.iload_n 3, 1) := by decide +kernel
theorem dL_law_370 : decode cL_law 370 = .ok (.iconst 2, 1) := by decide +kernel
theorem dL_law_371 : decode cL_law 371 = .ok (.iadd, 1) := by decide +kernel
theorem dL_law_372 : decode cL_law 372 = .ok (.iaload, 1) := by decide +kernel
theorem dL_law_373 : decode cL_law 373 = .ok (.invokevirtual 43, 3) := by decide +kernel
theorem dL_law_376 : decode cL_law 376 = .ok (.if_icmp .eq 526, 3) := by decide +kernel
theorem dL_law_379 : decode cL_law 379 = .ok (.iconst 0, 1) := by decide +kernel
theorem dL_law_380 : decode cL_law 380 = .ok (.ireturn, 1) := by decide +kernel
theorem dL_law_381 : decode cL_law 381 = .ok (.aload_n 1, 1) := by decide +kernel
theorem dL_law_382 : decode cL_law 382 = .ok (.aload_n 0, 1) := by decide +kernel
theorem dL_law_383 : decode cL_law 383 = .ok (.iload_n 3, 1) := by decide +kernel
theorem dL_law_384 : decode cL_law 384 = .ok (.iconst 1, 1) := by decide +kernel
theorem dL_law_385 : decode cL_law 385 = .ok (.iadd, 1) := by decide +kernel
theorem dL_law_386 : decode cL_law 386 = .ok (.iaload, 1) := by decide +kernel
theorem dL_law_387 : decode cL_law 387 = .ok (.aload_n 0, 1) := by decide +kernel
theorem dL_law_388 : decode cL_law 388 = .ok (.iload_n 3, 1) := by decide +kernel
theorem dL_law_389 : decode cL_law 389 = .ok (.iconst 2, 1) := by decide +kernel
theorem dL_law_390 : decode cL_law 390 = .ok (.iadd, 1) := by decide +kernel
theorem dL_law_391 : decode cL_law 391 = .ok (.iaload, 1) := by decide +kernel
end
section
theorem dL_law_392 : decode cL_law 392 = .ok (.invokevirtual 44, 3) := by decide +kernel
theorem dL_law_395 : decode cL_law 395 = .ok (.aload_n 2, 1) := by decide +kernel
theorem dL_law_396 : decode cL_law 396 = .ok (.aload_n 0, 1) := by decide +kernel
theorem dL_law_397 : decode cL_law 397 = .ok (.iload_n 3, 1) := by decide +kernel
theorem dL_law_398 : decode cL_law 398 = .ok (.iconst 1, 1) := by decide +kernel
theorem dL_law_399 : decode cL_law 399 = .ok (.iadd, 1) := by decide +kernel
theorem dL_law_400 : decode cL_law 400 = .ok (.iaload, 1) := by decide +kernel
theorem dL_law_401 : decode cL_law 401 = .ok (.aload_n 0, 1) := by decide +kernel
theorem dL_law_402 : decode cL_law 402 = .ok (.iload_n 3, 1) := by decide +kernel
theorem dL_law_403 : decode cL_law 403 = .ok (.iconst 2, 1) := by decide +kernel
theorem dL_law_404 : decode cL_law 404 = .ok (.iadd, 1) := by decide +kernel
theorem dL_law_405 : decode cL_law 405 = .ok (.iaload, 1) := by decide +kernel
theorem dL_law_406 : decode cL_law 406 = .ok (.invokevirtual 47, 3) := by decide +kernel
theorem dL_law_409 : decode cL_law 409 = .ok (.if_icmp .eq 493, 3) := by decide +kernel
theorem dL_law_412 : decode cL_law 412 = .ok (.iconst 0, 1) := by decide +kernel
theorem dL_law_413 : decode cL_law 413 = .ok (.ireturn, 1) := by decide +kernel
theorem dL_law_414 : decode cL_law 414 = .ok (.aload_n 1, 1) := by decide +kernel
theorem dL_law_415 : decode cL_law 415 = .ok (.aload_n 0, 1) := by decide +kernel
theorem dL_law_416 : decode cL_law 416 = .ok (.iload_n 3, 1) := by decide +kernel
theorem dL_law_417 : decode cL_law 417 = .ok (.iconst 1, 1) := by decide +kernel
theorem dL_law_418 : decode cL_law 418 = .ok (.iadd, 1) := by decide +kernel
theorem dL_law_419 : decode cL_law 419 = .ok (.iaload, 1) := by decide +kernel
theorem dL_law_420 : decode cL_law 420 = .ok (.aload_n 0, 1) := by decide +kernel
theorem dL_law_421 : decode cL_law 421 = .ok (.iload_n 3, 1) := by decide +kernel
theorem dL_law_422 : decode cL_law 422 = .ok (.iconst 2, 1) := by decide +kernel
theorem dL_law_423 : decode cL_law 423 = .ok (.iadd, 1) := by decide +kernel
theorem dL_law_424 : decode cL_law 424 = .ok (.iaload, 1) := by decide +kernel
theorem dL_law_425 : decode cL_law 425 = .ok (.aload_n 0, 1) := by decide +kernel
theorem dL_law_426 : decode cL_law 426 = .ok (.iload_n 3, 1) := by decide +kernel
theorem dL_law_427 : decode cL_law 427 = .ok (.iconst 3, 1) := by decide +kernel
theorem dL_law_428 : decode cL_law 428 = .ok (.iadd, 1) := by decide +kernel
theorem dL_law_429 : decode cL_law 429 = .ok (.iaload, 1) := by decide +kernel
theorem dL_law_430 : decode cL_law 430 = .ok (.invokevirtual 48, 3) := by decide +kernel
theorem dL_law_433 : decode cL_law 433 = .ok (.aload_n 2, 1) := by decide +kernel
theorem dL_law_434 : decode cL_law 434 = .ok (.aload_n 0, 1) := by decide +kernel
theorem dL_law_435 : decode cL_law 435 = .ok (.iload_n 3, 1) := by decide +kernel
theorem dL_law_436 : decode cL_law 436 = .ok (.iconst 1, 1) := by decide +kernel
theorem dL_law_437 : decode cL_law 437 = .ok (.iadd, 1) := by decide +kernel
theorem dL_law_438 : decode cL_law 438 = .ok (.iaload, 1) := by decide +kernel
theorem dL_law_439 : decode cL_law 439 = .ok (.aload_n 0, 1) := by decide +kernel
theorem dL_law_440 : decode cL_law 440 = .ok (.iload_n 3, 1) := by decide +kernel
theorem dL_law_441 : decode cL_law 441 = .ok (.iconst 2, 1) := by decide +kernel
theorem dL_law_442 : decode cL_law 442 = .ok (.iadd, 1) := by decide +kernel
theorem dL_law_443 : decode cL_law 443 = .ok (.iaload, 1) := by decide +kernel
theorem dL_law_444 : decode cL_law 444 = .ok (.aload_n 0, 1) := by decide +kernel
theorem dL_law_445 : decode cL_law 445 = .ok (.iload_n 3, 1) := by decide +kernel
theorem dL_law_446 : decode cL_law 446 = .ok (.iconst 3, 1) := by decide +kernel
theorem dL_law_447 : decode cL_law 447 = .ok (.iadd, 1) := by decide +kernel
theorem dL_law_448 : decode cL_law 448 = .ok (.iaload, 1) := by decide +kernel
theorem dL_law_449 : decode cL_law 449 = .ok (.invokevirtual 52, 3) := by decide +kernel
theorem dL_law_452 : decode cL_law 452 = .ok (.if_icmp .eq 450, 3) := by decide +kernel
theorem dL_law_455 : decode cL_law 455 = .ok (.iconst 0, 1) := by decide +kernel
theorem dL_law_456 : decode cL_law 456 = .ok (.ireturn, 1) := by decide +kernel
theorem dL_law_457 : decode cL_law 457 = .ok (.aload_n 1, 1) := by decide +kernel
theorem dL_law_458 : decode cL_law 458 = .ok (.aload_n 0, 1) := by decide +kernel
theorem dL_law_459 : decode cL_law 459 = .ok (.iload_n 3, 1) := by decide +kernel
theorem dL_law_460 : decode cL_law 460 = .ok (.iconst 1, 1) := by decide +kernel
theorem dL_law_461 : decode cL_law 461 = .ok (.iadd, 1) := by decide +kernel
theorem dL_law_462 : decode cL_law 462 = .ok (.iaload, 1) := by decide +kernel
theorem dL_law_463 : decode cL_law 463 = .ok (.aload_n 0, 1) := by decide +kernel
theorem dL_law_464 : decode cL_law 464 = .ok (.iload_n 3, 1) := by decide +kernel
theorem dL_law_465 : decode cL_law 465 = .ok (.iconst 2, 1) := by decide +kernel
theorem dL_law_466 : decode cL_law 466 = .ok (.iadd, 1) := by decide +kernel
theorem dL_law_467 : decode cL_law 467 = .ok (.iaload, 1) := by decide +kernel
theorem dL_law_468 : decode cL_law 468 = .ok (.aload_n 0, 1) := by decide +kernel
theorem dL_law_469 : decode cL_law 469 = .ok (.iload_n 3, 1) := by decide +kernel
theorem dL_law_470 : decode cL_law 470 = .ok (.iconst 3, 1) := by decide +kernel
theorem dL_law_471 : decode cL_law 471 = .ok (.iadd, 1) := by decide +kernel
theorem dL_law_472 : decode cL_law 472 = .ok (.iaload, 1) := by decide +kernel
theorem dL_law_473 : decode cL_law 473 = .ok (.invokevirtual 53, 3) := by decide +kernel
theorem dL_law_476 : decode cL_law 476 = .ok (.aload_n 2, 1) := by decide +kernel
theorem dL_law_477 : decode cL_law 477 = .ok (.aload_n 0, 1) := by decide +kernel
theorem dL_law_478 : decode cL_law 478 = .ok (.iload_n 3, 1) := by decide +kernel
theorem dL_law_479 : decode cL_law 479 = .ok (.iconst 1, 1) := by decide +kernel
theorem dL_law_480 : decode cL_law 480 = .ok (.iadd, 1) := by decide +kernel
theorem dL_law_481 : decode cL_law 481 = .ok (.iaload, 1) := by decide +kernel
theorem dL_law_482 : decode cL_law 482 = .ok (.aload_n 0, 1) := by decide +kernel
theorem dL_law_483 : decode cL_law 483 = .ok (.iload_n 3, 1) := by decide +kernel
theorem dL_law_484 : decode cL_law 484 = .ok (.iconst 2, 1) := by decide +kernel
theorem dL_law_485 : decode cL_law 485 = .ok (.iadd, 1) := by decide +kernel
theorem dL_law_486 : decode cL_law 486 = .ok (.iaload, 1) := by decide +kernel
theorem dL_law_487 : decode cL_law 487 = .ok (.aload_n 0, 1) := by decide +kernel
theorem dL_law_488 : decode cL_law 488 = .ok (.iload_n 3, 1) := by decide +kernel
theorem dL_law_489 : decode cL_law 489 = .ok (.iconst 3, 1) := by decide +kernel
theorem dL_law_490 : decode cL_law 490 = .ok (.iadd, 1) := by decide +kernel
theorem dL_law_491 : decode cL_law 491 = .ok (.iaload, 1) := by decide +kernel
theorem dL_law_492 : decode cL_law 492 = .ok (.invokevirtual 56, 3) := by decide +kernel
theorem dL_law_495 : decode cL_law 495 = .ok (.if_icmp .eq 407, 3) := by decide +kernel
theorem dL_law_498 : decode cL_law 498 = .ok (.iconst 0, 1) := by decide +kernel
theorem dL_law_499 : decode cL_law 499 = .ok (.ireturn, 1) := by decide +kernel
theorem dL_law_500 : decode cL_law 500 = .ok (.aload_n 1, 1) := by decide +kernel
theorem dL_law_501 : decode cL_law 501 = .ok (.aload_n 0, 1) := by decide +kernel
theorem dL_law_502 : decode cL_law 502 = .ok (.iload_n 3, 1) := by decide +kernel
theorem dL_law_503 : decode cL_law 503 = .ok (.iconst 1, 1) := by decide +kernel
theorem dL_law_504 : decode cL_law 504 = .ok (.iadd, 1) := by decide +kernel
theorem dL_law_505 : decode cL_law 505 = .ok (.iaload, 1) := by decide +kernel
theorem dL_law_506 : decode cL_law 506 = .ok (.aload_n 0, 1) := by decide +kernel
theorem dL_law_507 : decode cL_law 507 = .ok (.iload_n 3, 1) := by decide +kernel
theorem dL_law_508 : decode cL_law 508 = .ok (.iconst 2, 1) := by decide +kernel
theorem dL_law_509 : decode cL_law 509 = .ok (.iadd, 1) := by decide +kernel
theorem dL_law_510 : decode cL_law 510 = .ok (.iaload, 1) := by decide +kernel
theorem dL_law_511 : decode cL_law 511 = .ok (.aload_n 0, 1) := by decide +kernel
theorem dL_law_512 : decode cL_law 512 = .ok (.iload_n 3, 1) := by decide +kernel
theorem dL_law_513 : decode cL_law 513 = .ok (.iconst 3, 1) := by decide +kernel
theorem dL_law_514 : decode cL_law 514 = .ok (.iadd, 1) := by decide +kernel
theorem dL_law_515 : decode cL_law 515 = .ok (.iaload, 1) := by decide +kernel
theorem dL_law_516 : decode cL_law 516 = .ok (.invokevirtual 57, 3) := by decide +kernel
theorem dL_law_519 : decode cL_law 519 = .ok (.aload_n 2, 1) := by decide +kernel
theorem dL_law_520 : decode cL_law 520 = .ok (.aload_n 0, 1) := by decide +kernel
theorem dL_law_521 : decode cL_law 521 = .ok (.iload_n 3, 1) := by decide +kernel
end
section
theorem dL_law_522 : decode cL_law 522 = .ok (.iconst 1, 1) := by decide +kernel
theorem dL_law_523 : decode cL_law 523 = .ok (.iadd, 1) := by decide +kernel
theorem dL_law_524 : decode cL_law 524 = .ok (.iaload, 1) := by decide +kernel
theorem dL_law_525 : decode cL_law 525 = .ok (.aload_n 0, 1) := by decide +kernel
theorem dL_law_526 : decode cL_law 526 = .ok (.iload_n 3, 1) := by decide +kernel
theorem dL_law_527 : decode cL_law 527 = .ok (.iconst 2, 1) := by decide +kernel
theorem dL_law_528 : decode cL_law 528 = .ok (.iadd, 1) := by decide +kernel
theorem dL_law_529 : decode cL_law 529 = .ok (.iaload, 1) := by decide +kernel
theorem dL_law_530 : decode cL_law 530 = .ok (.aload_n 0, 1) := by decide +kernel
theorem dL_law_531 : decode cL_law 531 = .ok (.iload_n 3, 1) := by decide +kernel
theorem dL_law_532 : decode cL_law 532 = .ok (.iconst 3, 1) := by decide +kernel
theorem dL_law_533 : decode cL_law 533 = .ok (.iadd, 1) := by decide +kernel
theorem dL_law_534 : decode cL_law 534 = .ok (.iaload, 1) := by decide +kernel
theorem dL_law_535 : decode cL_law 535 = .ok (.invokevirtual 60, 3) := by decide +kernel
theorem dL_law_538 : decode cL_law 538 = .ok (.if_icmp .eq 364, 3) := by decide +kernel
theorem dL_law_541 : decode cL_law 541 = .ok (.iconst 0, 1) := by decide +kernel
theorem dL_law_542 : decode cL_law 542 = .ok (.ireturn, 1) := by decide +kernel
theorem dL_law_543 : decode cL_law 543 = .ok (.aload_n 1, 1) := by decide +kernel
theorem dL_law_544 : decode cL_law 544 = .ok (.aload_n 0, 1) := by decide +kernel
theorem dL_law_545 : decode cL_law 545 = .ok (.iload_n 3, 1) := by decide +kernel
theorem dL_law_546 : decode cL_law 546 = .ok (.iconst 1, 1) := by decide +kernel
theorem dL_law_547 : decode cL_law 547 = .ok (.iadd, 1) := by decide +kernel
theorem dL_law_548 : decode cL_law 548 = .ok (.iaload, 1) := by decide +kernel
theorem dL_law_549 : decode cL_law 549 = .ok (.aload_n 0, 1) := by decide +kernel
theorem dL_law_550 : decode cL_law 550 = .ok (.iload_n 3, 1) := by decide +kernel
theorem dL_law_551 : decode cL_law 551 = .ok (.iconst 2, 1) := by decide +kernel
theorem dL_law_552 : decode cL_law 552 = .ok (.iadd, 1) := by decide +kernel
theorem dL_law_553 : decode cL_law 553 = .ok (.iaload, 1) := by decide +kernel
theorem dL_law_554 : decode cL_law 554 = .ok (.aload_n 0, 1) := by decide +kernel
theorem dL_law_555 : decode cL_law 555 = .ok (.iload_n 3, 1) := by decide +kernel
theorem dL_law_556 : decode cL_law 556 = .ok (.iconst 3, 1) := by decide +kernel
theorem dL_law_557 : decode cL_law 557 = .ok (.iadd, 1) := by decide +kernel
theorem dL_law_558 : decode cL_law 558 = .ok (.iaload, 1) := by decide +kernel
theorem dL_law_559 : decode cL_law 559 = .ok (.invokevirtual 61, 3) := by decide +kernel
theorem dL_law_562 : decode cL_law 562 = .ok (.aload_n 2, 1) := by decide +kernel
theorem dL_law_563 : decode cL_law 563 = .ok (.aload_n 0, 1) := by decide +kernel
theorem dL_law_564 : decode cL_law 564 = .ok (.iload_n 3, 1) := by decide +kernel
theorem dL_law_565 : decode cL_law 565 = .ok (.iconst 1, 1) := by decide +kernel
theorem dL_law_566 : decode cL_law 566 = .ok (.iadd, 1) := by decide +kernel
theorem dL_law_567 : decode cL_law 567 = .ok (.iaload, 1) := by decide +kernel
theorem dL_law_568 : decode cL_law 568 = .ok (.aload_n 0, 1) := by decide +kernel
theorem dL_law_569 : decode cL_law 569 = .ok (.iload_n 3, 1) := by decide +kernel
theorem dL_law_570 : decode cL_law 570 = .ok (.iconst 2, 1) := by decide +kernel
theorem dL_law_571 : decode cL_law 571 = .ok (.iadd, 1) := by decide +kernel
theorem dL_law_572 : decode cL_law 572 = .ok (.iaload, 1) := by decide +kernel
theorem dL_law_573 : decode cL_law 573 = .ok (.aload_n 0, 1) := by decide +kernel
theorem dL_law_574 : decode cL_law 574 = .ok (.iload_n 3, 1) := by decide +kernel
theorem dL_law_575 : decode cL_law 575 = .ok (.iconst 3, 1) := by decide +kernel
theorem dL_law_576 : decode cL_law 576 = .ok (.iadd, 1) := by decide +kernel
theorem dL_law_577 : decode cL_law 577 = .ok (.iaload, 1) := by decide +kernel
theorem dL_law_578 : decode cL_law 578 = .ok (.invokevirtual 64, 3) := by decide +kernel
theorem dL_law_581 : decode cL_law 581 = .ok (.if_icmp .eq 321, 3) := by decide +kernel
theorem dL_law_584 : decode cL_law 584 = .ok (.iconst 0, 1) := by decide +kernel
theorem dL_law_585 : decode cL_law 585 = .ok (.ireturn, 1) := by decide +kernel
theorem dL_law_586 : decode cL_law 586 = .ok (.aload_n 1, 1) := by decide +kernel
theorem dL_law_587 : decode cL_law 587 = .ok (.invokevirtual 65, 3) := by decide +kernel
theorem dL_law_590 : decode cL_law 590 = .ok (.aload_n 2, 1) := by decide +kernel
theorem dL_law_591 : decode cL_law 591 = .ok (.invokevirtual 69, 3) := by decide +kernel
theorem dL_law_594 : decode cL_law 594 = .ok (.if_icmp .eq 308, 3) := by decide +kernel
theorem dL_law_597 : decode cL_law 597 = .ok (.iconst 0, 1) := by decide +kernel
theorem dL_law_598 : decode cL_law 598 = .ok (.ireturn, 1) := by decide +kernel
theorem dL_law_599 : decode cL_law 599 = .ok (.aload_n 1, 1) := by decide +kernel
theorem dL_law_600 : decode cL_law 600 = .ok (.aload_n 0, 1) := by decide +kernel
theorem dL_law_601 : decode cL_law 601 = .ok (.iload_n 3, 1) := by decide +kernel
theorem dL_law_602 : decode cL_law 602 = .ok (.iconst 1, 1) := by decide +kernel
theorem dL_law_603 : decode cL_law 603 = .ok (.iadd, 1) := by decide +kernel
theorem dL_law_604 : decode cL_law 604 = .ok (.iaload, 1) := by decide +kernel
theorem dL_law_605 : decode cL_law 605 = .ok (.invokevirtual 70, 3) := by decide +kernel
theorem dL_law_608 : decode cL_law 608 = .ok (.aload_n 2, 1) := by decide +kernel
theorem dL_law_609 : decode cL_law 609 = .ok (.aload_n 0, 1) := by decide +kernel
theorem dL_law_610 : decode cL_law 610 = .ok (.iload_n 3, 1) := by decide +kernel
theorem dL_law_611 : decode cL_law 611 = .ok (.iconst 1, 1) := by decide +kernel
theorem dL_law_612 : decode cL_law 612 = .ok (.iadd, 1) := by decide +kernel
theorem dL_law_613 : decode cL_law 613 = .ok (.iaload, 1) := by decide +kernel
theorem dL_law_614 : decode cL_law 614 = .ok (.invokevirtual 73, 3) := by decide +kernel
theorem dL_law_617 : decode cL_law 617 = .ok (.if_icmp .eq 285, 3) := by decide +kernel
theorem dL_law_620 : decode cL_law 620 = .ok (.iconst 0, 1) := by decide +kernel
theorem dL_law_621 : decode cL_law 621 = .ok (.ireturn, 1) := by decide +kernel
theorem dL_law_622 : decode cL_law 622 = .ok (.aload_n 1, 1) := by decide +kernel
theorem dL_law_623 : decode cL_law 623 = .ok (.invokevirtual 74, 3) := by decide +kernel
theorem dL_law_626 : decode cL_law 626 = .ok (.aload_n 2, 1) := by decide +kernel
theorem dL_law_627 : decode cL_law 627 = .ok (.invokevirtual 77, 3) := by decide +kernel
theorem dL_law_630 : decode cL_law 630 = .ok (.if_icmp .eq 272, 3) := by decide +kernel
theorem dL_law_633 : decode cL_law 633 = .ok (.iconst 0, 1) := by decide +kernel
theorem dL_law_634 : decode cL_law 634 = .ok (.ireturn, 1) := by decide +kernel
theorem dL_law_635 : decode cL_law 635 = .ok (.aload_n 1, 1) := by decide +kernel
theorem dL_law_636 : decode cL_law 636 = .ok (.aload_n 0, 1) := by decide +kernel
theorem dL_law_637 : decode cL_law 637 = .ok (.iload_n 3, 1) := by decide +kernel
theorem dL_law_638 : decode cL_law 638 = .ok (.iconst 1, 1) := by decide +kernel
theorem dL_law_639 : decode cL_law 639 = .ok (.iadd, 1) := by decide +kernel
theorem dL_law_640 : decode cL_law 640 = .ok (.iaload, 1) := by decide +kernel
theorem dL_law_641 : decode cL_law 641 = .ok (.invokevirtual 78, 3) := by decide +kernel
theorem dL_law_644 : decode cL_law 644 = .ok (.aload_n 2, 1) := by decide +kernel
theorem dL_law_645 : decode cL_law 645 = .ok (.aload_n 0, 1) := by decide +kernel
theorem dL_law_646 : decode cL_law 646 = .ok (.iload_n 3, 1) := by decide +kernel
theorem dL_law_647 : decode cL_law 647 = .ok (.iconst 1, 1) := by decide +kernel
theorem dL_law_648 : decode cL_law 648 = .ok (.iadd, 1) := by decide +kernel
theorem dL_law_649 : decode cL_law 649 = .ok (.iaload, 1) := by decide +kernel
theorem dL_law_650 : decode cL_law 650 = .ok (.invokevirtual 81, 3) := by decide +kernel
theorem dL_law_653 : decode cL_law 653 = .ok (.if_icmp .eq 249, 3) := by decide +kernel
theorem dL_law_656 : decode cL_law 656 = .ok (.iconst 0, 1) := by decide +kernel
theorem dL_law_657 : decode cL_law 657 = .ok (.ireturn, 1) := by decide +kernel
theorem dL_law_658 : decode cL_law 658 = .ok (.aload_n 1, 1) := by decide +kernel
theorem dL_law_659 : decode cL_law 659 = .ok (.aload_n 0, 1) := by decide +kernel
theorem dL_law_660 : decode cL_law 660 = .ok (.iload_n 3, 1) := by decide +kernel
theorem dL_law_661 : decode cL_law 661 = .ok (.iconst 1, 1) := by decide +kernel
theorem dL_law_662 : decode cL_law 662 = .ok (.iadd, 1) := by decide +kernel
theorem dL_law_663 : decode cL_law 663 = .ok (.iaload, 1) := by decide +kernel
theorem dL_law_664 : decode cL_law 664 = .ok (.aload_n 0, 1) := by decide +kernel
theorem dL_law_665 : decode cL_law 665 = .ok (.iload_n 3, 1) := by decide +kernel
end
section
theorem dL_law_666 : decode cL_law 666 = .ok (.iconst 2, 1) := by decide +kernel
theorem dL_law_667 : decode cL_law 667 = .ok (.iadd, 1) := by decide +kernel
theorem dL_law_668 : decode cL_law 668 = .ok (.iaload, 1) := by decide +kernel
theorem dL_law_669 : decode cL_law 669 = .ok (.invokevirtual 82, 3) := by decide +kernel
theorem dL_law_672 : decode cL_law 672 = .ok (.aload_n 2, 1) := by decide +kernel
theorem dL_law_673 : decode cL_law 673 = .ok (.aload_n 0, 1) := by decide +kernel
theorem dL_law_674 : decode cL_law 674 = .ok (.iload_n 3, 1) := by decide +kernel
theorem dL_law_675 : decode cL_law 675 = .ok (.iconst 1, 1) := by decide +kernel
theorem dL_law_676 : decode cL_law 676 = .ok (.iadd, 1) := by decide +kernel
theorem dL_law_677 : decode cL_law 677 = .ok (.iaload, 1) := by decide +kernel
theorem dL_law_678 : decode cL_law 678 = .ok (.aload_n 0, 1) := by decide +kernel
theorem dL_law_679 : decode cL_law 679 = .ok (.iload_n 3, 1) := by decide +kernel
theorem dL_law_680 : decode cL_law 680 = .ok (.iconst 2, 1) := by decide +kernel
theorem dL_law_681 : decode cL_law 681 = .ok (.iadd, 1) := by decide +kernel
theorem dL_law_682 : decode cL_law 682 = .ok (.iaload, 1) := by decide +kernel
theorem dL_law_683 : decode cL_law 683 = .ok (.invokevirtual 85, 3) := by decide +kernel
theorem dL_law_686 : decode cL_law 686 = .ok (.if_icmp .eq 216, 3) := by decide +kernel
theorem dL_law_689 : decode cL_law 689 = .ok (.iconst 0, 1) := by decide +kernel
theorem dL_law_690 : decode cL_law 690 = .ok (.ireturn, 1) := by decide +kernel
theorem dL_law_691 : decode cL_law 691 = .ok (.aload_n 1, 1) := by decide +kernel
theorem dL_law_692 : decode cL_law 692 = .ok (.aload_n 0, 1) := by decide +kernel
theorem dL_law_693 : decode cL_law 693 = .ok (.iload_n 3, 1) := by decide +kernel
theorem dL_law_694 : decode cL_law 694 = .ok (.iconst 1, 1) := by decide +kernel
theorem dL_law_695 : decode cL_law 695 = .ok (.iadd, 1) := by decide +kernel
theorem dL_law_696 : decode cL_law 696 = .ok (.iaload, 1) := by decide +kernel
theorem dL_law_697 : decode cL_law 697 = .ok (.aload_n 0, 1) := by decide +kernel
theorem dL_law_698 : decode cL_law 698 = .ok (.iload_n 3, 1) := by decide +kernel
theorem dL_law_699 : decode cL_law 699 = .ok (.iconst 2, 1) := by decide +kernel
theorem dL_law_700 : decode cL_law 700 = .ok (.iadd, 1) := by decide +kernel
theorem dL_law_701 : decode cL_law 701 = .ok (.iaload, 1) := by decide +kernel
theorem dL_law_702 : decode cL_law 702 = .ok (.aload_n 0, 1) := by decide +kernel
theorem dL_law_703 : decode cL_law 703 = .ok (.iload_n 3, 1) := by decide +kernel
theorem dL_law_704 : decode cL_law 704 = .ok (.iconst 3, 1) := by decide +kernel
theorem dL_law_705 : decode cL_law 705 = .ok (.iadd, 1) := by decide +kernel
theorem dL_law_706 : decode cL_law 706 = .ok (.iaload, 1) := by decide +kernel
theorem dL_law_707 : decode cL_law 707 = .ok (.invokevirtual 86, 3) := by decide +kernel
theorem dL_law_710 : decode cL_law 710 = .ok (.aload_n 2, 1) := by decide +kernel
theorem dL_law_711 : decode cL_law 711 = .ok (.aload_n 0, 1) := by decide +kernel
theorem dL_law_712 : decode cL_law 712 = .ok (.iload_n 3, 1) := by decide +kernel
theorem dL_law_713 : decode cL_law 713 = .ok (.iconst 1, 1) := by decide +kernel
theorem dL_law_714 : decode cL_law 714 = .ok (.iadd, 1) := by decide +kernel
theorem dL_law_715 : decode cL_law 715 = .ok (.iaload, 1) := by decide +kernel
theorem dL_law_716 : decode cL_law 716 = .ok (.aload_n 0, 1) := by decide +kernel
theorem dL_law_717 : decode cL_law 717 = .ok (.iload_n 3, 1) := by decide +kernel
theorem dL_law_718 : decode cL_law 718 = .ok (.iconst 2, 1) := by decide +kernel
theorem dL_law_719 : decode cL_law 719 = .ok (.iadd, 1) := by decide +kernel
theorem dL_law_720 : decode cL_law 720 = .ok (.iaload, 1) := by decide +kernel
theorem dL_law_721 : decode cL_law 721 = .ok (.aload_n 0, 1) := by decide +kernel
theorem dL_law_722 : decode cL_law 722 = .ok (.iload_n 3, 1) := by decide +kernel
theorem dL_law_723 : decode cL_law 723 = .ok (.iconst 3, 1) := by decide +kernel
theorem dL_law_724 : decode cL_law 724 = .ok (.iadd, 1) := by decide +kernel
theorem dL_law_725 : decode cL_law 725 = .ok (.iaload, 1) := by decide +kernel
theorem dL_law_726 : decode cL_law 726 = .ok (.invokevirtual 89, 3) := by decide +kernel
theorem dL_law_729 : decode cL_law 729 = .ok (.if_icmp .eq 173, 3) := by decide +kernel
theorem dL_law_732 : decode cL_law 732 = .ok (.iconst 0, 1) := by decide +kernel
theorem dL_law_733 : decode cL_law 733 = .ok (.ireturn, 1) := by decide +kernel
theorem dL_law_734 : decode cL_law 734 = .ok (.aload_n 1, 1) := by decide +kernel
theorem dL_law_735 : decode cL_law 735 = .ok (.aload_n 0, 1) := by decide +kernel
theorem dL_law_736 : decode cL_law 736 = .ok (.iload_n 3, 1) := by decide +kernel
theorem dL_law_737 : decode cL_law 737 = .ok (.iconst 1, 1) := by decide +kernel
theorem dL_law_738 : decode cL_law 738 = .ok (.iadd, 1) := by decide +kernel
theorem dL_law_739 : decode cL_law 739 = .ok (.iaload, 1) := by decide +kernel
theorem dL_law_740 : decode cL_law 740 = .ok (.aload_n 0, 1) := by decide +kernel
theorem dL_law_741 : decode cL_law 741 = .ok (.iload_n 3, 1) := by decide +kernel
theorem dL_law_742 : decode cL_law 742 = .ok (.iconst 2, 1) := by decide +kernel
theorem dL_law_743 : decode cL_law 743 = .ok (.iadd, 1) := by decide +kernel
theorem dL_law_744 : decode cL_law 744 = .ok (.iaload, 1) := by decide +kernel
theorem dL_law_745 : decode cL_law 745 = .ok (.aload_n 0, 1) := by decide +kernel
theorem dL_law_746 : decode cL_law 746 = .ok (.iload_n 3, 1) := by decide +kernel
theorem dL_law_747 : decode cL_law 747 = .ok (.iconst 3, 1) := by decide +kernel
theorem dL_law_748 : decode cL_law 748 = .ok (.iadd, 1) := by decide +kernel
theorem dL_law_749 : decode cL_law 749 = .ok (.iaload, 1) := by decide +kernel
theorem dL_law_750 : decode cL_law 750 = .ok (.aload_n 0, 1) := by decide +kernel
theorem dL_law_751 : decode cL_law 751 = .ok (.iload_n 3, 1) := by decide +kernel
theorem dL_law_752 : decode cL_law 752 = .ok (.iconst 4, 1) := by decide +kernel
theorem dL_law_753 : decode cL_law 753 = .ok (.iadd, 1) := by decide +kernel
theorem dL_law_754 : decode cL_law 754 = .ok (.iaload, 1) := by decide +kernel
theorem dL_law_755 : decode cL_law 755 = .ok (.invokevirtual 90, 3) := by decide +kernel
theorem dL_law_758 : decode cL_law 758 = .ok (.aload_n 2, 1) := by decide +kernel
theorem dL_law_759 : decode cL_law 759 = .ok (.aload_n 0, 1) := by decide +kernel
theorem dL_law_760 : decode cL_law 760 = .ok (.iload_n 3, 1) := by decide +kernel
theorem dL_law_761 : decode cL_law 761 = .ok (.iconst 1, 1) := by decide +kernel
theorem dL_law_762 : decode cL_law 762 = .ok (.iadd, 1) := by decide +kernel
theorem dL_law_763 : decode cL_law 763 = .ok (.iaload, 1) := by decide +kernel
theorem dL_law_764 : decode cL_law 764 = .ok (.aload_n 0, 1) := by decide +kernel
theorem dL_law_765 : decode cL_law 765 = .ok (.iload_n 3, 1) := by decide +kernel
theorem dL_law_766 : decode cL_law 766 = .ok (.iconst 2, 1) := by decide +kernel
theorem dL_law_767 : decode cL_law 767 = .ok (.iadd, 1) := by decide +kernel
theorem dL_law_768 : decode cL_law 768 = .ok (.iaload, 1) := by decide +kernel
theorem dL_law_769 : decode cL_law 769 = .ok (.aload_n 0, 1) := by decide +kernel
theorem dL_law_770 : decode cL_law 770 = .ok (.iload_n 3, 1) := by decide +kernel
theorem dL_law_771 : decode cL_law 771 = .ok (.iconst 3, 1) := by decide +kernel
theorem dL_law_772 : decode cL_law 772 = .ok (.iadd, 1) := by decide +kernel
theorem dL_law_773 : decode cL_law 773 = .ok (.iaload, 1) := by decide +kernel
theorem dL_law_774 : decode cL_law 774 = .ok (.aload_n 0, 1) := by decide +kernel
theorem dL_law_775 : decode cL_law 775 = .ok (.iload_n 3, 1) := by decide +kernel
theorem dL_law_776 : decode cL_law 776 = .ok (.iconst 4, 1) := by decide +kernel
theorem dL_law_777 : decode cL_law 777 = .ok (.iadd, 1) := by decide +kernel
theorem dL_law_778 : decode cL_law 778 = .ok (.iaload, 1) := by decide +kernel
theorem dL_law_779 : decode cL_law 779 = .ok (.invokevirtual 94, 3) := by decide +kernel
theorem dL_law_782 : decode cL_law 782 = .ok (.if_icmp .eq 120, 3) := by decide +kernel
theorem dL_law_785 : decode cL_law 785 = .ok (.iconst 0, 1) := by decide +kernel
theorem dL_law_786 : decode cL_law 786 = .ok (.ireturn, 1) := by decide +kernel
theorem dL_law_787 : decode cL_law 787 = .ok (.aload_n 1, 1) := by decide +kernel
theorem dL_law_788 : decode cL_law 788 = .ok (.aload_n 0, 1) := by decide +kernel
theorem dL_law_789 : decode cL_law 789 = .ok (.iload_n 3, 1) := by decide +kernel
theorem dL_law_790 : decode cL_law 790 = .ok (.iconst 1, 1) := by decide +kernel
theorem dL_law_791 : decode cL_law 791 = .ok (.iadd, 1) := by decide +kernel
theorem dL_law_792 : decode cL_law 792 = .ok (.iaload, 1) := by decide +kernel
theorem dL_law_793 : decode cL_law 793 = .ok (.invokevirtual 95, 3) := by decide +kernel
end
section
theorem dL_law_796 : decode cL_law 796 = .ok (.aload_n 2, 1) := by decide +kernel
theorem dL_law_797 : decode cL_law 797 = .ok (.aload_n 0, 1) := by decide +kernel
theorem dL_law_798 : decode cL_law 798 = .ok (.iload_n 3, 1) := by decide +kernel
theorem dL_law_799 : decode cL_law 799 = .ok (.iconst 1, 1) := by decide +kernel
theorem dL_law_800 : decode cL_law 800 = .ok (.iadd, 1) := by decide +kernel
theorem dL_law_801 : decode cL_law 801 = .ok (.iaload, 1) := by decide +kernel
theorem dL_law_802 : decode cL_law 802 = .ok (.invokevirtual 98, 3) := by decide +kernel
theorem dL_law_805 : decode cL_law 805 = .ok (.if_icmp .eq 97, 3) := by decide +kernel
theorem dL_law_808 : decode cL_law 808 = .ok (.iconst 0, 1) := by decide +kernel
theorem dL_law_809 : decode cL_law 809 = .ok (.ireturn, 1) := by decide +kernel
theorem dL_law_810 : decode cL_law 810 = .ok (.aload_n 1, 1) := by decide +kernel
theorem dL_law_811 : decode cL_law 811 = .ok (.aload_n 0, 1) := by decide +kernel
theorem dL_law_812 : decode cL_law 812 = .ok (.iload_n 3, 1) := by decide +kernel
theorem dL_law_813 : decode cL_law 813 = .ok (.iconst 1, 1) := by decide +kernel
theorem dL_law_814 : decode cL_law 814 = .ok (.iadd, 1) := by decide +kernel
theorem dL_law_815 : decode cL_law 815 = .ok (.iaload, 1) := by decide +kernel
theorem dL_law_816 : decode cL_law 816 = .ok (.aload_n 0, 1) := by decide +kernel
theorem dL_law_817 : decode cL_law 817 = .ok (.iload_n 3, 1) := by decide +kernel
theorem dL_law_818 : decode cL_law 818 = .ok (.iconst 2, 1) := by decide +kernel
theorem dL_law_819 : decode cL_law 819 = .ok (.iadd, 1) := by decide +kernel
theorem dL_law_820 : decode cL_law 820 = .ok (.iaload, 1) := by decide +kernel
theorem dL_law_821 : decode cL_law 821 = .ok (.invokevirtual 99, 3) := by decide +kernel
theorem dL_law_824 : decode cL_law 824 = .ok (.aload_n 2, 1) := by decide +kernel
theorem dL_law_825 : decode cL_law 825 = .ok (.aload_n 0, 1) := by decide +kernel
theorem dL_law_826 : decode cL_law 826 = .ok (.iload_n 3, 1) := by decide +kernel
theorem dL_law_827 : decode cL_law 827 = .ok (.iconst 1, 1) := by decide +kernel
theorem dL_law_828 : decode cL_law 828 = .ok (.iadd, 1) := by decide +kernel
theorem dL_law_829 : decode cL_law 829 = .ok (.iaload, 1) := by decide +kernel
theorem dL_law_830 : decode cL_law 830 = .ok (.aload_n 0, 1) := by decide +kernel
theorem dL_law_831 : decode cL_law 831 = .ok (.iload_n 3, 1) := by decide +kernel
theorem dL_law_832 : decode cL_law 832 = .ok (.iconst 2, 1) := by decide +kernel
theorem dL_law_833 : decode cL_law 833 = .ok (.iadd, 1) := by decide +kernel
theorem dL_law_834 : decode cL_law 834 = .ok (.iaload, 1) := by decide +kernel
theorem dL_law_835 : decode cL_law 835 = .ok (.invokevirtual 102, 3) := by decide +kernel
theorem dL_law_838 : decode cL_law 838 = .ok (.if_icmp .eq 64, 3) := by decide +kernel
theorem dL_law_841 : decode cL_law 841 = .ok (.iconst 0, 1) := by decide +kernel
theorem dL_law_842 : decode cL_law 842 = .ok (.ireturn, 1) := by decide +kernel
theorem dL_law_843 : decode cL_law 843 = .ok (.aload_n 1, 1) := by decide +kernel
theorem dL_law_844 : decode cL_law 844 = .ok (.invokevirtual 103, 3) := by decide +kernel
theorem dL_law_847 : decode cL_law 847 = .ok (.aload_n 2, 1) := by decide +kernel
theorem dL_law_848 : decode cL_law 848 = .ok (.invokevirtual 106, 3) := by decide +kernel
theorem dL_law_851 : decode cL_law 851 = .ok (.if_icmp .eq 51, 3) := by decide +kernel
theorem dL_law_854 : decode cL_law 854 = .ok (.iconst 0, 1) := by decide +kernel
theorem dL_law_855 : decode cL_law 855 = .ok (.ireturn, 1) := by decide +kernel
theorem dL_law_856 : decode cL_law 856 = .ok (.aload_n 1, 1) := by decide +kernel
theorem dL_law_857 : decode cL_law 857 = .ok (.aload_n 0, 1) := by decide +kernel
theorem dL_law_858 : decode cL_law 858 = .ok (.iload_n 3, 1) := by decide +kernel
theorem dL_law_859 : decode cL_law 859 = .ok (.iconst 1, 1) := by decide +kernel
theorem dL_law_860 : decode cL_law 860 = .ok (.iadd, 1) := by decide +kernel
theorem dL_law_861 : decode cL_law 861 = .ok (.iaload, 1) := by decide +kernel
theorem dL_law_862 : decode cL_law 862 = .ok (.invokevirtual 107, 3) := by decide +kernel
theorem dL_law_865 : decode cL_law 865 = .ok (.aload_n 2, 1) := by decide +kernel
theorem dL_law_866 : decode cL_law 866 = .ok (.aload_n 0, 1) := by decide +kernel
theorem dL_law_867 : decode cL_law 867 = .ok (.iload_n 3, 1) := by decide +kernel
theorem dL_law_868 : decode cL_law 868 = .ok (.iconst 1, 1) := by decide +kernel
theorem dL_law_869 : decode cL_law 869 = .ok (.iadd, 1) := by decide +kernel
theorem dL_law_870 : decode cL_law 870 = .ok (.iaload, 1) := by decide +kernel
theorem dL_law_871 : decode cL_law 871 = .ok (.invokevirtual 110, 3) := by decide +kernel
theorem dL_law_874 : decode cL_law 874 = .ok (.if_icmp .eq 28, 3) := by decide +kernel
theorem dL_law_877 : decode cL_law 877 = .ok (.iconst 0, 1) := by decide +kernel
theorem dL_law_878 : decode cL_law 878 = .ok (.ireturn, 1) := by decide +kernel
theorem dL_law_879 : decode cL_law 879 = .ok (.aload_n 1, 1) := by decide +kernel
theorem dL_law_880 : decode cL_law 880 = .ok (.aload_n 0, 1) := by decide +kernel
theorem dL_law_881 : decode cL_law 881 = .ok (.iload_n 3, 1) := by decide +kernel
theorem dL_law_882 : decode cL_law 882 = .ok (.iconst 1, 1) := by decide +kernel
theorem dL_law_883 : decode cL_law 883 = .ok (.iadd, 1) := by decide +kernel
theorem dL_law_884 : decode cL_law 884 = .ok (.iaload, 1) := by decide +kernel
theorem dL_law_885 : decode cL_law 885 = .ok (.invokevirtual 111, 3) := by decide +kernel
theorem dL_law_888 : decode cL_law 888 = .ok (.aload_n 2, 1) := by decide +kernel
theorem dL_law_889 : decode cL_law 889 = .ok (.aload_n 0, 1) := by decide +kernel
theorem dL_law_890 : decode cL_law 890 = .ok (.iload_n 3, 1) := by decide +kernel
theorem dL_law_891 : decode cL_law 891 = .ok (.iconst 1, 1) := by decide +kernel
theorem dL_law_892 : decode cL_law 892 = .ok (.iadd, 1) := by decide +kernel
theorem dL_law_893 : decode cL_law 893 = .ok (.iaload, 1) := by decide +kernel
theorem dL_law_894 : decode cL_law 894 = .ok (.invokevirtual 114, 3) := by decide +kernel
theorem dL_law_897 : decode cL_law 897 = .ok (.if_icmp .eq 5, 3) := by decide +kernel
theorem dL_law_900 : decode cL_law 900 = .ok (.iconst 0, 1) := by decide +kernel
theorem dL_law_901 : decode cL_law 901 = .ok (.ireturn, 1) := by decide +kernel
theorem dL_law_902 : decode cL_law 902 = .ok (.iinc 3 5, 3) := by decide +kernel
theorem dL_law_905 : decode cL_law 905 = .ok (.goto (-887), 3) := by decide +kernel
theorem dL_law_908 : decode cL_law 908 = .ok (.iconst 1, 1) := by decide +kernel
theorem dL_law_909 : decode cL_law 909 = .ok (.ireturn, 1) := by decide +kernel
end
section
/-! ===== MY KIT: contracts over whole worlds, calls, rows with numbers ===== -/
def nwl : List Cond := [.fieldLinkNest RX4 43 RX1 "posts" "I" RX4, .fieldLinkNest RX4 59 RX1 "lines" "I" RX4, .fieldLinkNest RX4 77 RX1 "bothWays" "[Z" RX4, .fieldLinkNest RX4 81 RX1 "prices" "[I" RX4, .fieldLinkNest RX4 85 RX1 "there" "[Z" RX4, .fieldLinkNest RX4 95 RX1 "begins" "[I" RX4, .fieldLinkNest RX4 98 RX1 "ends" "[I" RX4, .fieldLinkNest RX3 31 RX1 "posts" "I" RX4, .fieldLinkNest RX3 84 RX1 "lines" "I" RX4, .fieldLinkNest RX3 96 RX1 "prices" "[I" RX4, .fieldLinkNest RX3 99 RX1 "begins" "[I" RX4, .fieldLinkNest RX3 105 RX1 "ends" "[I" RX4, .fieldLinkNest RX3 108 RX1 "bothWays" "[Z" RX4, .fieldLinkNest RX3 112 RX1 "there" "[Z" RX4, .methodLinkNest RX3 41 yX4_pairOf RX4, .methodLinkNest RX4 11 yX1_init RX4, .methodLinkNest RX4 27 yX2_init RX4, .methodLinkNest RX4 34 yX0_init RX4]
def nw (U : State) : Prop := ∀ w ∈ nwl, va_Nw w U
theorem nw_warm {s U : State} (hW : s.WarmedH U.vm) (h : nw s) : nw U := by
  intro w hw
  have h0 := h w hw
  simp only [nwl, List.mem_cons, List.not_mem_nil, or_false] at hw
  rcases hw with rfl | rfl | rfl | rfl | rfl | rfl | rfl | rfl | rfl | rfl | rfl | rfl | rfl | rfl | rfl | rfl | rfl | rfl
  all_goals first | exact va_Nw.warmF hW h0 | exact va_Nw.warmM hW h0
theorem nw_same {u U : State} (hv : u.vm = U.vm) (h : nw u) : nw U := by
  intro w hw
  have h0 := h w hw
  have ht : ∀ w ∈ nwl, w.onTables = true := by
    intro w hw
    simp only [nwl, List.mem_cons, List.not_mem_nil, or_false] at hw
    rcases hw with rfl | rfl | rfl | rfl | rfl | rfl | rfl | rfl | rfl | rfl | rfl | rfl | rfl | rfl | rfl | rfl | rfl | rfl
    all_goals rfl
  exact va_Nw.same (ht w hw) hv h0
/-- what holds of the machine all through a method -/
def kn (D : va_G) (cI cZ : ClassId) (A : Nat → Prop) (s : State) : Prop := va_K D vwCl [(cI, .int), (cZ, .boolean)] s ∧ nw s ∧ ∀ q, s.heap.size ≤ q → A q
/-- the world now -/
def wd (D : va_G) (A : Nat → Prop) (s : State) (H : Heap) (locs : List Loc) (w : va_W) : Prop := va_P D vwCl w H ∧ va_D A w ∧ va_S A s.heap H locs
def cB (D : va_G) (cI cZ : ClassId) (sz : Nat) (w : va_W) : State → Prop := fun U => U.heap.size = sz ∧ va_P D vwCl w U.heap ∧ va_K D vwCl [(cI, .int), (cZ, .boolean)] U ∧ nw U ∧ va_D (fun _ => True) w
def cE (D : va_G) (A : Nat → Prop) : va_W → State → Prop := fun u t => va_P D vwCl u t.heap ∧ va_D A u
/-- a contract: an int (or a boolean) comes back -/
def cI_ (l : Launch) (D : va_G) (cI cZ : ClassId) (y : MethodName) (ws : List Cond) (rm : Room) (av : List Value) (w : va_W) (Post : Int32 → va_W → Prop) (mc ms : Nat) : Prop :=
  ∀ sz, Met l y ws rm (va_Pc av (cB D cI cZ sz w)) (va_Qi Post (cE D (va_A w sz)) (va_A w sz)) mc ms (va_A w sz)
/-- a contract: nothing comes back -/
def cV_ (l : Launch) (D : va_G) (cI cZ : ClassId) (y : MethodName) (ws : List Cond) (rm : Room) (av : List Value) (w : va_W) (Post : va_W → Prop) (mc ms : Nat) : Prop :=
  ∀ sz, Met l y ws rm (va_Pc av (cB D cI cZ sz w)) (va_Qv Post (cE D (va_A w sz)) (va_A w sz)) mc ms (va_A w sz)
/-- a contract: a cell comes back -/
def cR_ (l : Launch) (D : va_G) (cI cZ : ClassId) (y : MethodName) (ws : List Cond) (rm : Room) (av : List Value) (w : va_W) (Post : Nat → va_W → Prop) (mc ms : Nat) : Prop :=
  ∀ sz, Met l y ws rm (va_Pc av (cB D cI cZ sz w)) (va_Qr (fun _ : va_W => True) (fun u a t => Post a u ∧ cE D (va_A w sz) u t) (va_A w sz)) mc ms (va_A w sz)
theorem cB_blind {D : va_G} {cI cZ : ClassId} {sz : Nat} {w : va_W} {av : List Value} : FrameBlind (va_Pc av (cB D cI cZ sz w)) := fun a U g mk q => by
  obtain ⟨q0, q1, qP, qK, qN, qD⟩ := q
  exact ⟨q0, q1, qP, va_K.moved (u := U) (U := U.calling g mk a) (Vm.Alike.refl U.vm) qK, nw_same (u := U) (U := U.calling g mk a) rfl qN, qD⟩
theorem wd_free {D : va_G} {cI cZ : ClassId} {A : Nat → Prop} {s : State} {H : Heap} {locs : List Loc} {w : va_W} (hk : kn D cI cZ A s) (hW : wd D A s H locs w) : ∀ q, va_A w H.size q → A q := by
  intro q h
  rcases h with ⟨k, e, h⟩ | h
  · exact hW.2.1.2 k (q, e) h
  · exact hk.2.2 q (Nat.le_trans hW.2.2.1 h)
section MYW
variable {l : Launch}
theorem Met_ofWF {y : MethodName} {ws ws' : List Cond} {rm : Room} {Pc : Array Value → State → Prop} {Qc : Array Value → State → Outcome → State → Prop} {mc ms : Nat} {free : Addr → Prop} {cc : ByteArray} {maxL : Nat} {ret : Option FieldType}
    (hy : plainFor y = true) (hw : ws = Cond.code y cc maxL ret :: ws')
    (body : ∀ p e s m args below meth c s₁, BodyLoose p l y (headSpec ws rm) cc maxL ret e s m args below meth c s₁ → c.maxLocals = maxL → Pc args s →
      W p l e (headSpec ws rm).room s m args below meth c s.heap [] 0 0 (MQ below Qc args s mc ms free) (entryFrame m args maxL)) : Met l y ws rm Pc Qc mc ms free := by
  refine MetFree.of_bodySF (code := cc) (maxLocals := maxL) (ret := ret) hy ?_ ?_
  · intro args s m h hn
    obtain ⟨meth, c, h1, h2, h3, h4, h5, h6, -, -⟩ := Cond.code_spec hn (atoms_spec (ws := ws) h _ (by rw [hw]; exact List.mem_cons_self))
    exact ⟨meth, c, h1, h2, h3, h4, h5, h6⟩
  · intro p e s m args below meth c s₁ B hml hP _
    have hh0 : s₁.heap = s.heap := by rw [B.state]; rfl
    obtain ⟨t, a1, o, b1, b2, b3⟩ := body p e s m args below meth c s₁ B hml hP s₁ hh0 (Stand.of_body B)
    exact ⟨t, o, a1, b1, b2, ⟨b3.1, b3.2⟩⟩
end MYW
/-- where int and boolean contracts come back -/
def RetI (p : Program) (l : Launch) (e : Env) (rm : Room) (s : State) (m : MethodId) (args : Array Value) (below : List Frame) (meth : Method) (c : Code) (D : va_G) (A : Nat → Prop) (Q : State → Prop) (cc : ByteArray) (rt : FieldType) (Post : Int32 → va_W → Prop) (mc ms : Nat) : Prop :=
  ∀ (H : Heap) (locs : List Loc) (k n pc : Nat) (ls : Array Slot) (v : Int32) (u : va_W), decode cc pc = .ok (.ireturn, 1) → narrow rt (.int v) = .int v → k ≤ mc → n ≤ ms → wd D A s H locs u → Post v u → W p l e rm s m args below meth c H locs k n Q (F0 m pc ls [.int v])
def RetV (p : Program) (l : Launch) (e : Env) (rm : Room) (s : State) (m : MethodId) (args : Array Value) (below : List Frame) (meth : Method) (c : Code) (D : va_G) (A : Nat → Prop) (Q : State → Prop) (cc : ByteArray) (Post : va_W → Prop) (mc ms : Nat) : Prop :=
  ∀ (H : Heap) (locs : List Loc) (k n pc : Nat) (ls : Array Slot) (u : va_W), decode cc pc = .ok (.return_, 1) → k ≤ mc → n ≤ ms → wd D A s H locs u → Post u → W p l e rm s m args below meth c H locs k n Q (F0 m pc ls [])
def RetR (p : Program) (l : Launch) (e : Env) (rm : Room) (s : State) (m : MethodId) (args : Array Value) (below : List Frame) (meth : Method) (c : Code) (D : va_G) (A : Nat → Prop) (Q : State → Prop) (cc : ByteArray) (Post : Nat → va_W → Prop) (mc ms : Nat) : Prop :=
  ∀ (H : Heap) (locs : List Loc) (k n pc : Nat) (ls : Array Slot) (a : Nat) (u : va_W), decode cc pc = .ok (.areturn, 1) → k ≤ mc → n ≤ ms → wd D A s H locs u → Post a u → W p l e rm s m args below meth c H locs k n Q (F0 m pc ls [.ref a])
theorem cI_of {l : Launch} {D : va_G} {cI cZ : ClassId} {y : MethodName} {ws ws' : List Cond} {rm : Room} {av : List Value} {w : va_W} {Post : Int32 → va_W → Prop} {mc ms : Nat} {cc : ByteArray} {maxL : Nat} {rt : FieldType} (hy : plainFor y = true) (hw : ws = Cond.code y cc maxL (some rt) :: ws') (hlen : (lg_sl av).length ≤ maxL)
    (body : ∀ (p : Program) (e : Env) (s : State) (m : MethodId) (args : Array Value) (below : List Frame) (meth : Method) (c : Code) (A : Nat → Prop) (Q : State → Prop) (ls : Array Slot), CallFix p m c cc maxL s args ws y.cls → kn D cI cZ A s → wd D A s s.heap [] w → lv_has ls maxL (lv_args 0 av) → RetI p l e rm s m args below meth c D A Q cc rt Post mc ms → W p l e rm s m args below meth c s.heap [] 0 0 Q (F0 m 0 ls [])) : cI_ l D cI cZ y ws rm av w Post mc ms := by
  intro sz
  refine Met_ofWF (cc := cc) (maxL := maxL) (ret := some rt) hy hw ?_
  intro p e s m args below meth c s₁ B hml hv
  obtain ⟨rfl, hsz, hP, hK, hN, hD0⟩ := hv
  subst hsz
  rw [lg_entry_eq]
  exact body p e s m _ below meth c (va_A w s.heap.size) _ _ ⟨B.exec, B.bytes, hml, findClass_of_methodNamed B.named, atoms_spec (ws := ws) B.pre⟩ ⟨hK, hN, fun q h => Or.inr h⟩ ⟨hP, hD0.self, va_S.rf⟩ (lv_entry av hlen)
    (fun H locs k n pc ls v u hd hn h1 h2 hW hp => W.widen h1 h2 (W.zret B.exec B.bytes B.returns hn (fun t ht hW' => ⟨⟨v, u, rfl, hp, by rw [ht]; exact hW.1, hW.2.1⟩, hW.2.2.F ht⟩) hW.2.2.2.2 hd (hlocks := B.notSynchronized)))
theorem cV_of {l : Launch} {D : va_G} {cI cZ : ClassId} {y : MethodName} {ws ws' : List Cond} {rm : Room} {av : List Value} {w : va_W} {Post : va_W → Prop} {mc ms : Nat} {cc : ByteArray} {maxL : Nat} (hy : plainFor y = true) (hw : ws = Cond.code y cc maxL none :: ws') (hlen : (lg_sl av).length ≤ maxL)
    (body : ∀ (p : Program) (e : Env) (s : State) (m : MethodId) (args : Array Value) (below : List Frame) (meth : Method) (c : Code) (A : Nat → Prop) (Q : State → Prop) (ls : Array Slot), CallFix p m c cc maxL s args ws y.cls → meth.name = y.name → kn D cI cZ A s → wd D A s s.heap [] w → lv_has ls maxL (lv_args 0 av) → RetV p l e rm s m args below meth c D A Q cc Post mc ms → W p l e rm s m args below meth c s.heap [] 0 0 Q (F0 m 0 ls [])) : cV_ l D cI cZ y ws rm av w Post mc ms := by
  intro sz
  refine Met_ofWF (cc := cc) (maxL := maxL) (ret := none) hy hw ?_
  intro p e s m args below meth c s₁ B hml hv
  obtain ⟨rfl, hsz, hP, hK, hN, hD0⟩ := hv
  subst hsz
  rw [lg_entry_eq]
  exact body p e s m _ below meth c (va_A w s.heap.size) _ _ ⟨B.exec, B.bytes, hml, findClass_of_methodNamed B.named, atoms_spec (ws := ws) B.pre⟩ (name_of_methodNamed B.named B.method).1 ⟨hK, hN, fun q h => Or.inr h⟩ ⟨hP, hD0.self, va_S.rf⟩ (lv_entry av hlen)
    (fun H locs k n pc ls u hd h1 h2 hW hp => W.widen h1 h2 (W.vret B.exec B.bytes B.returns (fun t ht hW' => ⟨⟨u, rfl, hp, by rw [ht]; exact hW.1, hW.2.1⟩, hW.2.2.F ht⟩) hW.2.2.2.2 hd (hlocks := B.notSynchronized)))
theorem cR_of {l : Launch} {D : va_G} {cI cZ : ClassId} {y : MethodName} {ws ws' : List Cond} {rm : Room} {av : List Value} {w : va_W} {Post : Nat → va_W → Prop} {mc ms : Nat} {cc : ByteArray} {maxL : Nat} {rt : FieldType} (hrt : (∃ n, rt = .object n) ∨ ∃ t, rt = .array t) (hy : plainFor y = true) (hw : ws = Cond.code y cc maxL (some rt) :: ws') (hlen : (lg_sl av).length ≤ maxL)
    (body : ∀ (p : Program) (e : Env) (s : State) (m : MethodId) (args : Array Value) (below : List Frame) (meth : Method) (c : Code) (A : Nat → Prop) (Q : State → Prop) (ls : Array Slot), CallFix p m c cc maxL s args ws y.cls → kn D cI cZ A s → wd D A s s.heap [] w → lv_has ls maxL (lv_args 0 av) → RetR p l e rm s m args below meth c D A Q cc Post mc ms → W p l e rm s m args below meth c s.heap [] 0 0 Q (F0 m 0 ls [])) : cR_ l D cI cZ y ws rm av w Post mc ms := by
  intro sz
  refine Met_ofWF (cc := cc) (maxL := maxL) (ret := some rt) hy hw ?_
  intro p e s m args below meth c s₁ B hml hv
  obtain ⟨rfl, hsz, hP, hK, hN, hD0⟩ := hv
  subst hsz
  rw [lg_entry_eq]
  exact body p e s m _ below meth c (va_A w s.heap.size) _ _ ⟨B.exec, B.bytes, hml, findClass_of_methodNamed B.named, atoms_spec (ws := ws) B.pre⟩ ⟨hK, hN, fun q h => Or.inr h⟩ ⟨hP, hD0.self, va_S.rf⟩ (lv_entry av hlen)
    (fun H locs k n pc ls a u hd h1 h2 hW hp => W.widen h1 h2 (W.aret B.exec B.bytes B.returns hrt (Or.inr ⟨a, rfl⟩) (fun t ht hW' => ⟨⟨u, a, rfl, trivial, hp, by rw [ht]; exact hW.1, hW.2.1⟩, hW.2.2.F ht⟩) hW.2.2.2.2 hd (hlocks := B.notSynchronized)))
section MYC
variable {p : Program} {l : Launch} {e : Env} {R : Room} {s : State} {m : MethodId} {args : Array Value} {below : List Frame} {meth : Method} {c : Code} {H : Heap} {locs : List Loc} {cells slots : Nat} {Q : State → Prop}
variable {pc nL mc ms n index maxL : Nat} {ls : Array Slot} {rest st As : List Value} {cc bytes : ByteArray} {Ts ws : List Cond} {own C host : String} {y : MethodName} {rm : Room} {D : va_G} {cI cZ : ClassId} {A : Nat → Prop} {w : va_W} {b : Nat} {lv : List (Nat × Value)} {a : Array Value}
theorem k_int {Post : Int32 → va_W → Prop} (hr : va_Run p l e R s m args below meth c H locs cells slots mc ms (F0 m pc ls st) rest (va_Qi Post (cE D (va_A w H.size)) (va_A w H.size) a) (va_A w H.size)) (hk : kn D cI cZ A s) (hW : wd D A s H locs w)
    (kk : ∀ (r : Int32) (u : va_W) (H1 : Heap) (locs1 : List Loc), Post r u → wd D A s H1 locs1 u → W p l e R s m args below meth c H1 locs1 (cells + mc) (slots + ms) Q (F0 m (pc + 3) ls (.int r :: rest))) : W p l e R s m args below meth c H locs cells slots Q (F0 m pc ls st) :=
  va_calli hr hW.2.2 (fun q _ h => wd_free hk hW q h) (wd_free hk hW) (fun r u t H1 locs1 ht hvm hp hB hz hk1 hS => kk r u H1 locs1 hp ⟨by rw [← ht]; exact hB.1, hB.2.weaken (fun _ q _ h => wd_free hk hW _ h), hS⟩)
theorem k_void {Post : va_W → Prop} (hr : va_Run p l e R s m args below meth c H locs cells slots mc ms (F0 m pc ls st) rest (va_Qv Post (cE D (va_A w H.size)) (va_A w H.size) a) (va_A w H.size)) (hk : kn D cI cZ A s) (hW : wd D A s H locs w)
    (kk : ∀ (u : va_W) (H1 : Heap) (locs1 : List Loc), Post u → wd D A s H1 locs1 u → W p l e R s m args below meth c H1 locs1 (cells + mc) (slots + ms) Q (F0 m (pc + 3) ls rest)) : W p l e R s m args below meth c H locs cells slots Q (F0 m pc ls st) :=
  va_callv hr hW.2.2 (fun q _ h => wd_free hk hW q h) (wd_free hk hW) (fun u t H1 locs1 ht hvm hp hB hz hk1 hS => kk u H1 locs1 hp ⟨by rw [← ht]; exact hB.1, hB.2.weaken (fun _ q _ h => wd_free hk hW _ h), hS⟩)
theorem k_ref {Post : Nat → va_W → Prop} (hr : va_Run p l e R s m args below meth c H locs cells slots mc ms (F0 m pc ls st) rest (va_Qr (fun _ : va_W => True) (fun u x t => Post x u ∧ cE D (va_A w H.size) u t) (va_A w H.size) a) (va_A w H.size)) (hk : kn D cI cZ A s) (hW : wd D A s H locs w)
    (kk : ∀ (x : Nat) (u : va_W) (H1 : Heap) (locs1 : List Loc), Post x u → wd D A s H1 locs1 u → W p l e R s m args below meth c H1 locs1 (cells + mc) (slots + ms) Q (F0 m (pc + 3) ls (.ref x :: rest))) : W p l e R s m args below meth c H locs cells slots Q (F0 m pc ls st) :=
  va_callr hr hW.2.2 (fun q _ h => wd_free hk hW q h) (wd_free hk hW) (fun u x t H1 locs1 ht hvm hp hB hz hk1 hS => kk x u H1 locs1 hB.1 ⟨by rw [← ht]; exact hB.2.1, hB.2.2.weaken (fun _ q _ h => wd_free hk hW _ h), hS⟩)
theorem k_pre {As : List Value} (hk : kn D cI cZ A s) (hW : wd D A s H locs w) : PreS s H (va_Pc As (cB D cI cZ H.size w)) As :=
  ⟨cB_blind, fun U hU hWm => ⟨rfl, by rw [hU], by rw [hU]; exact hW.1, va_K.moved hWm.alike hk.1, nw_warm hWm hk.2.1, hW.2.1.weaken (fun _ _ _ _ => trivial)⟩⟩
theorem k_preV {fs : List Value} {r : vw_C} {ci : Nat} (hk : kn D cI cZ A s) (hW : wd D A s H locs w) (q0 : Nat) (he : w[q0]? = some (b, .inr (ci, fs))) (hc : vwCl[ci]? = some r) (hC : r.1 = C) : PreV s H C b (va_Pc (.ref b :: As) (cB D cI cZ H.size w)) As :=
  ⟨cB_blind, by subst hC; exact va_recv hk.1 hW.1 hc he, (k_pre hk hW).2⟩
/-- a virtual call, an int comes back -/
theorem kVi {Post : Int32 → va_W → Prop} {ret : Option FieldType} {fs : List Value} {r : vw_C} {ci : Nat} (S : CallFix p m c cc nL s args Ts own) (hM : cI_ l D cI cZ y ws rm (.ref b :: As) w Post mc ms) (cw : CallW R s args own C index y bytes maxL ret ws rm mc ms n) (hk : kn D cI cZ A s) (hW : wd D A s H locs w) (q0 : Nat) (he : w[q0]? = some (b, .inr (ci, fs))) (hc : vwCl[ci]? = some r) (hC : r.1 = C) (hn : As.length = n) (hl : lv_has ls nL lv) (hst : st = As.reverse ++ .ref b :: rest) (hcat : (rest.map fun v => v.category).sum ≤ 8) (hdg : decode cc pc = .ok (.invokevirtual index, 3)) (hf : cells + mc ≤ R.cells ∧ slots + ms ≤ R.slots)
    (kk : ∀ (r : Int32) (u : va_W) (H1 : Heap) (locs1 : List Loc), Post r u → wd D A s H1 locs1 u → W p l e R s m args below meth c H1 locs1 (cells + mc) (slots + ms) Q (F0 m (pc + 3) ls (.int r :: rest))) : W p l e R s m args below meth c H locs cells slots Q (F0 m pc ls st) :=
  k_int (va_runV S (hM H.size) cw (k_preV hk hW q0 he hc hC) rfl hn hl.1 hst (lv_room hcat) hdg hf) hk hW kk
theorem kVv {Post : va_W → Prop} {ret : Option FieldType} {fs : List Value} {r : vw_C} {ci : Nat} (S : CallFix p m c cc nL s args Ts own) (hM : cV_ l D cI cZ y ws rm (.ref b :: As) w Post mc ms) (cw : CallW R s args own C index y bytes maxL ret ws rm mc ms n) (hk : kn D cI cZ A s) (hW : wd D A s H locs w) (q0 : Nat) (he : w[q0]? = some (b, .inr (ci, fs))) (hc : vwCl[ci]? = some r) (hC : r.1 = C) (hn : As.length = n) (hl : lv_has ls nL lv) (hst : st = As.reverse ++ .ref b :: rest) (hcat : (rest.map fun v => v.category).sum ≤ 8) (hdg : decode cc pc = .ok (.invokevirtual index, 3)) (hf : cells + mc ≤ R.cells ∧ slots + ms ≤ R.slots)
    (kk : ∀ (u : va_W) (H1 : Heap) (locs1 : List Loc), Post u → wd D A s H1 locs1 u → W p l e R s m args below meth c H1 locs1 (cells + mc) (slots + ms) Q (F0 m (pc + 3) ls rest)) : W p l e R s m args below meth c H locs cells slots Q (F0 m pc ls st) :=
  k_void (va_runV S (hM H.size) cw (k_preV hk hW q0 he hc hC) rfl hn hl.1 hst (lv_room hcat) hdg hf) hk hW kk
/-- a static call -/
theorem kSi {Post : Int32 → va_W → Prop} {ret : Option FieldType} (S : CallFix p m c cc nL s args Ts own) (hM : cI_ l D cI cZ y ws rm As w Post mc ms) (cw : CallB R s args own index y bytes maxL ret ws rm mc ms n ∧ (Cond.static y).before args s = true) (hk : kn D cI cZ A s) (hW : wd D A s H locs w) (hn : As.length = n) (hl : lv_has ls nL lv) (hst : st = As.reverse ++ rest) (hcat : (rest.map fun v => v.category).sum ≤ 8) (hdg : decode cc pc = .ok (.invokestatic index, 3)) (hf : cells + mc ≤ R.cells ∧ slots + ms ≤ R.slots)
    (kk : ∀ (r : Int32) (u : va_W) (H1 : Heap) (locs1 : List Loc), Post r u → wd D A s H1 locs1 u → W p l e R s m args below meth c H1 locs1 (cells + mc) (slots + ms) Q (F0 m (pc + 3) ls (.int r :: rest))) : W p l e R s m args below meth c H locs cells slots Q (F0 m pc ls st) :=
  k_int (va_runS S (hM H.size) cw (k_pre hk hW) rfl hn hl.1 hst (lv_room hcat) hdg hf) hk hW kk
theorem kSv {Post : va_W → Prop} {ret : Option FieldType} (S : CallFix p m c cc nL s args Ts own) (hM : cV_ l D cI cZ y ws rm As w Post mc ms) (cw : CallB R s args own index y bytes maxL ret ws rm mc ms n ∧ (Cond.static y).before args s = true) (hk : kn D cI cZ A s) (hW : wd D A s H locs w) (hn : As.length = n) (hl : lv_has ls nL lv) (hst : st = As.reverse ++ rest) (hcat : (rest.map fun v => v.category).sum ≤ 8) (hdg : decode cc pc = .ok (.invokestatic index, 3)) (hf : cells + mc ≤ R.cells ∧ slots + ms ≤ R.slots)
    (kk : ∀ (u : va_W) (H1 : Heap) (locs1 : List Loc), Post u → wd D A s H1 locs1 u → W p l e R s m args below meth c H1 locs1 (cells + mc) (slots + ms) Q (F0 m (pc + 3) ls rest)) : W p l e R s m args below meth c H locs cells slots Q (F0 m pc ls st) :=
  k_void (va_runS S (hM H.size) cw (k_pre hk hW) rfl hn hl.1 hst (lv_room hcat) hdg hf) hk hW kk
theorem kSr {Post : Nat → va_W → Prop} {ret : Option FieldType} (S : CallFix p m c cc nL s args Ts own) (hM : cR_ l D cI cZ y ws rm As w Post mc ms) (cw : CallB R s args own index y bytes maxL ret ws rm mc ms n ∧ (Cond.static y).before args s = true) (hk : kn D cI cZ A s) (hW : wd D A s H locs w) (hn : As.length = n) (hl : lv_has ls nL lv) (hst : st = As.reverse ++ rest) (hcat : (rest.map fun v => v.category).sum ≤ 8) (hdg : decode cc pc = .ok (.invokestatic index, 3)) (hf : cells + mc ≤ R.cells ∧ slots + ms ≤ R.slots)
    (kk : ∀ (x : Nat) (u : va_W) (H1 : Heap) (locs1 : List Loc), Post x u → wd D A s H1 locs1 u → W p l e R s m args below meth c H1 locs1 (cells + mc) (slots + ms) Q (F0 m (pc + 3) ls (.ref x :: rest))) : W p l e R s m args below meth c H locs cells slots Q (F0 m pc ls st) :=
  k_ref (va_runS S (hM H.size) cw (k_pre hk hW) rfl hn hl.1 hst (lv_room hcat) hdg hf) hk hW kk
/-- a static call of a nest mate's private method -/
theorem kNi {Post : Int32 → va_W → Prop} {ret : Option FieldType} (S : CallFix p m c cc nL s args Ts own) (hM : cI_ l D cI cZ y ws rm As w Post mc ms) (cw : va_CN R s args own index y host bytes maxL ret ws rm mc ms n ∧ (Cond.static y).before args s = true ∧ True) (hk : kn D cI cZ A s) (hW : wd D A s H locs w) (hn : As.length = n) (hl : lv_has ls nL lv) (hst : st = As.reverse ++ rest) (hcat : (rest.map fun v => v.category).sum ≤ 8) (hdg : decode cc pc = .ok (.invokestatic index, 3)) (hf : cells + mc ≤ R.cells ∧ slots + ms ≤ R.slots)
    (kk : ∀ (r : Int32) (u : va_W) (H1 : Heap) (locs1 : List Loc), Post r u → wd D A s H1 locs1 u → W p l e R s m args below meth c H1 locs1 (cells + mc) (slots + ms) Q (F0 m (pc + 3) ls (.int r :: rest))) : W p l e R s m args below meth c H locs cells slots Q (F0 m pc ls st) :=
  k_int (va_runSN S (hM H.size) cw (k_pre hk hW) rfl hn hl.1 hst (lv_room hcat) hdg hf) hk hW kk
/-- reads of fields -/
theorem gf {T : u_T} {N ci : Nat} {fs : List Value} (S : CallFix p m c cc nL s args Ts own) (hk : kn D cI cZ A s) (hW : wd D A s H locs w) (q0 : Nat) (he : w[q0]? = some (b, .inr (ci, fs))) (hc : vwCl[ci]? = some (C, T, N)) (hin : ∀ x ∈ u_ws C T N, x ∈ Ts) (k : Nat) (hkN : k < N) (i : Nat) (hlink : Ts[i]? = some (.fieldLink own index (T k).1 (T k).2.1 (T k).2.2.1)) {v : Value} (hv : fs[k]? = some v) (hdg : decode cc pc = .ok (.getfield index, 3))
    (kk : W p l e R s m args below meth c H locs cells slots Q (F0 m (pc + 3) ls (v :: rest))) : W p l e R s m args below meth c H locs cells slots Q (F0 m pc ls (.ref b :: rest)) :=
  va_get S.1 S.2.1 S.2.2.2.2 hin S.2.2.2.1 hk.1 hW.1 q0 he hc k hkN (S.2.2.2.2 _ (List.mem_of_getElem? hlink)) (fun _ h => h) hv hdg kk
theorem gfN {T : u_T} {N ci : Nat} {fs : List Value} (S : CallFix p m c cc nL s args Ts own) (hk : kn D cI cZ A s) (hW : wd D A s H locs w) (q0 : Nat) (he : w[q0]? = some (b, .inr (ci, fs))) (hc : vwCl[ci]? = some (C, T, N)) (hin : ∀ x ∈ u_ws C T N, x ∈ Ts) (k : Nat) (hkN : k < N) (i : Nat) (hlink : nwl[i]? = some (.fieldLinkNest own index (T k).1 (T k).2.1 (T k).2.2.1 host)) {v : Value} (hv : fs[k]? = some v) (hdg : decode cc pc = .ok (.getfield index, 3))
    (kk : W p l e R s m args below meth c H locs cells slots Q (F0 m (pc + 3) ls (v :: rest))) : W p l e R s m args below meth c H locs cells slots Q (F0 m pc ls (.ref b :: rest)) :=
  va_getN S.1 S.2.1 S.2.2.2.2 hin S.2.2.2.1 hk.1 hW.1 q0 he hc k hkN (va_Nw.use rfl (hk.2.1 _ (List.mem_of_getElem? hlink))) (fun _ h => h) hv hdg kk
/-- a write of a field -/
theorem pf {T : u_T} {N ci : Nat} {fs : List Value} (S : CallFix p m c cc nL s args Ts own) (hk : kn D cI cZ A s) (hW : wd D A s H locs w) (q0 : Nat) (he : w[q0]? = some (b, .inr (ci, fs))) (hc : vwCl[ci]? = some (C, T, N)) (hin : ∀ x ∈ u_ws C T N, x ∈ Ts) (ty0 : Nat → FieldType) (hty : ∀ k, k < N → parseFieldDescriptor (T k).2.2.1 = some (ty0 k)) (hnm : ∀ a, a < N → ∀ b, b < N → a ≠ b → (T a).2.1 ≠ (T b).2.1) (k : Nat) (hkN : k < N) (i : Nat) (hlink : Ts[i]? = some (.fieldLink own index (T k).1 (T k).2.1 (T k).2.2.1)) (hfin : (T k).2.2.2 = false) {ty : FieldType} {v : Value} (hd : parseFieldDescriptor (T k).2.2.1 = some ty) (hn : narrow ty v = v) (hfit : fits ty v = true) (hlk : k < fs.length) (hdg : decode cc pc = .ok (.putfield index, 3)) {w' : va_W} (hw' : w.set q0 (b, .inr (ci, fs.set k v)) = w')
    (kk : ∀ (H1 : Heap) (locs1 : List Loc), wd D A s H1 locs1 w' → W p l e R s m args below meth c H1 locs1 cells slots Q (F0 m (pc + 3) ls rest)) : W p l e R s m args below meth c H locs cells slots Q (F0 m pc ls (v :: .ref b :: rest)) := by
  subst hw'
  exact va_put S.1 S.2.1 S.2.2.2.2 hin ty0 hty hnm S.2.2.2.1 hk.1 hW.1 hW.2.1 hW.2.2 q0 he hc k hkN (S.2.2.2.2 _ (List.mem_of_getElem? hlink)) (fun _ h => h) hfin hd hn hfit hlk hdg (fun H1 locs1 h1 h2 h3 => kk H1 locs1 ⟨h1, h2, h3⟩)
/-- int and boolean rows, at a place that is a number -/
theorem ild {f : Nat → Int32} (S : CallFix p m c cc nL s args Ts own) (hk : kn D cI cZ A s) (hW : wd D A s H locs w) (q0 : Nat) (ha : w[q0]? = some (b, .inl (cI, n, .inl f))) {i : Int32} (j : Nat) (hi : i = nI j) (hj : j < n) (hn : n < 65536) (hdg : decode cc pc = .ok (.iaload, 1))
    (kk : W p l e R s m args below meth c H locs cells slots Q (F0 m (pc + 1) ls (.int (f j) :: rest))) : W p l e R s m args below meth c H locs cells slots Q (F0 m pc ls (.int i :: .ref b :: rest)) := by
  subst hi
  exact va_iald S.1 S.2.1 hk.1 hW.1 q0 0 ha rfl (vp_in_nI hj (by omega)) hdg (by rw [nI_clamp (by omega)]; exact kk)
theorem zld {f : Nat → Int32} (S : CallFix p m c cc nL s args Ts own) (hk : kn D cI cZ A s) (hW : wd D A s H locs w) (q0 : Nat) (ha : w[q0]? = some (b, .inl (cZ, n, .inl f))) {i : Int32} (j : Nat) (hi : i = nI j) (hj : j < n) (hn : n < 65536) (hdg : decode cc pc = .ok (.baload, 1))
    (kk : W p l e R s m args below meth c H locs cells slots Q (F0 m (pc + 1) ls (.int (f j) :: rest))) : W p l e R s m args below meth c H locs cells slots Q (F0 m pc ls (.int i :: .ref b :: rest)) := by
  subst hi
  exact va_zald S.1 S.2.1 hk.1 hW.1 q0 1 ha rfl (vp_in_nI hj (by omega)) hdg (by rw [nI_clamp (by omega)]; exact kk)
theorem ist {f : Nat → Int32} (S : CallFix p m c cc nL s args Ts own) (hk : kn D cI cZ A s) (hW : wd D A s H locs w) (q0 : Nat) (ha : w[q0]? = some (b, .inl (cI, n, .inl f))) {i x : Int32} (j : Nat) (hi : i = nI j) (hj : j < n) (hn : n < 65536) (hdg : decode cc pc = .ok (.iastore, 1)) {w' : va_W} (hw' : w.set q0 (b, .inl (cI, n, .inl (upd f j x))) = w')
    (kk : ∀ (H1 : Heap) (locs1 : List Loc), wd D A s H1 locs1 w' → W p l e R s m args below meth c H1 locs1 cells slots Q (F0 m (pc + 1) ls rest)) : W p l e R s m args below meth c H locs cells slots Q (F0 m pc ls (.int x :: .int i :: .ref b :: rest)) := by
  subst hi; subst hw'
  refine va_iast S.1 S.2.1 hk.1 hW.1 hW.2.1 hW.2.2 q0 0 ha rfl (vp_in_nI hj (by omega)) hdg (fun H1 locs1 h1 h2 h3 => ?_)
  rw [nI_clamp (by omega)] at h1 h2
  exact kk H1 locs1 ⟨h1, h2, h3⟩
theorem zst {f : Nat → Int32} (S : CallFix p m c cc nL s args Ts own) (hk : kn D cI cZ A s) (hW : wd D A s H locs w) (q0 : Nat) (ha : w[q0]? = some (b, .inl (cZ, n, .inl f))) {i x : Int32} (j : Nat) (hi : i = nI j) (hj : j < n) (hn : n < 65536) (hx : x = nI 0 ∨ x = nI 1) (hdg : decode cc pc = .ok (.bastore, 1)) {w' : va_W} (hw' : w.set q0 (b, .inl (cZ, n, .inl (upd f j x))) = w')
    (kk : ∀ (H1 : Heap) (locs1 : List Loc), wd D A s H1 locs1 w' → W p l e R s m args below meth c H1 locs1 cells slots Q (F0 m (pc + 1) ls rest)) : W p l e R s m args below meth c H locs cells slots Q (F0 m pc ls (.int x :: .int i :: .ref b :: rest)) := by
  subst hi; subst hw'
  have hx2 : vp_nar .boolean x = x := by rcases hx with rfl | rfl <;> rfl
  refine va_zast S.1 S.2.1 hk.1 hW.1 hW.2.1 hW.2.2 q0 1 ha rfl (vp_in_nI hj (by omega)) hdg (fun H1 locs1 h1 h2 h3 => ?_)
  rw [nI_clamp (by omega), hx2] at h1 h2
  exact kk H1 locs1 ⟨h1, h2, h3⟩
theorem alen {x : vp_A} (S : CallFix p m c cc nL s args Ts own) (hk : kn D cI cZ A s) (hW : wd D A s H locs w) (q0 : Nat) (ha : w[q0]? = some (b, .inl (cI, x))) (hdg : decode cc pc = .ok (.arraylength, 1))
    (kk : W p l e R s m args below meth c H locs cells slots Q (F0 m (pc + 1) ls (.int (nI x.1) :: rest))) : W p l e R s m args below meth c H locs cells slots Q (F0 m pc ls (.ref b :: rest)) :=
  va_alen S.1 S.2.1 hk.1 hW.1 q0 0 ha rfl rfl hdg kk
theorem pfN {T : u_T} {N ci : Nat} {fs : List Value} (S : CallFix p m c cc nL s args Ts own) (hk : kn D cI cZ A s) (hW : wd D A s H locs w) (q0 : Nat) (he : w[q0]? = some (b, .inr (ci, fs))) (hc : vwCl[ci]? = some (C, T, N)) (hin : ∀ x ∈ u_ws C T N, x ∈ Ts) (ty0 : Nat → FieldType) (hty : ∀ k, k < N → parseFieldDescriptor (T k).2.2.1 = some (ty0 k)) (hnm : ∀ a, a < N → ∀ b, b < N → a ≠ b → (T a).2.1 ≠ (T b).2.1) (k : Nat) (hkN : k < N) (i : Nat) (hlink : nwl[i]? = some (.fieldLinkNest own index (T k).1 (T k).2.1 (T k).2.2.1 host)) (hfin : (T k).2.2.2 = false) {ty : FieldType} {v : Value} (hd : parseFieldDescriptor (T k).2.2.1 = some ty) (hn : narrow ty v = v) (hfit : fits ty v = true) (hlk : k < fs.length) (hdg : decode cc pc = .ok (.putfield index, 3)) {w' : va_W} (hw' : w.set q0 (b, .inr (ci, fs.set k v)) = w')
    (kk : ∀ (H1 : Heap) (locs1 : List Loc), wd D A s H1 locs1 w' → W p l e R s m args below meth c H1 locs1 cells slots Q (F0 m (pc + 3) ls rest)) : W p l e R s m args below meth c H locs cells slots Q (F0 m pc ls (v :: .ref b :: rest)) := by
  subst hw'
  exact va_putN S.1 S.2.1 S.2.2.2.2 hin ty0 hty hnm S.2.2.2.1 hk.1 hW.1 hW.2.1 hW.2.2 q0 he hc k hkN (va_Nw.use rfl (hk.2.1 _ (List.mem_of_getElem? hlink))) (fun _ h => h) hfin hd hn hfit hlk hdg (fun H1 locs1 h1 h2 h3 => kk H1 locs1 ⟨h1, h2, h3⟩)
theorem top_eq {x y : Int32} (h : x = y) (k : W p l e R s m args below meth c H locs cells slots Q (F0 m pc ls (.int y :: rest))) : W p l e R s m args below meth c H locs cells slots Q (F0 m pc ls (.int x :: rest)) := by
  subst h
  exact k
/-- System.arraycopy of ints -/
theorem acpy {f g : Nat → Int32} {n0 n1 a0 : Nat} (S : CallFix p m c cc nL s args Ts own) (hk : kn D cI cZ A s) (hW : wd D A s H locs w) (hml : c.maxLocals = ls.size) (i1 i2 i3 i4 q0 q1 : Nat) (h1 : Ts[i1]? = some (.methodLink own index arraycopyName)) (h2 : Ts[i2]? = some (.native arraycopyName)) (h3 : Ts[i3]? = some (.static arraycopyName)) (h4 : Ts[i4]? = some (.initialized "java/lang/System")) (ha0 : w[q0]? = some (a0, .inl (cI, n0, .inl f))) (ha1 : w[q1]? = some (b, .inl (cI, n1, .inl g))) {sp dp nn : Nat} (hb1 : sp + nn ≤ n0) (hb2 : dp + nn ≤ n1) (hs1 : sp < 2 ^ 31) (hs2 : dp < 2 ^ 31) (hs3 : nn < 2 ^ 31) (hfr : 1 ≤ R.frames) (hlo : (rest.map fun v => v.category).sum + (nativeFrameWords "java/lang/System" "arraycopy" 5 + 11) ≤ R.locals) (hdg : decode cc pc = .ok (.invokestatic index, 3)) {w' : va_W} (hw' : w.set q1 (b, .inl (cI, n1, .inl (va_cpy f g sp dp nn))) = w')
    (kk : ∀ (H1 : Heap) (locs1 : List Loc), wd D A s H1 locs1 w' → W p l e R s m args below meth c H1 locs1 cells slots Q (F0 m (pc + 3) ls rest)) : W p l e R s m args below meth c H locs cells slots Q (F0 m pc ls (.int (nI nn) :: .int (nI dp) :: .ref b :: .int (nI sp) :: .ref a0 :: rest)) := by
  subst hw'
  refine va_copyi S.1 S.2.1 hml S.2.2.2.1 (S.2.2.2.2 _ (List.mem_of_getElem? h1)) (S.2.2.2.2 _ (List.mem_of_getElem? h2)) (S.2.2.2.2 _ (List.mem_of_getElem? h3)) (S.2.2.2.2 _ (List.mem_of_getElem? h4)) hk.1 hW.1 hW.2.1 hW.2.2 q0 q1 0 0 ha0 ha1 rfl rfl rfl (nI_pos hs1) (nI_pos hs2) (nI_pos hs3) (by rw [nI_clamp hs1, nI_clamp hs3]; exact hb1) (by rw [nI_clamp hs2, nI_clamp hs3]; exact hb2) (fun _ _ => rfl) hfr hlo hdg (fun H1 locs1 g1 g2 g3 => ?_)
  rw [nI_clamp hs1, nI_clamp hs2, nI_clamp hs3] at g1 g2
  exact kk H1 locs1 ⟨g1, g2, g3⟩
end MYC
/-- a boolean as it comes back -/
def bI (b : Bool) : Int32 := cond b (nI 1) (nI 0)
theorem bI_nar (b : Bool) : narrow .boolean (.int (bI b)) = .int (bI b) := by cases b <;> rfl
theorem bI_01 (b : Bool) : bI b = nI 0 ∨ bI b = nI 1 := by cases b <;> simp [bI]
theorem bI_0 (b : Bool) : bI b = 0 ↔ b = false := by cases b <;> decide
theorem bI_n0 (b : Bool) : ¬ bI b = 0 ↔ b = true := by cases b <;> decide
section MYB
variable {p : Program} {l : Launch} {e : Env} {R : Room} {s : State} {m : MethodId} {args : Array Value} {below : List Frame} {meth : Method} {c : Code} {H : Heap} {locs : List Loc} {cells slots : Nat} {Q : State → Prop}
variable {pc nL : Nat} {ls : Array Slot} {rest : List Value} {cc : ByteArray} {Ts : List Cond} {own : String}
theorem ifeq_b {b : Bool} {off : Int} {tgt : Nat} (S : CallFix p m c cc nL s args Ts own) (hdg : decode cc pc = .ok (.ifCond .eq off, 3)) (ht : (pc : Int) + off = (tgt : Int))
    (kt : b = false → W p l e R s m args below meth c H locs cells slots Q (F0 m tgt ls rest)) (kf : b = true → W p l e R s m args below meth c H locs cells slots Q (F0 m (pc + 3) ls rest)) : W p l e R s m args below meth c H locs cells slots Q (F0 m pc ls (.int (bI b) :: rest)) :=
  lv_if_eq S.1 S.2.1 hdg ht (fun h => kt ((bI_0 b).mp h)) (fun h => kf ((bI_n0 b).mp h))
theorem ifne_b {b : Bool} {off : Int} {tgt : Nat} (S : CallFix p m c cc nL s args Ts own) (hdg : decode cc pc = .ok (.ifCond .ne off, 3)) (ht : (pc : Int) + off = (tgt : Int))
    (kt : b = true → W p l e R s m args below meth c H locs cells slots Q (F0 m tgt ls rest)) (kf : b = false → W p l e R s m args below meth c H locs cells slots Q (F0 m (pc + 3) ls rest)) : W p l e R s m args below meth c H locs cells slots Q (F0 m pc ls (.int (bI b) :: rest)) :=
  lv_if_ne S.1 S.2.1 hdg ht (fun h => kt ((bI_n0 b).mp h)) (fun h => kf ((bI_0 b).mp h))
theorem icge_n {x y : Nat} {off : Int} {tgt : Nat} (S : CallFix p m c cc nL s args Ts own) (hx : x < 2 ^ 31) (hy : y < 2 ^ 31) (hdg : decode cc pc = .ok (.if_icmp .ge off, 3)) (ht : (pc : Int) + off = (tgt : Int))
    (kt : y ≤ x → W p l e R s m args below meth c H locs cells slots Q (F0 m tgt ls rest)) (kf : x < y → W p l e R s m args below meth c H locs cells slots Q (F0 m (pc + 3) ls rest)) : W p l e R s m args below meth c H locs cells slots Q (F0 m pc ls (.int (nI y) :: .int (nI x) :: rest)) :=
  lv_icmp_ge S.1 S.2.1 hdg ht (fun h => kt ((nI_leI hy hx).mp h)) (fun h => kf (Nat.not_le.mp fun q => h ((nI_leI hy hx).mpr q)))
theorem icgt_n {x y : Nat} {off : Int} {tgt : Nat} (S : CallFix p m c cc nL s args Ts own) (hx : x < 2 ^ 31) (hy : y < 2 ^ 31) (hdg : decode cc pc = .ok (.if_icmp .gt off, 3)) (ht : (pc : Int) + off = (tgt : Int))
    (kt : y < x → W p l e R s m args below meth c H locs cells slots Q (F0 m tgt ls rest)) (kf : x ≤ y → W p l e R s m args below meth c H locs cells slots Q (F0 m (pc + 3) ls rest)) : W p l e R s m args below meth c H locs cells slots Q (F0 m pc ls (.int (nI y) :: .int (nI x) :: rest)) :=
  lv_icmp_gt S.1 S.2.1 hdg ht (fun h => kt ((nI_ltI hy hx).mp h)) (fun h => kf (Nat.not_lt.mp fun q => h ((nI_ltI hy hx).mpr q)))
theorem icle_n {x y : Nat} {off : Int} {tgt : Nat} (S : CallFix p m c cc nL s args Ts own) (hx : x < 2 ^ 31) (hy : y < 2 ^ 31) (hdg : decode cc pc = .ok (.if_icmp .le off, 3)) (ht : (pc : Int) + off = (tgt : Int))
    (kt : x ≤ y → W p l e R s m args below meth c H locs cells slots Q (F0 m tgt ls rest)) (kf : y < x → W p l e R s m args below meth c H locs cells slots Q (F0 m (pc + 3) ls rest)) : W p l e R s m args below meth c H locs cells slots Q (F0 m pc ls (.int (nI y) :: .int (nI x) :: rest)) :=
  lv_icmp_le S.1 S.2.1 hdg ht (fun h => kt ((nI_leI hx hy).mp h)) (fun h => kf (Nat.not_le.mp fun q => h ((nI_leI hx hy).mpr q)))
theorem iclt_n {x y : Nat} {off : Int} {tgt : Nat} (S : CallFix p m c cc nL s args Ts own) (hx : x < 2 ^ 31) (hy : y < 2 ^ 31) (hdg : decode cc pc = .ok (.if_icmp .lt off, 3)) (ht : (pc : Int) + off = (tgt : Int))
    (kt : x < y → W p l e R s m args below meth c H locs cells slots Q (F0 m tgt ls rest)) (kf : y ≤ x → W p l e R s m args below meth c H locs cells slots Q (F0 m (pc + 3) ls rest)) : W p l e R s m args below meth c H locs cells slots Q (F0 m pc ls (.int (nI y) :: .int (nI x) :: rest)) :=
  lv_icmp_lt S.1 S.2.1 hdg ht (fun h => kt ((nI_ltI hx hy).mp h)) (fun h => kf (Nat.not_lt.mp fun q => h ((nI_ltI hx hy).mpr q)))
theorem iceq_n {x y : Nat} {off : Int} {tgt : Nat} (S : CallFix p m c cc nL s args Ts own) (hx : x < 2 ^ 31) (hy : y < 2 ^ 31) (hdg : decode cc pc = .ok (.if_icmp .eq off, 3)) (ht : (pc : Int) + off = (tgt : Int))
    (kt : x = y → W p l e R s m args below meth c H locs cells slots Q (F0 m tgt ls rest)) (kf : x ≠ y → W p l e R s m args below meth c H locs cells slots Q (F0 m (pc + 3) ls rest)) : W p l e R s m args below meth c H locs cells slots Q (F0 m pc ls (.int (nI y) :: .int (nI x) :: rest)) :=
  lv_icmp_eq S.1 S.2.1 hdg ht (fun h => kt ((nI_eq hx hy).mp h)) (fun h => kf (fun q => h ((nI_eq hx hy).mpr q)))
theorem icne_n {x y : Nat} {off : Int} {tgt : Nat} (S : CallFix p m c cc nL s args Ts own) (hx : x < 2 ^ 31) (hy : y < 2 ^ 31) (hdg : decode cc pc = .ok (.if_icmp .ne off, 3)) (ht : (pc : Int) + off = (tgt : Int))
    (kt : x ≠ y → W p l e R s m args below meth c H locs cells slots Q (F0 m tgt ls rest)) (kf : x = y → W p l e R s m args below meth c H locs cells slots Q (F0 m (pc + 3) ls rest)) : W p l e R s m args below meth c H locs cells slots Q (F0 m pc ls (.int (nI y) :: .int (nI x) :: rest)) :=
  lv_icmp_ne S.1 S.2.1 hdg ht (fun h => kt (fun q => h ((nI_eq hx hy).mpr q))) (fun h => kf ((nI_eq hx hy).mp h))
end MYB
end
section
/-! ===== the states as numbers: the lines (a graph), the class's world, the model's world ===== -/
abbrev Gr : Type := Nat × Nat × (Nat → Int32) × (Nat → Int32) × (Nat → Int32) × (Nat → Int32) × (Nat → Int32)
def gN (g : Gr) : Nat := g.1
def gK (g : Gr) : Nat := g.2.1
def gB (g : Gr) : Nat → Int32 := g.2.2.1
def gE (g : Gr) : Nat → Int32 := g.2.2.2.1
def gP (g : Gr) : Nat → Int32 := g.2.2.2.2.1
def gW (g : Gr) : Nat → Int32 := g.2.2.2.2.2.1
def gT (g : Gr) : Nat → Int32 := g.2.2.2.2.2.2
def sN (g : Gr) (n : Nat) : Gr := (n, gK g, gB g, gE g, gP g, gW g, gT g)
def sK (g : Gr) (n : Nat) : Gr := (gN g, n, gB g, gE g, gP g, gW g, gT g)
def sB (g : Gr) (f : Nat → Int32) : Gr := (gN g, gK g, f, gE g, gP g, gW g, gT g)
def sE (g : Gr) (f : Nat → Int32) : Gr := (gN g, gK g, gB g, f, gP g, gW g, gT g)
def sP (g : Gr) (f : Nat → Int32) : Gr := (gN g, gK g, gB g, gE g, f, gW g, gT g)
def sW (g : Gr) (f : Nat → Int32) : Gr := (gN g, gK g, gB g, gE g, gP g, f, gT g)
def sT (g : Gr) (f : Nat → Int32) : Gr := (gN g, gK g, gB g, gE g, gP g, gW g, f)
def e1 (g : Gr) (j : Nat) : Nat := (gB g j).toNatClampNeg
def e2 (g : Gr) (j : Nat) : Nat := (gE g j).toNatClampNeg
def bW (g : Gr) (j : Nat) : Bool := decide (gW g j ≠ 0)
def bT (g : Gr) (j : Nat) : Bool := decide (gT g j ≠ 0)
def Gok (g : Gr) : Prop := 2 ≤ gN g ∧ gN g ≤ 10 ∧ gK g ≤ 40 ∧ ∀ j, j < gK g → (∃ x, x < gN g ∧ gB g j = nI x) ∧ (∃ x, x < gN g ∧ gE g j = nI x) ∧ gB g j ≠ gE g j ∧ (gW g j = nI 0 ∨ gW g j = nI 1) ∧ (gT g j = nI 0 ∨ gT g j = nI 1) ∧ -50 ≤ (gP g j).toInt ∧ (gP g j).toInt ≤ 99 ∧ (gW g j = nI 1 → 0 ≤ (gP g j).toInt)
theorem Gok_N2 {g : Gr} (h : Gok g) : 2 ≤ gN g := h.1
theorem Gok_N {g : Gr} (h : Gok g) : gN g ≤ 10 := h.2.1
theorem Gok_K {g : Gr} (h : Gok g) : gK g ≤ 40 := h.2.2.1
theorem Gok_B2 {g : Gr} (h : Gok g) {j : Nat} (hj : j < gK g) : e1 g j < gN g := by
  obtain ⟨⟨x, hx, e⟩, -⟩ := h.2.2.2 j hj
  have := h.2.1
  unfold e1
  rw [e, nI_clamp (by omega)]
  exact hx
theorem Gok_E2 {g : Gr} (h : Gok g) {j : Nat} (hj : j < gK g) : e2 g j < gN g := by
  obtain ⟨-, ⟨x, hx, e⟩, -⟩ := h.2.2.2 j hj
  have := h.2.1
  unfold e2
  rw [e, nI_clamp (by omega)]
  exact hx
theorem Gok_B {g : Gr} (h : Gok g) {j : Nat} (hj : j < gK g) : gB g j = nI (e1 g j) := by
  obtain ⟨⟨x, hx, e⟩, -⟩ := h.2.2.2 j hj
  have := h.2.1
  unfold e1
  rw [e, nI_clamp (by omega)]
theorem Gok_E {g : Gr} (h : Gok g) {j : Nat} (hj : j < gK g) : gE g j = nI (e2 g j) := by
  obtain ⟨-, ⟨x, hx, e⟩, -⟩ := h.2.2.2 j hj
  have := h.2.1
  unfold e2
  rw [e, nI_clamp (by omega)]
theorem Gok_W {g : Gr} (h : Gok g) {j : Nat} (hj : j < gK g) : gW g j = bI (bW g j) := by
  obtain ⟨-, -, -, h1, -⟩ := h.2.2.2 j hj
  unfold bW
  rcases h1 with e | e <;> rw [e] <;> decide
theorem Gok_T {g : Gr} (h : Gok g) {j : Nat} (hj : j < gK g) : gT g j = bI (bT g j) := by
  obtain ⟨-, -, -, -, h1, -⟩ := h.2.2.2 j hj
  unfold bT
  rcases h1 with e | e <;> rw [e] <;> decide
theorem Gok_ne {g : Gr} (h : Gok g) {j : Nat} (hj : j < gK g) : e1 g j ≠ e2 g j := fun e => (h.2.2.2 j hj).2.2.1 (by rw [Gok_B h hj, Gok_E h hj, e])
/-- the class's world: 0 the object, 1 Net, 2 Ways, 3 Past, 4 Hitting, 5 .. 9 Net's rows, 10 costs, 11 reached, 12 fars (at qf), 13 asked -/
def wC (q : Nat → Nat) (qf : Nat) (cI cZ : ClassId) (g : Gr) (C R : Nat → Int32) (rw len : Nat) (F : Nat → Int32) (sz : Nat) (X : Nat → Int32) (mk : Int32) : va_W :=
  [(q 0, .inr (4, [.ref (q 1), .ref (q 2), .ref (q 3), .ref (q 4), .int mk])),
   (q 1, .inr (1, [.ref (q 5), .ref (q 6), .ref (q 7), .ref (q 8), .ref (q 9), .int (nI (gN g)), .int (nI (gK g))])),
   (q 2, .inr (3, [.ref (q 1), .ref (q 10), .ref (q 11)])),
   (q 3, .inr (2, [.ref qf, .int (nI rw)])),
   (q 4, .inr (0, [.ref (q 13), .int (nI sz)])),
   (q 5, .inl (cI, 40, .inl (gB g))), (q 6, .inl (cI, 40, .inl (gE g))), (q 7, .inl (cI, 40, .inl (gP g))), (q 8, .inl (cZ, 40, .inl (gW g))), (q 9, .inl (cZ, 40, .inl (gT g))),
   (q 10, .inl (cI, 100, .inl C)), (q 11, .inl (cI, 10, .inl R)), (qf, .inl (cI, len, .inl F)), (q 13, .inl (cI, 100, .inl X))]
/-- the model's world: 0 the object, 1 .. 5 from, to, price, isBoth, isThere, 6 fine, 7 kept, 8 inner -/
def wM (q : Nat → Nat) (cI cZ : ClassId) (g : Gr) (fi ke : Nat → Int32) (ac : Nat) (mk : Int32) (iv : Nat → Int32) : va_W :=
  [(q 0, .inr (5, [.int (nI 0), .int (nI (gN g)), .int (nI (gK g)), .ref (q 1), .ref (q 2), .ref (q 3), .ref (q 4), .ref (q 5), .ref (q 6), .ref (q 7), .int (nI ac), .int mk, .ref (q 8)])),
   (q 1, .inl (cI, 40, .inl (gB g))), (q 2, .inl (cI, 40, .inl (gE g))), (q 3, .inl (cI, 40, .inl (gP g))), (q 4, .inl (cZ, 40, .inl (gW g))), (q 5, .inl (cZ, 40, .inl (gT g))),
   (q 6, .inl (cI, 100, .inl fi)), (q 7, .inl (cI, 40100, .inl ke)), (q 8, .inl (cI, 100, .inl iv))]
def mmax (x y : Int32) : Int32 := if x < y then y else x
def mmin (x y : Int32) : Int32 := if y < x then y else x
/-! ===== what the methods answer, as functions ===== -/
def inb (x : Int32) (n : Nat) : Bool := !decide (x < 0) && !decide (nI n ≤ x)
theorem inb_nat {x : Int32} {n : Nat} (h : inb x n = true) (hn : n < 2 ^ 31) : ∃ j, j < n ∧ x = nI j := by
  simp only [inb, Bool.and_eq_true, Bool.not_eq_true', decide_eq_false_iff_not] at h
  obtain ⟨j, hj, e⟩ := nI_of h.1
  refine ⟨j, ?_, e⟩
  rcases Nat.lt_or_ge j n with q | q
  · exact q
  · exact absurd (by rw [e]; exact nI_le q hj) h.2
theorem inb_nI {j n : Nat} (hj : j < 2 ^ 31) (hn : n < 2 ^ 31) : inb (nI j) n = decide (j < n) := by
  have h0 : ¬ nI j < 0 := by
    have h := nI_pos' hj
    exact Int32.not_lt.mpr h
  by_cases q : j < n
  · have h1 : ¬ nI n ≤ nI j := fun z => absurd ((nI_leI hn hj).mp z) (by omega)
    simp only [inb, h0, h1, q, decide_false, decide_true, Bool.not_false, Bool.and_self]
  · have h1 : nI n ≤ nI j := (nI_leI hn hj).mpr (by omega)
    simp only [inb, h0, h1, q, decide_false, decide_true, Bool.not_false, Bool.not_true, Bool.and_false]
def addG (g : Gr) (a b : Nat) (p : Int32) (t : Bool) : Gr := sT (sW (sP (sE (sB (sK g (gK g + 1)) (upd (gB g) (gK g) (nI a))) (upd (gE g) (gK g) (nI b))) (upd (gP g) (gK g) p)) (upd (gW g) (gK g) (bI t))) (upd (gT g) (gK g) (nI 1))
def cntT (g : Gr) : Nat → Nat | 0 => 0 | i + 1 => cntT g i + (if bT g i then 1 else 0)
def tgN (g : Gr) (j : Nat) (y : Int32) : Int32 := if bT g j = true then (if nI (e1 g j) = y then nI (e2 g j) else if bW g j = true then (if nI (e2 g j) = y then nI (e1 g j) else (-1)) else (-1)) else (-1)
def tgt (g : Gr) (x y : Int32) : Int32 := if inb x (gK g) = true then tgN g x.toNatClampNeg y else (-1)
def tch (g : Gr) (j : Nat) (y : Int32) : Bool := decide (nI (e1 g j) = y) || decide (nI (e2 g j) = y)
def fdv (x y : Int32) : Int32 := if 0 ≤ x ^^^ y then x / y else if x / y * y = x then x / y else x / y - nI 1
def fmd (x y : Int32) : Int32 := if 0 ≤ x ^^^ y then x - x / y * y else if x - x / y * y = 0 then x - x / y * y else x - x / y * y + y
def bc1 (x : Int32) : Int32 := x - ((x.toUInt32 >>> ((nI 1).toUInt32 &&& Int32.toUInt32 31)).toInt32 &&& 1431655765)
def bc2 (x : Int32) : Int32 := (x &&& 858993459) + ((x.toUInt32 >>> ((nI 2).toUInt32 &&& Int32.toUInt32 31)).toInt32 &&& 858993459)
def bc3 (x : Int32) : Int32 := (x + (x.toUInt32 >>> ((nI 4).toUInt32 &&& Int32.toUInt32 31)).toInt32) &&& 252645135
def bc4 (x : Int32) : Int32 := x + (x.toUInt32 >>> ((nI 8).toUInt32 &&& Int32.toUInt32 31)).toInt32
def bc5 (x : Int32) : Int32 := x + (x.toUInt32 >>> ((nI 16).toUInt32 &&& Int32.toUInt32 31)).toInt32
def bcnt (x : Int32) : Int32 := bc5 (bc4 (bc3 (bc2 (bc1 x)))) &&& nI 63
def prI (c : Int32) : Int32 := if c = 2147483647 then (-1000) else fdv c (nI 64)
def lnI (c : Int32) : Int32 := if c = 2147483647 then (-1000) else fmd c (nI 64)
def ldB (C : Nat → Int32) (a b : Nat) : Bool := !decide (C (a * 10 + b) = 2147483647)
def cw (g : Gr) (j : Nat) : Int32 := gP g j * nI 64 + nI 1
def fj (P : Nat → Bool) : Nat → Nat → Option Nat | 0, _ => none | d + 1, i => if P i = true then some i else fj P d (i + 1)
def oI (z : Int32) : Option Nat → Int32 | none => z | some j => nI j
def nxP (g : Gr) (C : Nat → Int32) (a b j : Nat) : Bool := !decide (tgt g (nI j) (nI a) = (-1)) && (ldB C (tgt g (nI j) (nI a)).toNatClampNeg b && decide (cw g j + C ((tgt g (nI j) (nI a)).toNatClampNeg * 10 + b) = C (a * 10 + b)))
def nx (g : Gr) (C : Nat → Int32) (x : Int32) (b : Nat) : Int32 := if inb x (gN g) = true then (if ldB C x.toNatClampNeg b = true then oI (-1) (fj (nxP g C x.toNatClampNeg b) (gK g) 0) else (-1)) else (-1)
def ps (g : Gr) (C : Nat → Int32) (a b : Nat) : Nat → Int32 | 0 => nI a | t + 1 => tgt g (nx g C (ps g C a b t) b) (ps g C a b t)
def lnAt (g : Gr) (C : Nat → Int32) (a b : Nat) (i : Int32) : Int32 := if i < 0 then (-1000) else if i < lnI (C (a * 10 + b)) then nx g C (ps g C a b i.toNatClampNeg) b else (-1000)
def btS (g : Gr) (C : Nat → Int32) (a b : Nat) : Nat → Int32 | 0 => nI 0 | k + 1 => if ps g C a b (k + 1) = (-1) then btS g C a b k else btS g C a b k ||| (nI 1 <<< (ps g C a b (k + 1) &&& 31))
def low (R : Nat → Int32) (f t : Nat) (c : Int32) : Nat → Int32 := if R f = 2147483647 then R else if R f + c < R t then upd R t (R f + c) else R
def lowB (R : Nat → Int32) (f t : Nat) (c : Int32) : Bool := !decide (R f = 2147483647) && decide (R f + c < R t)
def rlx (g : Gr) (R : Nat → Int32) (j : Nat) : Nat → Int32 := if bW g j = true then low (low R (e1 g j) (e2 g j) (cw g j)) (e2 g j) (e1 g j) (cw g j) else low R (e1 g j) (e2 g j) (cw g j)
def rlxB (g : Gr) (R : Nat → Int32) (j : Nat) : Bool := (bW g j && lowB (low R (e1 g j) (e2 g j) (cw g j)) (e2 g j) (e1 g j) (cw g j)) || lowB R (e1 g j) (e2 g j) (cw g j)
def okL (g : Gr) (x y : Int32) (i : Nat) : Bool := bT g i && (!decide (nI i = x) && !tch g i y)
def swp (g : Gr) (x y : Int32) (R : Nat → Int32) : Nat → (Nat → Int32) × Bool
  | 0 => (R, false)
  | i + 1 => if okL g x y i = true then (rlx g (swp g x y R i).1 i, (swp g x y R i).2 || rlxB g (swp g x y R i).1 i) else swp g x y R i
def rnd (g : Gr) (x y : Int32) (R : Nat → Int32) : Nat → Nat → Int32 | 0 => R | r + 1 => (swp g x y (rnd g x y R r) (gK g)).1
def spr (g : Gr) (x y : Int32) (a : Nat) : Nat → Int32 := rnd g x y (upd (fun _ => 2147483647) a (nI 0)) (gN g)
def lav (g : Gr) (x y : Int32) (a b : Nat) : Int32 := prI (spr g x y a b)
def cst (g : Gr) (i p : Nat) : Int32 := if p / 10 < i then spr g (-1) (-1) (p / 10) (p % 10) else 2147483647
def anyN (P : Nat → Bool) : Nat → Bool | 0 => false | i + 1 => anyN P i || P i
def onw (g : Gr) (C : Nat → Int32) (a b j : Nat) : Bool := anyN (fun i => decide (lnAt g C a b (nI i) = nI j)) (lnI (C (a * 10 + b))).toNatClampNeg
def vit (g : Gr) (C : Nat → Int32) (a b j : Nat) : Bool := onw g C a b j && !decide (lav g (nI j) (-1) a b = prI (C (a * 10 + b)))
def clB (v h : Int32) : Bool := !decide (h = (-1000)) && !decide (0 ≤ v + h)
def snk (g : Gr) (a b : Nat) (v : Int32) (t : Bool) (x : Int32) : Bool := clB v (lav g x (-1) b a) || (t && clB v (lav g x (-1) a b))
def rov (g : Gr) (C : Nat → Int32) (j : Nat) : Int32 := if bT g j = true then (if bW g j = true then gP g j + mmin (prI (C (e1 g j * 10 + e2 g j))) (prI (C (e2 g j * 10 + e1 g j))) else if prI (C (e2 g j * 10 + e1 g j)) = (-1000) then (-1000) else gP g j + prI (C (e2 g j * 10 + e1 g j))) else (-1000)
def rgS (g : Gr) (C : Nat → Int32) : Nat → Int32 | 0 => (-1000) | j + 1 => if rov g C j = (-1000) then rgS g C j else if rgS g C j = (-1000) then rov g C j else if rgS g C j ≤ rov g C j then rgS g C j else rov g C j
def hgS (C : Nat → Int32) (p : Nat) : Nat → Int32 | 0 => nI 0 | a + 1 => if ldB C a p = true then mmin (hgS C p a) (prI (C (a * 10 + p))) else hgS C p a
def lif (g : Gr) (C : Nat → Int32) (j : Nat) : Int32 := if bW g j = true then mmin (gP g j + (hgS C (e1 g j) (gN g) - hgS C (e2 g j) (gN g))) (gP g j - (hgS C (e1 g j) (gN g) - hgS C (e2 g j) (gN g))) else gP g j + (hgS C (e1 g j) (gN g) - hgS C (e2 g j) (gN g))
def ltS (C : Nat → Int32) (a b : Nat) (s : Int32) : Nat → Int32 | 0 => (-1000) | m + 1 => if (s >>> (nI m &&& 31)) &&& nI 1 = 0 then ltS C a b s m else if ldB C a m = true then (if ldB C m b = true then (if ltS C a b s m = (-1000) then prI (C (a * 10 + m)) + prI (C (m * 10 + b)) else mmin (ltS C a b s m) (prI (C (a * 10 + m)) + prI (C (m * 10 + b)))) else ltS C a b s m) else ltS C a b s m
def clI (C : Nat → Int32) (a : Nat) : Nat → Nat | 0 => 0 | b + 1 => clI C a b + (if a = b then 0 else if ldB C a b = true then 1 else 0)
def clO (C : Nat → Int32) (n : Nat) : Nat → Nat | 0 => 0 | a + 1 => clO C n a + clI C a n
end
section
/-! ===== plain facts that the walks use ===== -/
theorem tgt_nat {g : Gr} {x y : Int32} (G : Gok g) (h : ¬ tgt g x y = (-1)) : ∃ t, t < gN g ∧ tgt g x y = nI t := by
  unfold tgt at h ⊢
  by_cases h1 : inb x (gK g) = true
  · obtain ⟨j, hj, rfl⟩ := inb_nat h1 (by have := Gok_K G; omega)
    rw [if_pos h1, nI_clamp (by have := Gok_K G; omega)] at h ⊢
    unfold tgN at h ⊢
    by_cases b1 : bT g j = true
    · rw [if_pos b1] at h ⊢
      by_cases b2 : nI (e1 g j) = y
      · rw [if_pos b2] at h ⊢
        exact ⟨e2 g j, Gok_E2 G hj, rfl⟩
      · rw [if_neg b2] at h ⊢
        by_cases b3 : bW g j = true
        · rw [if_pos b3] at h ⊢
          by_cases b4 : nI (e2 g j) = y
          · rw [if_pos b4] at h ⊢
            exact ⟨e1 g j, Gok_B2 G hj, rfl⟩
          · rw [if_neg b4] at h
            exact absurd rfl h
        · rw [if_neg b3] at h
          exact absurd rfl h
    · rw [if_neg b1] at h
      exact absurd rfl h
  · rw [if_neg h1] at h
    exact absurd rfl h
theorem fj_step {P : Nat → Bool} {k i : Nat} (hf : fj P k 0 = fj P (k - i) i) (hi : i < k) (hP : P i = false) : fj P k 0 = fj P (k - (i + 1)) (i + 1) := by
  rw [hf, show k - i = (k - (i + 1)) + 1 by omega]
  simp only [fj, hP, Bool.false_eq_true, if_false]
theorem fj_found {P : Nat → Bool} {k i : Nat} (hf : fj P k 0 = fj P (k - i) i) (hi : i < k) (hP : P i = true) : fj P k 0 = some i := by
  rw [hf, show k - i = (k - (i + 1)) + 1 by omega]
  simp only [fj, hP, if_true]
theorem fj_none {P : Nat → Bool} {k i : Nat} (hf : fj P k 0 = fj P (k - i) i) (hi : k ≤ i) : fj P k 0 = none := by
  rw [hf, show k - i = 0 by omega]
  rfl
theorem le_nI_iff {x : Int32} {i : Nat} (hi : i < 2 ^ 31) : x ≤ nI i ↔ x.toNatClampNeg ≤ i := by
  have h1 : x.toNatClampNeg = x.toInt.toNat := rfl
  rw [Int32.le_iff_toInt_le, nI_toInt hi, h1]
  omega
theorem clamp_lt (x : Int32) : x.toNatClampNeg < 2 ^ 31 := by
  have h1 : x.toNatClampNeg = x.toInt.toNat := rfl
  have := x.toInt_lt
  rw [h1]
  omega
theorem low_same {R : Nat → Int32} {f t : Nat} {c : Int32} (h : lowB R f t c = false) : low R f t c = R := by
  unfold low
  by_cases h1 : R f = 2147483647
  · rw [if_pos h1]
  · rw [if_neg h1]
    by_cases h2 : R f + c < R t
    · simp only [lowB, h1, h2, decide_false, decide_true, Bool.not_false, Bool.and_self, Bool.true_eq_false] at h
    · rw [if_neg h2]
theorem rlx_same {g : Gr} {R : Nat → Int32} {j : Nat} (h : rlxB g R j = false) : rlx g R j = R := by
  simp only [rlxB, Bool.or_eq_false_iff] at h
  have h0 := low_same h.2
  unfold rlx
  by_cases hb : bW g j = true
  · rw [if_pos hb]
    have h1 := h.1
    rw [hb, Bool.true_and, h0] at h1
    rw [h0, low_same h1]
  · rw [if_neg hb, h0]
theorem swp_same {g : Gr} {x y : Int32} {R : Nat → Int32} : ∀ {k : Nat}, (swp g x y R k).2 = false → (swp g x y R k).1 = R := by
  intro k
  induction k with
  | zero => intro _; rfl
  | succ k ih =>
    intro h
    by_cases ho : okL g x y k = true
    · simp only [swp, ho, if_true, Bool.or_eq_false_iff] at h ⊢
      have h1 := ih h.1
      rw [h1] at h ⊢
      exact rlx_same h.2
    · simp only [swp, ho, if_false] at h ⊢
      exact ih h
theorem rnd_stat {g : Gr} {x y : Int32} {R : Nat → Int32} {r : Nat} (h : (swp g x y (rnd g x y R r) (gK g)).1 = rnd g x y R r) : ∀ d : Nat, rnd g x y R (r + d) = rnd g x y R r := by
  intro d
  induction d with
  | zero => rfl
  | succ d ih =>
    show (swp g x y (rnd g x y R (r + d)) (gK g)).1 = _
    rw [ih, h]
theorem rnd_end {g : Gr} {x y : Int32} {R R1 : Nat → Int32} {r n : Nat} (h1 : R1 = rnd g x y R r) (hs : (swp g x y R1 (gK g)).1 = R1) (hr : r ≤ n) : R1 = rnd g x y R n := by
  subst h1
  have := rnd_stat hs (n - r)
  rw [show r + (n - r) = n by omega] at this
  exact this.symm
theorem vp_cong {cA : ClassId} {n : Nat} {f g : Nat → Int32} (h : ∀ j, j < n → f j = g j) : vp_cell cA (n, .inl f) = vp_cell cA (n, .inl g) := by
  rw [vp_cell_i, vp_cell_i]
  unfold arrV
  congr 1
  apply Array.ext
  · simp
  · intro i h1 h2
    simp at h1
    simp [h i h1]
/-- two worlds that hold the same, as far as rows go -/
def eqv (p p' : Nat × va_E) : Prop := p = p' ∨ ∃ (x : Nat) (cA : ClassId) (n : Nat) (f g : Nat → Int32), p = (x, .inl (cA, n, .inl f)) ∧ p' = (x, .inl (cA, n, .inl g)) ∧ ∀ j, j < n → f j = g j
theorem eqv_1 {p p' : Nat × va_E} (h : eqv p p') : p.1 = p'.1 := by
  rcases h with rfl | ⟨x, cA, n, f, g, rfl, rfl, -⟩ <;> rfl
theorem wd_cong {D : va_G} {A : Nat → Prop} {s : State} {H : Heap} {locs : List Loc} {w w' : va_W} (h : wd D A s H locs w) (hc : ∀ (k : Nat) (p' : Nat × va_E), w'[k]? = some p' → ∃ p, w[k]? = some p ∧ eqv p p') : wd D A s H locs w' := by
  obtain ⟨hP, hD, hS⟩ := h
  refine ⟨fun k p' hk => ?_, ⟨fun i j p' r' hi hj e => ?_, fun k p' hk => ?_⟩, hS⟩
  · obtain ⟨p, h1, h2⟩ := hc k p' hk
    have h3 := hP k p h1
    rcases h2 with rfl | ⟨x, cA, n, f, g, rfl, rfl, hfg⟩
    · exact h3
    · show H[x]? = some (vp_cell cA (n, .inl g))
      rw [← vp_cong hfg]
      exact h3
  · obtain ⟨p, h1, h2⟩ := hc i p' hi
    obtain ⟨r, h3, h4⟩ := hc j r' hj
    exact hD.1 i j p r h1 h3 (by rw [eqv_1 h2, eqv_1 h4]; exact e)
  · obtain ⟨p, h1, h2⟩ := hc k p' hk
    rw [← eqv_1 h2]
    exact hD.2 k p h1
theorem wd_set {D : va_G} {A : Nat → Prop} {s : State} {H : Heap} {locs : List Loc} {w : va_W} {q0 x : Nat} {cA : ClassId} {n : Nat} {f g : Nat → Int32} (h : wd D A s H locs (w.set q0 (x, .inl (cA, n, .inl f)))) (hfg : ∀ j, j < n → f j = g j) : wd D A s H locs (w.set q0 (x, .inl (cA, n, .inl g))) := by
  refine wd_cong h (fun k p' hk => ?_)
  by_cases hkq : q0 = k
  · subst hkq
    have hl : q0 < w.length := by
      have := (List.getElem?_eq_some_iff.mp hk).1
      simpa using this
    rw [List.getElem?_set_self hl] at hk
    cases hk
    exact ⟨_, List.getElem?_set_self hl, Or.inr ⟨x, cA, n, f, g, rfl, rfl, hfg⟩⟩
  · rw [List.getElem?_set_ne hkq] at hk
    exact ⟨p', by rw [List.getElem?_set_ne hkq]; exact hk, Or.inl rfl⟩
theorem set_id {w : va_W} {q0 : Nat} {e : Nat × va_E} (h : w[q0]? = some e) : w.set q0 e = w := by
  apply List.ext_getElem?
  intro k
  by_cases hkq : q0 = k
  · subst hkq
    rw [List.getElem?_set_self (List.getElem?_eq_some_iff.mp h).1, h]
  · rw [List.getElem?_set_ne hkq]
end
section
abbrev r_J9_floorDiv_7cf53 : Room := { frames := 0, cells := 0, slots := 0, locals := 0 }
theorem v_J9_floorDiv_7cf53 : yJ9_floorDiv_7cf53.cls ≠ "java/lang/invoke/MethodHandle" ∧ yJ9_floorDiv_7cf53.cls ≠ "java/lang/invoke/VarHandle" ∧ (parseMethodDescriptor yJ9_floorDiv_7cf53.desc).map (fun d => d.parameters.length) = some 2 := by decide +kernel
set_option maxRecDepth 100000 in
set_option maxHeartbeats 4000000 in
theorem c_J9_floorDiv_7cf53 {l : Launch} {D : va_G} {cI cZ : ClassId} {w : va_W} {x y : Int32} (hy : ¬ y = 0) : cI_ l D cI cZ yJ9_floorDiv_7cf53 wsJ9_floorDiv_7cf53 r_J9_floorDiv_7cf53 [.int x, .int y] (w) (fun r u => r = fdv x y ∧ u = w) 0 0 := by
  refine cI_of (cc := cJ9_floorDiv_7cf53) (maxL := 3) (rt := .int) (by decide +kernel) rfl (Nat.le_of_ble_eq_true rfl) ?_
  intro p e s m args below meth c A Q ls S hk hW hl hR
  have hl : lv_has ls 3 [(0, .int x), (1, .int y)] := hl
  refine lv_iload_n S.1 S.2.1 dJ9_floorDiv_7cf53_0 rfl (lv_at hl 0 rfl) ?_
  refine lv_iload_n S.1 S.2.1 dJ9_floorDiv_7cf53_1 rfl (lv_at hl 1 rfl) ?_
  refine lv_idiv S.1 S.2.1 dJ9_floorDiv_7cf53_2 (by assumption) ?_
  refine lv_istore_n (lv' := [(2, .int (x / y)), (0, .int x), (1, .int y)]) S.1 S.2.1 dJ9_floorDiv_7cf53_3 rfl hl (by decide) rfl (fun ls hl => ?_)
  refine lv_iload_n S.1 S.2.1 dJ9_floorDiv_7cf53_4 rfl (lv_at hl 1 rfl) ?_
  refine lv_iload_n S.1 S.2.1 dJ9_floorDiv_7cf53_5 rfl (lv_at hl 2 rfl) ?_
  refine lv_ixor S.1 S.2.1 dJ9_floorDiv_7cf53_6 ?_
  refine lv_if_ge (tgt := 21) S.1 S.2.1 dJ9_floorDiv_7cf53_7 (by decide) (fun c_7 => ?_) (fun c_7 => ?_)
  · skip
    refine lv_iload_n S.1 S.2.1 dJ9_floorDiv_7cf53_21 rfl (lv_at hl 0 rfl) ?_
    exact hR _ _ _ _ _ _ _ _ dJ9_floorDiv_7cf53_22 rfl (Nat.le_of_ble_eq_true rfl) (Nat.le_of_ble_eq_true rfl) hW ⟨(by simp only [fdv, c_7, eq_self, decide_false, decide_true, Bool.not_true, Bool.not_false, Bool.and_true, Bool.true_and, Bool.and_false, Bool.false_and, Bool.or_true, Bool.true_or, Bool.or_false, Bool.false_or, ↓reduceIte, cond_true, cond_false, bI, and_true, true_and, and_false, false_and, or_true, true_or, or_false, false_or, not_true_eq_false, not_false_eq_true, if_true, if_false, Bool.false_eq_true, reduceCtorEq, ite_true, ite_false]), rfl⟩
  · skip
    refine lv_iload_n S.1 S.2.1 dJ9_floorDiv_7cf53_10 rfl (lv_at hl 0 rfl) ?_
    refine lv_iload_n S.1 S.2.1 dJ9_floorDiv_7cf53_11 rfl (lv_at hl 2 rfl) ?_
    refine lv_imul S.1 S.2.1 dJ9_floorDiv_7cf53_12 ?_
    refine lv_iload_n S.1 S.2.1 dJ9_floorDiv_7cf53_13 rfl (lv_at hl 1 rfl) ?_
    refine lv_icmp_eq (tgt := 21) S.1 S.2.1 dJ9_floorDiv_7cf53_14 (by decide) (fun c_14 => ?_) (fun c_14 => ?_)
    · skip
      refine lv_iload_n S.1 S.2.1 dJ9_floorDiv_7cf53_21 rfl (lv_at hl 0 rfl) ?_
      exact hR _ _ _ _ _ _ _ _ dJ9_floorDiv_7cf53_22 rfl (Nat.le_of_ble_eq_true rfl) (Nat.le_of_ble_eq_true rfl) hW ⟨(by simp only [fdv, c_7, c_14, eq_self, decide_false, decide_true, Bool.not_true, Bool.not_false, Bool.and_true, Bool.true_and, Bool.and_false, Bool.false_and, Bool.or_true, Bool.true_or, Bool.or_false, Bool.false_or, ↓reduceIte, cond_true, cond_false, bI, and_true, true_and, and_false, false_and, or_true, true_or, or_false, false_or, not_true_eq_false, not_false_eq_true, if_true, if_false, Bool.false_eq_true, reduceCtorEq, ite_true, ite_false]), rfl⟩
    · skip
      refine lv_iload_n S.1 S.2.1 dJ9_floorDiv_7cf53_17 rfl (lv_at hl 0 rfl) ?_
      refine lv_iconst (v := nI 1) S.1 S.2.1 dJ9_floorDiv_7cf53_18 (by decide) ?_
      refine lv_isub S.1 S.2.1 dJ9_floorDiv_7cf53_19 ?_
      exact hR _ _ _ _ _ _ _ _ dJ9_floorDiv_7cf53_20 rfl (Nat.le_of_ble_eq_true rfl) (Nat.le_of_ble_eq_true rfl) hW ⟨(by simp only [fdv, c_7, c_14, eq_self, decide_false, decide_true, Bool.not_true, Bool.not_false, Bool.and_true, Bool.true_and, Bool.and_false, Bool.false_and, Bool.or_true, Bool.true_or, Bool.or_false, Bool.false_or, ↓reduceIte, cond_true, cond_false, bI, and_true, true_and, and_false, false_and, or_true, true_or, or_false, false_or, not_true_eq_false, not_false_eq_true, if_true, if_false, Bool.false_eq_true, reduceCtorEq, ite_true, ite_false]), rfl⟩
abbrev r_J9_floorMod_7cf53 : Room := { frames := 0, cells := 0, slots := 0, locals := 0 }
theorem v_J9_floorMod_7cf53 : yJ9_floorMod_7cf53.cls ≠ "java/lang/invoke/MethodHandle" ∧ yJ9_floorMod_7cf53.cls ≠ "java/lang/invoke/VarHandle" ∧ (parseMethodDescriptor yJ9_floorMod_7cf53.desc).map (fun d => d.parameters.length) = some 2 := by decide +kernel
set_option maxRecDepth 100000 in
set_option maxHeartbeats 4000000 in
theorem c_J9_floorMod_7cf53 {l : Launch} {D : va_G} {cI cZ : ClassId} {w : va_W} {x y : Int32} (hy : ¬ y = 0) : cI_ l D cI cZ yJ9_floorMod_7cf53 wsJ9_floorMod_7cf53 r_J9_floorMod_7cf53 [.int x, .int y] (w) (fun r u => r = fmd x y ∧ u = w) 0 0 := by
  refine cI_of (cc := cJ9_floorMod_7cf53) (maxL := 3) (rt := .int) (by decide +kernel) rfl (Nat.le_of_ble_eq_true rfl) ?_
  intro p e s m args below meth c A Q ls S hk hW hl hR
  have hl : lv_has ls 3 [(0, .int x), (1, .int y)] := hl
  refine lv_iload_n S.1 S.2.1 dJ9_floorMod_7cf53_0 rfl (lv_at hl 0 rfl) ?_
  refine lv_iload_n S.1 S.2.1 dJ9_floorMod_7cf53_1 rfl (lv_at hl 1 rfl) ?_
  refine lv_irem S.1 S.2.1 dJ9_floorMod_7cf53_2 (by assumption) ?_
  refine lv_istore_n (lv' := [(2, .int (x - x / y * y)), (0, .int x), (1, .int y)]) S.1 S.2.1 dJ9_floorMod_7cf53_3 rfl hl (by decide) rfl (fun ls hl => ?_)
  refine lv_iload_n S.1 S.2.1 dJ9_floorMod_7cf53_4 rfl (lv_at hl 1 rfl) ?_
  refine lv_iload_n S.1 S.2.1 dJ9_floorMod_7cf53_5 rfl (lv_at hl 2 rfl) ?_
  refine lv_ixor S.1 S.2.1 dJ9_floorMod_7cf53_6 ?_
  refine lv_if_ge (tgt := 18) S.1 S.2.1 dJ9_floorMod_7cf53_7 (by decide) (fun c_7 => ?_) (fun c_7 => ?_)
  · skip
    refine lv_iload_n S.1 S.2.1 dJ9_floorMod_7cf53_18 rfl (lv_at hl 0 rfl) ?_
    exact hR _ _ _ _ _ _ _ _ dJ9_floorMod_7cf53_19 rfl (Nat.le_of_ble_eq_true rfl) (Nat.le_of_ble_eq_true rfl) hW ⟨(by simp only [fmd, c_7, eq_self, decide_false, decide_true, Bool.not_true, Bool.not_false, Bool.and_true, Bool.true_and, Bool.and_false, Bool.false_and, Bool.or_true, Bool.true_or, Bool.or_false, Bool.false_or, ↓reduceIte, cond_true, cond_false, bI, and_true, true_and, and_false, false_and, or_true, true_or, or_false, false_or, not_true_eq_false, not_false_eq_true, if_true, if_false, Bool.false_eq_true, reduceCtorEq, ite_true, ite_false]), rfl⟩
  · skip
    refine lv_iload_n S.1 S.2.1 dJ9_floorMod_7cf53_10 rfl (lv_at hl 0 rfl) ?_
    refine lv_if_eq (tgt := 18) S.1 S.2.1 dJ9_floorMod_7cf53_11 (by decide) (fun c_11 => ?_) (fun c_11 => ?_)
    · skip
      refine lv_iload_n S.1 S.2.1 dJ9_floorMod_7cf53_18 rfl (lv_at hl 0 rfl) ?_
      exact hR _ _ _ _ _ _ _ _ dJ9_floorMod_7cf53_19 rfl (Nat.le_of_ble_eq_true rfl) (Nat.le_of_ble_eq_true rfl) hW ⟨(by simp only [fmd, c_7, c_11, eq_self, decide_false, decide_true, Bool.not_true, Bool.not_false, Bool.and_true, Bool.true_and, Bool.and_false, Bool.false_and, Bool.or_true, Bool.true_or, Bool.or_false, Bool.false_or, ↓reduceIte, cond_true, cond_false, bI, and_true, true_and, and_false, false_and, or_true, true_or, or_false, false_or, not_true_eq_false, not_false_eq_true, if_true, if_false, Bool.false_eq_true, reduceCtorEq, ite_true, ite_false]), rfl⟩
    · skip
      refine lv_iload_n S.1 S.2.1 dJ9_floorMod_7cf53_14 rfl (lv_at hl 0 rfl) ?_
      refine lv_iload_n S.1 S.2.1 dJ9_floorMod_7cf53_15 rfl (lv_at hl 2 rfl) ?_
      refine lv_iadd S.1 S.2.1 dJ9_floorMod_7cf53_16 ?_
      exact hR _ _ _ _ _ _ _ _ dJ9_floorMod_7cf53_17 rfl (Nat.le_of_ble_eq_true rfl) (Nat.le_of_ble_eq_true rfl) hW ⟨(by simp only [fmd, c_7, c_11, eq_self, decide_false, decide_true, Bool.not_true, Bool.not_false, Bool.and_true, Bool.true_and, Bool.and_false, Bool.false_and, Bool.or_true, Bool.true_or, Bool.or_false, Bool.false_or, ↓reduceIte, cond_true, cond_false, bI, and_true, true_and, and_false, false_and, or_true, true_or, or_false, false_or, not_true_eq_false, not_false_eq_true, if_true, if_false, Bool.false_eq_true, reduceCtorEq, ite_true, ite_false]), rfl⟩
abbrev r_J6_bitCount_0f7a4 : Room := { frames := 0, cells := 0, slots := 0, locals := 0 }
theorem v_J6_bitCount_0f7a4 : yJ6_bitCount_0f7a4.cls ≠ "java/lang/invoke/MethodHandle" ∧ yJ6_bitCount_0f7a4.cls ≠ "java/lang/invoke/VarHandle" ∧ (parseMethodDescriptor yJ6_bitCount_0f7a4.desc).map (fun d => d.parameters.length) = some 1 := by decide +kernel
set_option maxRecDepth 100000 in
set_option maxHeartbeats 4000000 in
theorem c_J6_bitCount_0f7a4 {l : Launch} {D : va_G} {cI cZ : ClassId} {w : va_W} {x : Int32}  : cI_ l D cI cZ yJ6_bitCount_0f7a4 wsJ6_bitCount_0f7a4 r_J6_bitCount_0f7a4 [.int x] (w) (fun r u => r = bcnt x ∧ u = w) 0 0 := by
  refine cI_of (cc := cJ6_bitCount_0f7a4) (maxL := 1) (rt := .int) (plainFor_of_name (by decide +kernel)) rfl (Nat.le_of_ble_eq_true rfl) ?_
  intro p e s m args below meth c A Q ls S hk hW hl hR
  have hl : lv_has ls 1 [(0, .int x)] := hl
  refine lv_iload_n S.1 S.2.1 dJ6_bitCount_0f7a4_0 rfl (lv_at hl 0 rfl) ?_
  refine lv_iload_n S.1 S.2.1 dJ6_bitCount_0f7a4_1 rfl (lv_at hl 0 rfl) ?_
  refine lv_iconst (v := nI 1) S.1 S.2.1 dJ6_bitCount_0f7a4_2 (by decide) ?_
  refine lv_iushr S.1 S.2.1 dJ6_bitCount_0f7a4_3 rfl ?_
  refine lv_ldcw (v := 1431655765) S.1 S.2.1 S.2.2.2.1 (S.2.2.2.2 _ (List.mem_of_getElem? (i := 1) rfl)) dJ6_bitCount_0f7a4_4 ?_
  refine lv_iand S.1 S.2.1 dJ6_bitCount_0f7a4_7 ?_
  refine lv_isub S.1 S.2.1 dJ6_bitCount_0f7a4_8 ?_
  refine top_eq (y := bc1 x) rfl ?_
  refine lv_istore_n (lv' := [(0, .int (bc1 x))]) S.1 S.2.1 dJ6_bitCount_0f7a4_9 rfl hl (by decide) rfl (fun ls hl => ?_)
  refine lv_iload_n S.1 S.2.1 dJ6_bitCount_0f7a4_10 rfl (lv_at hl 0 rfl) ?_
  refine lv_ldcw (v := 858993459) S.1 S.2.1 S.2.2.2.1 (S.2.2.2.2 _ (List.mem_of_getElem? (i := 2) rfl)) dJ6_bitCount_0f7a4_11 ?_
  refine lv_iand S.1 S.2.1 dJ6_bitCount_0f7a4_14 ?_
  refine lv_iload_n S.1 S.2.1 dJ6_bitCount_0f7a4_15 rfl (lv_at hl 0 rfl) ?_
  refine lv_iconst (v := nI 2) S.1 S.2.1 dJ6_bitCount_0f7a4_16 (by decide) ?_
  refine lv_iushr S.1 S.2.1 dJ6_bitCount_0f7a4_17 rfl ?_
  refine lv_ldcw (v := 858993459) S.1 S.2.1 S.2.2.2.1 (S.2.2.2.2 _ (List.mem_of_getElem? (i := 2) rfl)) dJ6_bitCount_0f7a4_18 ?_
  refine lv_iand S.1 S.2.1 dJ6_bitCount_0f7a4_21 ?_
  refine lv_iadd S.1 S.2.1 dJ6_bitCount_0f7a4_22 ?_
  refine top_eq (y := bc2 (bc1 x)) rfl ?_
  refine lv_istore_n (lv' := [(0, .int (bc2 (bc1 x)))]) S.1 S.2.1 dJ6_bitCount_0f7a4_23 rfl hl (by decide) rfl (fun ls hl => ?_)
  refine lv_iload_n S.1 S.2.1 dJ6_bitCount_0f7a4_24 rfl (lv_at hl 0 rfl) ?_
  refine lv_iload_n S.1 S.2.1 dJ6_bitCount_0f7a4_25 rfl (lv_at hl 0 rfl) ?_
  refine lv_iconst (v := nI 4) S.1 S.2.1 dJ6_bitCount_0f7a4_26 (by decide) ?_
  refine lv_iushr S.1 S.2.1 dJ6_bitCount_0f7a4_27 rfl ?_
  refine lv_iadd S.1 S.2.1 dJ6_bitCount_0f7a4_28 ?_
  refine lv_ldcw (v := 252645135) S.1 S.2.1 S.2.2.2.1 (S.2.2.2.2 _ (List.mem_of_getElem? (i := 3) rfl)) dJ6_bitCount_0f7a4_29 ?_
  refine lv_iand S.1 S.2.1 dJ6_bitCount_0f7a4_32 ?_
  refine top_eq (y := bc3 (bc2 (bc1 x))) rfl ?_
  refine lv_istore_n (lv' := [(0, .int (bc3 (bc2 (bc1 x))))]) S.1 S.2.1 dJ6_bitCount_0f7a4_33 rfl hl (by decide) rfl (fun ls hl => ?_)
  refine lv_iload_n S.1 S.2.1 dJ6_bitCount_0f7a4_34 rfl (lv_at hl 0 rfl) ?_
  refine lv_iload_n S.1 S.2.1 dJ6_bitCount_0f7a4_35 rfl (lv_at hl 0 rfl) ?_
  refine lv_bipush (v := nI 8) S.1 S.2.1 dJ6_bitCount_0f7a4_36 (by decide) ?_
  refine lv_iushr S.1 S.2.1 dJ6_bitCount_0f7a4_38 rfl ?_
  refine lv_iadd S.1 S.2.1 dJ6_bitCount_0f7a4_39 ?_
  refine top_eq (y := bc4 (bc3 (bc2 (bc1 x)))) rfl ?_
  refine lv_istore_n (lv' := [(0, .int (bc4 (bc3 (bc2 (bc1 x)))))]) S.1 S.2.1 dJ6_bitCount_0f7a4_40 rfl hl (by decide) rfl (fun ls hl => ?_)
  refine lv_iload_n S.1 S.2.1 dJ6_bitCount_0f7a4_41 rfl (lv_at hl 0 rfl) ?_
  refine lv_iload_n S.1 S.2.1 dJ6_bitCount_0f7a4_42 rfl (lv_at hl 0 rfl) ?_
  refine lv_bipush (v := nI 16) S.1 S.2.1 dJ6_bitCount_0f7a4_43 (by decide) ?_
  refine lv_iushr S.1 S.2.1 dJ6_bitCount_0f7a4_45 rfl ?_
  refine lv_iadd S.1 S.2.1 dJ6_bitCount_0f7a4_46 ?_
  refine top_eq (y := bc5 (bc4 (bc3 (bc2 (bc1 x))))) rfl ?_
  refine lv_istore_n (lv' := [(0, .int (bc5 (bc4 (bc3 (bc2 (bc1 x))))))]) S.1 S.2.1 dJ6_bitCount_0f7a4_47 rfl hl (by decide) rfl (fun ls hl => ?_)
  refine lv_iload_n S.1 S.2.1 dJ6_bitCount_0f7a4_48 rfl (lv_at hl 0 rfl) ?_
  refine lv_bipush (v := nI 63) S.1 S.2.1 dJ6_bitCount_0f7a4_49 (by decide) ?_
  refine lv_iand S.1 S.2.1 dJ6_bitCount_0f7a4_51 ?_
  exact hR _ _ _ _ _ _ _ _ dJ6_bitCount_0f7a4_52 rfl (Nat.le_of_ble_eq_true rfl) (Nat.le_of_ble_eq_true rfl) hW ⟨rfl, rfl⟩

abbrev r_J7_fill_53178 : Room := { frames := 0, cells := 0, slots := 0, locals := 0 }
theorem v_J7_fill_53178 : yJ7_fill_53178.cls ≠ "java/lang/invoke/MethodHandle" ∧ yJ7_fill_53178.cls ≠ "java/lang/invoke/VarHandle" ∧ (parseMethodDescriptor yJ7_fill_53178.desc).map (fun d => d.parameters.length) = some 2 := by decide +kernel
set_option maxRecDepth 100000 in
set_option maxHeartbeats 4000000 in
/-- Arrays.fill(row, v): every place holds v -/
theorem c_J7_fill_53178 {l : Launch} {D : va_G} {cI cZ : ClassId} {w : va_W} {q0 x n : Nat} {f : Nat → Int32} {v : Int32} (ha : w[q0]? = some (x, .inl (cI, n, .inl f))) (hn : n < 65536) : cV_ l D cI cZ yJ7_fill_53178 wsJ7_fill_53178 r_J7_fill_53178 [.ref x, .int v] w (fun u => u = w.set q0 (x, .inl (cI, n, .inl (fun _ => v)))) 0 0 := by
  refine cV_of (cc := cJ7_fill_53178) (maxL := 4) (plainFor_of_name (by decide +kernel)) rfl (Nat.le_of_ble_eq_true rfl) ?_
  intro p e s m args below meth c A Q ls S hnm hk hW hl hR
  have hl : lv_has ls 4 [(0, .ref x), (1, .int v)] := hl
  have hq : q0 < w.length := (List.getElem?_eq_some_iff.mp ha).1
  refine lv_iconst (v := nI 0) S.1 S.2.1 dJ7_fill_53178_0 (by decide) ?_
  refine lv_istore_n (lv' := [(2, .int (nI 0)), (0, .ref x), (1, .int v)]) S.1 S.2.1 dJ7_fill_53178_1 rfl hl (by decide) rfl (fun ls hl => ?_)
  refine lv_aload_n S.1 S.2.1 dJ7_fill_53178_2 rfl (lv_at hl 1 rfl) ?_
  refine alen S hk hW q0 ha dJ7_fill_53178_3 ?_
  refine lv_istore_n (lv' := [(3, .int (nI n)), (2, .int (nI 0)), (0, .ref x), (1, .int v)]) S.1 S.2.1 dJ7_fill_53178_4 rfl hl (by decide) rfl (fun ls hl => ?_)
  have L : ∀ (dd i : Nat) (f1 : Nat → Int32), (∀ j, j < i → f1 j = v) → i ≤ n → n < i + dd → ∀ (H : Heap) (locs : List Loc) (ls : Array Slot), wd D A s H locs (w.set q0 (x, .inl (cI, n, .inl f1))) → lv_has ls 4 [(2, .int (nI i)), (3, .int (nI n)), (0, .ref x), (1, .int v)] → W p l e r_J7_fill_53178 s m args below meth c H locs 0 0 Q (F0 m 5 ls []) := by
    intro dd
    induction dd with
    | zero => intros; omega
    | succ dd ih =>
      intro i f1 hf hi hdd H locs ls hW hl
      have ha1 : (w.set q0 (x, .inl (cI, n, .inl f1)))[q0]? = some (x, .inl (cI, n, .inl f1)) := List.getElem?_set_self hq
      refine lv_iload_n S.1 S.2.1 dJ7_fill_53178_5 rfl (lv_at hl 0 rfl) ?_
      refine lv_iload_n S.1 S.2.1 dJ7_fill_53178_6 rfl (lv_at hl 1 rfl) ?_
      refine icge_n (tgt := 20) S (by omega) (by omega) dJ7_fill_53178_7 (by decide) (fun c_7 => ?_) (fun c_7 => ?_)
      · refine hR _ _ _ _ _ _ _ dJ7_fill_53178_20 (Nat.le_of_ble_eq_true rfl) (Nat.le_of_ble_eq_true rfl) (wd_set hW (g := fun _ => v) (fun j hj => hf j (by omega))) rfl
      · refine lv_aload_n S.1 S.2.1 dJ7_fill_53178_10 rfl (lv_at hl 2 rfl) ?_
        refine lv_iload_n S.1 S.2.1 dJ7_fill_53178_11 rfl (lv_at hl 0 rfl) ?_
        refine lv_iload_n S.1 S.2.1 dJ7_fill_53178_12 rfl (lv_at hl 3 rfl) ?_
        refine ist (w' := w.set q0 (x, .inl (cI, n, .inl (upd f1 i v)))) S hk hW q0 ha1 i rfl (by omega) hn dJ7_fill_53178_13 (List.set_set _) (fun H locs hW => ?_)
        refine lv_iinc (v := nI (i + 1)) (lv' := [(2, .int (nI (i + 1))), (3, .int (nI n)), (0, .ref x), (1, .int v)]) (k := 0) S.1 S.2.1 dJ7_fill_53178_14 hl rfl (nI_1 _) (by decide) rfl (fun ls hl => ?_)
        refine lv_goto (tgt := 5) S.1 S.2.1 dJ7_fill_53178_17 (by decide) ?_
        refine ih (i + 1) (upd f1 i v) (fun j hj => ?_) (by omega) (by omega) _ _ _ hW hl
        by_cases hji : j = i
        · subst hji; exact pk_us
        · rw [pk_un hji]; exact hf j (by omega)
  exact L (n + 1) 0 f (fun j hj => absurd hj (by omega)) (by omega) (by omega) _ _ _ (by rw [set_id ha]; exact hW) (lv_sub hl [1, 0, 2, 3] rfl)
section NEWA
variable {p : Program} {l : Launch} {e : Env} {R : Room} {s : State} {m : MethodId} {args : Array Value} {below : List Frame} {meth : Method} {c : Code} {H : Heap} {locs : List Loc} {cells slots : Nat} {Q : State → Prop}
variable {pc nL n : Nat} {ls : Array Slot} {rest : List Value} {cc : ByteArray} {Ts : List Cond} {own : String} {D : va_G} {cI cZ : ClassId} {A : Nat → Prop} {w : va_W}
/-- a new row of ints -/
theorem newI (S : CallFix p m c cc nL s args Ts own) (hk : kn D cI cZ A s) (hW : wd D A s H locs w) (i : Nat) (harr : Ts[i]? = some (.arrayClass .int)) (hn : n < 65536) (hcells : cells + 1 ≤ R.cells) (hslots : slots + n ≤ R.slots) (hdg : decode cc pc = .ok (.newarray .int, 2))
    (kk : ∀ (x : Nat) (H1 : Heap), wd D A s H1 locs (w ++ [(x, .inl (cI, n, .inl (fun _ => 0)))]) → W p l e R s m args below meth c H1 locs (cells + 1) (slots + n) Q (F0 m (pc + 2) ls (.ref x :: rest))) : W p l e R s m args below meth c H locs cells slots Q (F0 m pc ls (.int (nI n) :: rest)) := by
  refine va_newa (atype := .int) (ty := .int) (a0 := (n, .inl (fun _ => 0))) S.1 S.2.1 (S.2.2.2.2 _ (List.mem_of_getElem? harr)) rfl hk.1 hW.1 hW.2.1 hW.2.2 hk.2.2 (fun cA => rfl) (nI_pos (by omega)) (nI_clamp (by omega)) (by show n * 4 ≤ _; omega) hcells hslots hdg (fun x cA H1 hK1 hP1 hD1 hS1 => ?_)
  have h1 : s.vm.findClass ("[" ++ FieldType.int.toString) = some cA := (hK1.2 2 (cA, .int) rfl).2
  have h2 : s.vm.findClass ("[" ++ FieldType.int.toString) = some cI := (hk.1.2 0 (cI, .int) rfl).2
  have h3 : cA = cI := Option.some.inj (h1.symm.trans h2)
  subst h3
  exact kk x H1 ⟨hP1, hD1, hS1⟩
theorem newZ (S : CallFix p m c cc nL s args Ts own) (hk : kn D cI cZ A s) (hW : wd D A s H locs w) (i : Nat) (harr : Ts[i]? = some (.arrayClass .boolean)) (hn : n < 65536) (hcells : cells + 1 ≤ R.cells) (hslots : slots + n ≤ R.slots) (hdg : decode cc pc = .ok (.newarray .boolean, 2))
    (kk : ∀ (x : Nat) (H1 : Heap), wd D A s H1 locs (w ++ [(x, .inl (cZ, n, .inl (fun _ => 0)))]) → W p l e R s m args below meth c H1 locs (cells + 1) (slots + n) Q (F0 m (pc + 2) ls (.ref x :: rest))) : W p l e R s m args below meth c H locs cells slots Q (F0 m pc ls (.int (nI n) :: rest)) := by
  refine va_newa (atype := .boolean) (ty := .boolean) (a0 := (n, .inl (fun _ => 0))) S.1 S.2.1 (S.2.2.2.2 _ (List.mem_of_getElem? harr)) rfl hk.1 hW.1 hW.2.1 hW.2.2 hk.2.2 (fun cA => rfl) (nI_pos (by omega)) (nI_clamp (by omega)) (by show n * 1 ≤ _; omega) hcells hslots hdg (fun x cA H1 hK1 hP1 hD1 hS1 => ?_)
  have h1 : s.vm.findClass ("[" ++ FieldType.boolean.toString) = some cA := (hK1.2 2 (cA, .boolean) rfl).2
  have h2 : s.vm.findClass ("[" ++ FieldType.boolean.toString) = some cZ := (hk.1.2 1 (cZ, .boolean) rfl).2
  have h3 : cA = cZ := Option.some.inj (h1.symm.trans h2)
  subst h3
  exact kk x H1 ⟨hP1, hD1, hS1⟩
end NEWA
end
